theorem kdl_new {m : MM} {q : Nat × Nat} : kdl (mk m q) (nx m) = some q := by
  show (shp m ++ [q])[(shp m).length]? = some q
  simp
theorem kdl_old {m : MM} {q z : Nat × Nat} {a : Nat} (h : kdl m a = some z) : kdl (mk m q) a = some z := by
  match a, h with
  | n + 4, h =>
    have h : (shp m)[n]? = some z := h
    show (shp m ++ [q])[n]? = some z
    rw [List.getElem?_append_left (List.getElem?_eq_some_iff.mp h).1]; exact h
theorem Fx_nx {m : MM} (h : Fx m) : 284 ≤ nx m := by
  obtain ⟨ext, e⟩ := h.1
  unfold nx; rw [e, List.length_append, show S0.length = 280 from by decide +kernel]; omega
theorem mk_I {m : MM} {q : Nat × Nat} {a k : Nat} (h : a ≠ nx m) : ldI (mk m q) a k = ldI m a k := if_neg h
theorem mk_L {m : MM} {q : Nat × Nat} {a k : Nat} (h : a ≠ nx m) : ldL (mk m q) a k = ldL m a k := if_neg h
theorem mk_R {m : MM} {q : Nat × Nat} {a k : Nat} (h : a ≠ nx m) : ldR (mk m q) a k = ldR m a k := if_neg h
theorem Fx_mk {m : MM} {q : Nat × Nat} (h : Fx m) : Fx (mk m q) := by
  have hn := Fx_nx h
  obtain ⟨⟨ext, e⟩, h2⟩ := h
  refine ⟨⟨ext ++ [q], ?_⟩, fun a k ha => (mk_R (by have := ha.1; omega)).trans (h2 a k ha)⟩
  show shp m ++ [q] = _
  rw [e, List.append_assoc]
def cpM (m : MM) (L : Nat) : MM := stRow (mk m (13, L)) (nx m) (va_cpy (ldI (mk m (13, L)) 153) (ldI (mk m (13, L)) (nx m)) 0 0 L)
theorem S_copyOf {g : GG} {m : MM} {Q : Out → Prop} {L : Nat} (hF : Fx m) (hL : L < 400) (k : Q (.inl (some (.ref (nx m))), cpM m L)) : Cl g 4 1 400 mJ7_copyOf_59c91 [.ref 153, .int (nI L)] m Q := by
  have hF2 : Fx (mk m (13, L)) := Fx_mk hF
  refine Cl.of rfl (by decide) (Nat.le_of_ble_eq_true rfl) ?_
  show Wp g mJ7_copyOf_59c91 4 1 400 0 [.ref 153, .int (nI L), .retAddr 0] [] m Q
  refine r_iload_n dJ7_copyOf_59c91_0 rfl ?_
  refine r_aload_n dJ7_copyOf_59c91_1 rfl ?_
  refine r_alen _ dJ7_copyOf_59c91_2 ⟨Nat.le_of_ble_eq_true rfl, Nat.le_of_ble_eq_true rfl⟩ (by exact k_153 hF) rfl ?_
  refine r_icmp_ne 14 dJ7_copyOf_59c91_3 rfl (fun _ => ?_) (fun hz => absurd hz (nI_ne2 (a := L) (b := 400) (by omega) (by omega) (by omega)))
  refine r_iload_n dJ7_copyOf_59c91_14 rfl ?_
  refine r_newI (c := 0) (n := 0) 400 dJ7_copyOf_59c91_15 ac_I (nI_pos (by omega)) (by rw [nI_cl L (by omega)]; omega) (by omega) ?_
  rw [nI_cl L (by omega)]
  refine sa_2 dJ7_copyOf_59c91_17 rfl (Nat.le_of_ble_eq_true rfl) ?_
  refine r_aload_n dJ7_copyOf_59c91_18 rfl ?_
  refine r_iconst (0) dJ7_copyOf_59c91_19 rfl ?_
  refine r_aload_n dJ7_copyOf_59c91_20 rfl ?_
  refine r_iconst (0) dJ7_copyOf_59c91_21 rfl ?_
  refine r_aload_n dJ7_copyOf_59c91_22 rfl ?_
  refine r_alen _ dJ7_copyOf_59c91_23 ⟨Nat.le_of_ble_eq_true rfl, Nat.le_of_ble_eq_true rfl⟩ (by exact k_153 hF2) rfl ?_
  refine r_iload_n dJ7_copyOf_59c91_24 rfl ?_
  refine r_mminI dJ7_copyOf_59c91_25 msJ7_304 (Nat.le_of_ble_eq_true rfl) (by exact Nat.le_of_ble_eq_true rfl) ?_
  rw [if_pos (show nI L < Int32.ofNat 400 from nI_lt (a := L) (b := 400) hL (by omega))]
  refine r_acopy dJ7_copyOf_59c91_28 acJ7 ac_n ac_s ac_i (Nat.le_of_ble_eq_true rfl) (by exact Nat.le_of_ble_eq_true rfl) (by exact k_153 hF2) kdl_new (by decide) (by decide) (nI_pos (by omega)) (by rw [nI_cl L (by omega)]; show 0 + L ≤ 400; omega) (by rw [nI_cl L (by omega)]; show 0 + L ≤ L; omega) ?_
  rw [nI_cl L (by omega)]
  refine r_aload_n dJ7_copyOf_59c91_31 rfl ?_
  refine r_areturn dJ7_copyOf_59c91_32 rfl rfl ?_
  exact k
theorem S_X3_ini2 {g : GG} {m : MM} {Q : Out → Prop} {p a : Nat} (hp : kdl m p = some (3, 0)) (hp4 : 4 ≤ p) (k : Q (.inl none, stR m p 0 a)) : Cl g 1 0 0 mX3_init [.ref p, .ref a] m Q := by
  refine Cl.of rfl (by decide) (Nat.le_of_ble_eq_true rfl) ?_
  show Wp g mX3_init 1 0 0 0 [.ref p, .ref a] [] m Q
  refine r_aload_n dX3_init_0 rfl ?_
  refine r_objinit dX3_init_1 oiX3_1 oi_i oi_c hp4 (Nat.le_of_ble_eq_true rfl) (by exact Nat.le_of_ble_eq_true rfl) ?_
  refine r_aload_n dX3_init_4 rfl ?_
  refine r_aload_n dX3_init_5 rfl ?_
  refine r_putR dX3_init_6 (fpX3_7 _ rfl rfl) rfl hp ?_
  refine r_return dX3_init_9 rfl ?_
  exact k
/-- m' has more than m, and what was there is as it was -/
def Ext (m m' : MM) : Prop := (∃ ext, shp m' = shp m ++ ext) ∧ ∀ a, a < nx m → (∀ k, ldI m' a k = ldI m a k) ∧ (∀ k, ldL m' a k = ldL m a k) ∧ ∀ k, ldR m' a k = ldR m a k
theorem Ext.F {m m' : MM} (h : Ext m m') (hF : Fx m) : Fx m' := by
  have hn := Fx_nx hF
  obtain ⟨⟨e2, h1⟩, h2⟩ := h
  obtain ⟨⟨ext, e⟩, h3⟩ := hF
  exact ⟨⟨ext ++ e2, by rw [h1, e, List.append_assoc]⟩, fun a k ha => ((h2 a (by have := ha.1; omega)).2.2 k).trans (h3 a k ha)⟩
theorem Ext.k {m m' : MM} (h : Ext m m') {a : Nat} {z : Nat × Nat} (hk : kdl m a = some z) : kdl m' a = some z ∧ a < nx m := by
  obtain ⟨⟨e2, h1⟩, h2⟩ := h
  match a, hk with
  | n + 4, hk =>
    have hk : (shp m)[n]? = some z := hk
    have hl := (List.getElem?_eq_some_iff.mp hk).1
    refine ⟨?_, by unfold nx; omega⟩
    show (shp m')[n]? = some z
    rw [h1, List.getElem?_append_left hl]; exact hk
def fiM (m : MM) (L : Nat) : MM := stR (cpM (mk m (3, 0)) L) (nx m) 0 (nx m + 1)
theorem fiM_ext {m : MM} {L : Nat} : Ext m (fiM m L) := by
  have e : nx (mk m (3, 0)) = nx m + 1 := nx_mk m _
  refine ⟨⟨[(3, 0), (13, L)], show (shp m ++ [(3, 0)]) ++ [(13, L)] = _ by rw [List.append_assoc]; rfl⟩, fun a ha => ⟨fun k => ?_, fun k => ?_, fun k => ?_⟩⟩
  · show ldI (stRow (mk (mk m (3, 0)) (13, L)) (nx (mk m (3, 0))) _) a k = _
    rw [ldI_stRow, if_neg (by omega), mk_I (by omega), mk_I (by omega)]
  · show ldL (mk (mk m (3, 0)) (13, L)) a k = _
    rw [mk_L (by omega), mk_L (by omega)]
  · show (if a = nx m ∧ k = 0 then nx m + 1 else ldR (mk (mk m (3, 0)) (13, L)) a k) = _
    rw [if_neg (by omega), mk_R (by omega), mk_R (by omega)]
theorem fiM_p {m : MM} {L : Nat} (hF : Fx m) : kdl (fiM m L) (nx m) = some (3, 0) ∧ ldR (fiM m L) (nx m) 0 = nx m + 1 ∧ kdl (fiM m L) (nx m + 1) = some (13, L) ∧ ∀ j, j < L → ldI (fiM m L) (nx m + 1) j = ldI m 153 j := by
  have e : nx (mk m (3, 0)) = nx m + 1 := nx_mk m _
  have hn := Fx_nx hF
  refine ⟨kdl_old kdl_new, if_pos ⟨rfl, rfl⟩, ?_, fun j hj => ?_⟩
  · rw [← e]; exact kdl_new
  · show ldI (stRow (mk (mk m (3, 0)) (13, L)) (nx (mk m (3, 0))) (va_cpy (ldI (mk (mk m (3, 0)) (13, L)) 153) (ldI (mk (mk m (3, 0)) (13, L)) (nx (mk m (3, 0)))) 0 0 L)) (nx m + 1) j = _
    rw [ldI_stRow, if_pos e.symm]
    unfold va_cpy
    rw [if_pos ⟨Nat.zero_le _, by omega⟩, Nat.sub_zero, Nat.zero_add, mk_I (by omega), mk_I (by omega)]
theorem S_X4_finished {g : GG} {m : MM} {Q : Out → Prop} {L : Nat} (hF : Fx m) (h1 : ldI m 152 1 = nI L) (hL : L < 400) (k : Q (.inl (some (.ref (nx m))), fiM m L)) : Cl g 5 2 401 mX4_finished [.ref 152] m Q := by
  have hn := Fx_nx hF
  have hF2 : Fx (mk m (3, 0)) := Fx_mk hF
  have e : nx (mk m (3, 0)) = nx m + 1 := nx_mk m _
  refine Cl.of rfl (by decide) (Nat.le_of_ble_eq_true rfl) ?_
  show Wp g mX4_finished 5 (1 + 1) (400 + nF 3) 0 [.ref 152] [] m Q
  refine r_new dX4_finished_0 (Nat.le_of_ble_eq_true rfl) clX4_62 inX3.1 inX3.2 ?_
  refine r_dup dX4_finished_3 rfl ?_
  refine r_aload_n dX4_finished_4 rfl ?_
  refine r_getRc dX4_finished_5 fgX4_9 rfl (by exact k_152 hF2) (by exact r_152_0 hF2) ?_
  refine r_aload_n dX4_finished_8 rfl ?_
  refine r_getIc (nI L) dX4_finished_9 fgX4_37 rfl (by exact k_152 hF2) (by exact (mk_I (by omega)).trans h1) ?_
  refine r_callS2 (d1 := 4) (c1 := 1) (n1 := 400) (c := 0) (n := 0) dX4_finished_12 msX4_64 rfl (Nat.le_of_ble_eq_true rfl) (by exact Nat.le_of_ble_eq_true rfl) ?_
  refine S_copyOf hF2 hL ?_
  show Wp g mX4_finished _ _ _ 15 _ (_ :: _) _ Q
  refine r_callI1 (d1 := 1) (c1 := 0) (n1 := 0) dX4_finished_15 miX4_70 (Nat.le_of_ble_eq_true rfl) (by exact Nat.le_of_ble_eq_true rfl) (by omega) ?_
  refine S_X3_ini2 (kdl_old kdl_new) (by omega) ?_
  show Wp g mX4_finished _ _ _ 18 _ (_ :: _) _ Q
  refine r_areturn dX4_finished_18 rfl rfl ?_
  rw [e]; exact k
