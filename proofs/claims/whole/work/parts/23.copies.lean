theorem S_makeBetter0 {g : GG} {m : MM} {Q : Out → Prop} (hF : Fx m) {f : Nat → Int32} (hV : Vf f) (hW : Wd f 5 m) {h : Nat} (hh0 : f 27 = nI h) (hh : h < nH f) {i j : Nat} (hi : i < nS f h) (hj2 : j < nS f h) (hx : XC m (8 + 3 * h) i j) (h6 : ldI m 159 6 = 0) (h7 : ldI m 159 7 = nI i) (h8 : ldI m 159 8 = nI j) (k : Q (.inl none, xcM m (8 + 3 * h) i j)) : Cl g 3 0 0 mX0_makeBetter [.ref 159] m Q := by
  refine Cl.of rfl (by decide) (Nat.le_of_ble_eq_true rfl) ?_
  show Wp g mX0_makeBetter 3 0 0 0 [.ref 159, .retAddr 0] [] m Q
  have hn6 := hV.1.1.2
  refine r_aload_n dX0_makeBetter_0 rfl ?_
  refine r_getRc dX0_makeBetter_1 fgX0_9 rfl (by exact k_159 hF) (by exact r_159_0 hF) ?_
  refine r_aload_n dX0_makeBetter_4 rfl ?_
  refine r_getRc dX0_makeBetter_5 fgX0_9 rfl (by exact k_159 hF) (by exact r_159_0 hF) ?_
  refine r_getRc dX0_makeBetter_8 fgX0_47 rfl (by exact k_5 hF) (by exact r_5_4 hF) ?_
  refine r_getIc (f 27) dX0_makeBetter_11 fgX0_60 rfl (by exact k_29 hF) (by exact hW.2.2.2.1 0 (by omega)) ?_
  refine r_callV1 (ci := 10) (d1 := 0) (c1 := 0) (n1 := 0) dX0_makeBetter_14 mvX0_64 rfl ⟨(Nat.le_of_ble_eq_true rfl), rfl⟩ (Nat.le_of_ble_eq_true rfl) (by exact Nat.le_of_ble_eq_true rfl) (by exact k_5 hF) ?_
  refine S_X10_hullAt (n := nH f) hF (by exact hW.1.1.trans hV.1.1.1) hV.1.1.2 (fun j hj hjn => ?_) (fun h9 => (nI_spec hh0 hh (by omega) h9).elim)
  obtain rfl := (nI_eq (by omega) (by omega)).mp (hh0.symm.trans hj)
  show Wp g mX0_makeBetter _ _ _ 17 _ (_ :: _) _ Q
  refine sa_1 dX0_makeBetter_17 rfl (Nat.le_of_ble_eq_true rfl) ?_
  refine r_aload_n dX0_makeBetter_18 rfl ?_
  refine r_ifnull 38 dX0_makeBetter_19 rfl (fun hnull => ?_) (fun hnull => ?_)
  ·
    exact absurd hnull (by omega)
  ·
    refine r_aload_n dX0_makeBetter_22 rfl ?_
    refine r_aload_n dX0_makeBetter_23 rfl ?_
    refine r_getIc (0) dX0_makeBetter_24 fgX0_250 rfl (by exact k_159 hF) (by exact h6) ?_
    refine r_aload_n dX0_makeBetter_27 rfl ?_
    refine r_getIc (nI i) dX0_makeBetter_28 fgX0_270 rfl (by exact k_159 hF) (by exact h7) ?_
    refine r_aload_n dX0_makeBetter_31 rfl ?_
    refine r_getIc (nI j) dX0_makeBetter_32 fgX0_273 rfl (by exact k_159 hF) (by exact h8) ?_
    refine r_callV3 (ci := 1) (d1 := 2) (c1 := 0) (n1 := 0) dX0_makeBetter_35 mvX0_262 rfl ⟨(Nat.le_of_ble_eq_true rfl), rfl⟩ (Nat.le_of_ble_eq_true rfl) (by exact Nat.le_of_ble_eq_true rfl) (by exact hu0_k hF (by omega)) ?_
    refine S_exch0 (by exact hu0_k hF (by omega)) (by exact hb0_r hF (by omega)) (by exact hb0_k hF (by omega)) (by exact hd0_r hF (by omega)) (by exact hd0_k hF (by omega)) (by exact (hW.2.1 h hh).2.1.trans (hV.2.1 h hh).2.1) (hV.2.1 h hh).2.2.2.1 hi hj2 hx ?_
    show Wp g mX0_makeBetter _ _ _ 38 _ [] _ Q
    refine r_return dX0_makeBetter_38 rfl ?_
    exact k
theorem S_makeBetter1 {g : GG} {m : MM} {Q : Out → Prop} (hF : Fx m) {f : Nat → Int32} (hV : Vf f) (hW : Wd f 5 m) {h : Nat} (hh0 : f 27 = nI h) (hh : h < nH f) {i j : Nat} (hi : i < nS f h) (hj2 : j < nS f h) (hx : XC m (9 + 3 * h) i j) (h6 : ldI m 159 6 = 1) (h7 : ldI m 159 7 = nI i) (h8 : ldI m 159 8 = nI j) (k : Q (.inl none, xcM m (9 + 3 * h) i j)) : Cl g 3 0 0 mX0_makeBetter [.ref 159] m Q := by
  refine Cl.of rfl (by decide) (Nat.le_of_ble_eq_true rfl) ?_
  show Wp g mX0_makeBetter 3 0 0 0 [.ref 159, .retAddr 0] [] m Q
  have hn6 := hV.1.1.2
  refine r_aload_n dX0_makeBetter_0 rfl ?_
  refine r_getRc dX0_makeBetter_1 fgX0_9 rfl (by exact k_159 hF) (by exact r_159_0 hF) ?_
  refine r_aload_n dX0_makeBetter_4 rfl ?_
  refine r_getRc dX0_makeBetter_5 fgX0_9 rfl (by exact k_159 hF) (by exact r_159_0 hF) ?_
  refine r_getRc dX0_makeBetter_8 fgX0_47 rfl (by exact k_5 hF) (by exact r_5_4 hF) ?_
  refine r_getIc (f 27) dX0_makeBetter_11 fgX0_60 rfl (by exact k_29 hF) (by exact hW.2.2.2.1 0 (by omega)) ?_
  refine r_callV1 (ci := 10) (d1 := 0) (c1 := 0) (n1 := 0) dX0_makeBetter_14 mvX0_64 rfl ⟨(Nat.le_of_ble_eq_true rfl), rfl⟩ (Nat.le_of_ble_eq_true rfl) (by exact Nat.le_of_ble_eq_true rfl) (by exact k_5 hF) ?_
  refine S_X10_hullAt (n := nH f) hF (by exact hW.1.1.trans hV.1.1.1) hV.1.1.2 (fun j hj hjn => ?_) (fun h9 => (nI_spec hh0 hh (by omega) h9).elim)
  obtain rfl := (nI_eq (by omega) (by omega)).mp (hh0.symm.trans hj)
  show Wp g mX0_makeBetter _ _ _ 17 _ (_ :: _) _ Q
  refine sa_1 dX0_makeBetter_17 rfl (Nat.le_of_ble_eq_true rfl) ?_
  refine r_aload_n dX0_makeBetter_18 rfl ?_
  refine r_ifnull 38 dX0_makeBetter_19 rfl (fun hnull => ?_) (fun hnull => ?_)
  ·
    exact absurd hnull (by omega)
  ·
    refine r_aload_n dX0_makeBetter_22 rfl ?_
    refine r_aload_n dX0_makeBetter_23 rfl ?_
    refine r_getIc (1) dX0_makeBetter_24 fgX0_250 rfl (by exact k_159 hF) (by exact h6) ?_
    refine r_aload_n dX0_makeBetter_27 rfl ?_
    refine r_getIc (nI i) dX0_makeBetter_28 fgX0_270 rfl (by exact k_159 hF) (by exact h7) ?_
    refine r_aload_n dX0_makeBetter_31 rfl ?_
    refine r_getIc (nI j) dX0_makeBetter_32 fgX0_273 rfl (by exact k_159 hF) (by exact h8) ?_
    refine r_callV3 (ci := 1) (d1 := 2) (c1 := 0) (n1 := 0) dX0_makeBetter_35 mvX0_262 rfl ⟨(Nat.le_of_ble_eq_true rfl), rfl⟩ (Nat.le_of_ble_eq_true rfl) (by exact Nat.le_of_ble_eq_true rfl) (by exact hu0_k hF (by omega)) ?_
    refine S_exch1 (by exact hu0_k hF (by omega)) (by exact hb0_r hF (by omega)) (by exact hb0_k hF (by omega)) (by exact hd0_r hF (by omega)) (by exact hd0_k hF (by omega)) (by exact (hW.2.1 h hh).2.1.trans (hV.2.1 h hh).2.1) (hV.2.1 h hh).2.2.2.1 hi hj2 hx ?_
    show Wp g mX0_makeBetter _ _ _ 38 _ [] _ Q
    refine r_return dX0_makeBetter_38 rfl ?_
    exact k
theorem cpR_off {m : MM} {a c e n lo hi : Nat} {M : MM} (o : Off lo hi M m) (h1 : lo ≤ a ∧ a ≤ hi) (h2 : lo ≤ c ∧ c ≤ hi) : Off lo hi M (cpR m a c e n) := (o.stRow h2.1 h2.2).stI h1.1 h1.2
theorem cpR_n {m : MM} {a c e n : Nat} : ldI (cpR m a c e n) a 1 = nI n := ld_s
theorem cpR_c {m : MM} {a c e n j : Nat} (h : c ≠ a) (hj : j < n) : ldI (cpR m a c e n) c j = ldI m e j := ld_n (by omega) ((if_pos rfl).trans (if_pos hj))
theorem cpR_o {m : MM} {a c e n x j : Nat} (h : x ≠ a) (h2 : x ≠ c) : ldI (cpR m a c e n) x j = ldI m x j := ld_n (by omega) (if_neg h2)
theorem S_X8_usual {g : GG} {m : MM} {Q : Out → Prop} (hF : Fx m) {e : Nat} (hn : ldI m 33 1 = nI e) (he : e ≤ 20) (k : ∀ v, MidV (ldI m 34) e v → Q (.inl (some (.int (nI e - bcV (bitsF (strg (ldI m 34) v 200) e)))), m)) : Cl g 4 0 0 mX8_usual [.ref 32] m Q := by
  refine Cl.of rfl (by decide) (Nat.le_of_ble_eq_true rfl) ?_
  show Wp g mX8_usual 4 0 0 0 [.ref 32] [] m Q
  refine r_aload_n dX8_usual_0 rfl ?_
  refine r_callV0 (ci := 8) (d1 := 1) (c1 := 0) (n1 := 0) dX8_usual_1 mvX8_44 rfl ⟨(Nat.le_of_ble_eq_true rfl), rfl⟩ (Nat.le_of_ble_eq_true rfl) (by exact Nat.le_of_ble_eq_true rfl) (by exact k_32 hF) ?_
  refine S_X8_known hF ?_
  rw [hn]
  show Wp g mX8_usual _ _ _ 4 _ (_ :: _) _ Q
  refine r_aload_n dX8_usual_4 rfl ?_
  refine r_sipush (200) dX8_usual_5 rfl ?_
  refine r_callV1 (ci := 8) (d1 := 3) (c1 := 0) (n1 := 0) dX8_usual_8 mvX8_56 rfl ⟨(Nat.le_of_ble_eq_true rfl), rfl⟩ (Nat.le_of_ble_eq_true rfl) (by exact Nat.le_of_ble_eq_true rfl) (by exact k_32 hF) ?_
  refine S_X8_strangeBits hF hn he (fun v hv => ?_)
  show Wp g mX8_usual _ _ _ 11 _ (_ :: _) _ Q
  refine r_callS1 (d1 := 0) (c1 := 0) (n1 := 0) dX8_usual_11 msX8_59 rfl (Nat.le_of_ble_eq_true rfl) (by exact Nat.le_of_ble_eq_true rfl) ?_
  refine S_J6_bitCount_0f7a4 ?_
  show Wp g mX8_usual _ _ _ 14 _ (_ :: _) _ Q
  refine r_isub dX8_usual_14 ?_
  refine r_ireturn dX8_usual_15 rfl rfl ?_
  exact k v hv
theorem S_cpRow {g : GG} {m : MM} {Q : Out → Prop} {a z b z2 n : Nat} (ha : kdl m a = some (5, 0)) (hr : ldR m a 0 = a + 1) (hc : kdl m (a + 1) = some (13, z)) (hz : z < 100000) (hb : kdl m b = some (5, 0)) (hq : ldR m b 0 = b + 1) (he : kdl m (b + 1) = some (13, z2)) (hz2 : z2 < 100000) (hn2 : ldI m b 1 = nI n) (hnz2 : n ≤ z2) (hnz : n ≤ z) (hab : a + 1 < b ∨ b + 1 < a) (k : ∀ m', Off a (a + 1) m m' → ldI m' a 1 = nI n → (∀ j, j < n → ldI m' (a + 1) j = ldI m (b + 1) j) → Q (.inl none, m')) : Cl g 1 0 0 mX5_copyFrom [.ref a, .ref b] m Q := by
  refine S_X5_copyFrom ha hr hc hz (by omega) hb hq he hz2 hn2 hnz2 hnz (by omega) (by omega) (by omega) (by omega) ?_
  exact k _ (cpR_off Off.rf (by omega) (by omega)) cpR_n (fun j hj => cpR_c (by omega) hj)
theorem S_cpRun {g : GG} {m : MM} {Q : Out → Prop} {a b : Nat} (ha : kdl m a = some (6, 0)) (hb : kdl m b = some (6, 0)) (hab : a ≠ b) (hw : ldI m b 4 = 0 ∨ ldI m b 4 = 1) (k : ∀ m', Off a a m m' → (∀ j, j < 6 → ldI m' a j = ldI m b j) → Q (.inl none, m')) : Cl g 1 0 0 mX6_copyFrom [.ref a, .ref b] m Q := by
  refine S_X6_copyFrom ha hb (by rw [rPl_o (Ne.symm hab)]; exact hw) ?_
  refine k _ rDrPl_off (fun j hj => ?_)
  unfold rCp
  rw [r6_ld j hj]
  rcases j with _ | _ | _ | _ | _ | _ | j
  · rfl
  · rfl
  · rfl
  · rfl
  · exact rPl_o (Ne.symm hab)
  · exact rPl_o (Ne.symm hab)
  · omega
def HC (w v : Nat) (m m1 : MM) (j : Nat) : Prop := ldI m1 (w + 2 + 3 * j) 0 = ldI m (v + 2 + 3 * j) 0 ∧ ldI m1 (w + 2 + 3 * j) 1 = ldI m (v + 2 + 3 * j) 1 ∧ ∀ s, s < 12 → ldI m1 (w + 3 + 3 * j) s = ldI m (v + 3 + 3 * j) s ∧ ldI m1 (w + 4 + 3 * j) s = ldI m (v + 4 + 3 * j) s
theorem HC.off {w v j lo hi : Nat} {m m1 m2 : MM} (h : HC w v m m1 j) (o : Off lo hi m1 m2) (hr : hi < w + 2 + 3 * j ∨ w + 4 + 3 * j < lo) : HC w v m m2 j :=
  ⟨((o.2 _ (by omega)).1 0).trans h.1, ((o.2 _ (by omega)).1 1).trans h.2.1, fun s hs => ⟨((o.2 _ (by omega)).1 s).trans (h.2.2 s hs).1, ((o.2 _ (by omega)).1 s).trans (h.2.2 s hs).2⟩⟩
theorem hcM_off {m : MM} {a o p q : Nat} : Off a (a + 2) m (hcM m a (a + 1) (a + 2) o p q) := (((Off.rf.stI (by omega) (by omega)).stI (by omega) (by omega)).stRow (by omega) (by omega)).stRow (by omega) (by omega)
theorem hcM_hc {m M : MM} {w v i : Nat} (hd : w + 35 < v ∨ v + 35 < w) (hi : i < 6) (o : Off w (w + 35) m M) : HC w v m (hcM M (w + 2 + 3 * i) (w + 3 + 3 * i) (w + 4 + 3 * i) (v + 2 + 3 * i) (v + 3 + 3 * i) (v + 4 + 3 * i)) i := by
  have e : ∀ a, v ≤ a → a ≤ v + 35 → ∀ k, ldI M a k = ldI m a k := fun a h1 h2 k => (o.2 a (by omega)).1 k
  have n1 : ∀ x y : Nat, x ≠ y → ∀ (α : Type) (s t : α), (if x = y then s else t) = t := fun x y h α s t => if_neg h
  refine ⟨?_, ?_, fun s hs => ⟨?_, ?_⟩⟩
  · unfold hcM; rw [ldI_stRow, if_neg (by omega), ldI_stRow, if_neg (by omega)]; exact ld_n (by omega) (ld_s.trans (e _ (by omega) (by omega) 0))
  · unfold hcM; rw [ldI_stRow, if_neg (by omega), ldI_stRow, if_neg (by omega)]; exact ld_s.trans (e _ (by omega) (by omega) 1)
  · unfold hcM; rw [ldI_stRow, if_neg (by omega), ldI_stRow, if_pos rfl, if_pos hs]; exact e _ (by omega) (by omega) s
  · unfold hcM; rw [ldI_stRow, if_pos rfl, if_pos hs]; exact e _ (by omega) (by omega) s
