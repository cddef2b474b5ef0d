def NoQ (m m' : MM) : Prop := ∀ a, 166 < a → a < 284 → (∀ k, ldI m' a k = ldI m a k) ∧ ∀ k, ldL m' a k = ldL m a k
theorem NoR.q {m m' : MM} (h : NoR m m') : NoQ m m' := fun a h1 _ => h.2 a h1
theorem NoQ.tr {m m' m2 : MM} (h : NoQ m m') (h2 : NoQ m' m2) : NoQ m m2 := fun a h1 h3 => ⟨fun k => ((h2 a h1 h3).1 k).trans ((h a h1 h3).1 k), fun k => ((h2 a h1 h3).2 k).trans ((h a h1 h3).2 k)⟩
theorem Ext.q {m m' : MM} (h : Ext m m') (hF : Fx m) : NoQ m m' := fun a h1 h2 => ⟨(h.2 a (by have := Fx_nx hF; omega)).1, (h.2 a (by have := Fx_nx hF; omega)).2.1⟩
section CL
variable {f : Nat → Int32} {fs : Nat → Nat → Int32} {ic : Nat} {tp : Nat → Int32} {tn : Nat} {pl : Int32} {n1 : Nat} {T1 : Nat → (Nat → Int64) → Nat → Int64} {n2 : Nat} {T2 : Nat → (Nat → Int64) → Nat → Int64} {m m' : MM}
theorem Pr.of {T : TL} {p : Nat} (h : Pr T p m) (e0 : m'.2.2 = m.2.2) (e : ∀ a, 284 ≤ a → ∀ k, ldI m' a k = ldI m a k) : Pr T p m' := by
  obtain ⟨v1, v2, v3, L, v4, v5, v6⟩ := h
  exact ⟨v1, (kdl_of e0 _).trans v2, by rw [ldR_of e0]; exact v3, L, by rw [ldR_of e0, kdl_of e0]; exact v4, v5, by rw [ldR_of e0, show ldI m' (ldR m p 0) = ldI m (ldR m p 0) from funext (fun k => e _ v3 k)]; exact v6⟩
theorem CI.lw {pl' : Int32} (h : CI f fs ic tp tn pl n1 T1 n2 T2 m) (e0 : m'.2.2 = m.2.2) (e : ∀ a, (4 < a ∧ a < 150) ∨ 154 < a → ∀ k, ldI m' a k = ldI m a k) (e7 : ldI m' 4 7 = ldI m 4 7) (h8 : ldI m' 4 8 = pl') (h1 : ldI m' 150 1 = 0) : CI f fs ic tp 0 pl' n1 T1 n2 T2 m' := by
  obtain ⟨a, b, c, ⟨d1, d2, d3⟩, ⟨e1, e2, e3⟩, g1, i1, i2⟩ := h
  refine ⟨Fx_of e0 a, b, c.of (fun a h1 h2 k => e a (by omega) k) b.1.1.2, ⟨e7.trans d1, d2, fun k hk => ⟨(d3 k hk).1, (d3 k hk).2.of (fun a h1 h2 j => e a (by omega) j) (d3 k hk).1.1.1.2⟩⟩, ⟨h1, by omega, fun j hj => absurd hj (by omega)⟩, h8, ?_, ?_⟩
  · exact ⟨(e 155 (by omega) 1).trans i1.1, i1.2.1, fun j hj => by rw [ldR_of e0]; exact (i1.2.2 j hj).of e0 (fun a ha k => e a (by omega) k)⟩
  · exact ⟨(e 157 (by omega) 1).trans i2.1, i2.2.1, fun j hj => by rw [ldR_of e0]; exact (i2.2.2 j hj).of e0 (fun a ha k => e a (by omega) k)⟩
theorem Pr.ext {T : TL} {p : Nat} (h : Pr T p m) (x : Ext m m') : Pr T p m' := by
  obtain ⟨v1, v2, v3, L, v4, v5, v6⟩ := h
  have k2 := x.k v2
  have k4 := x.k v4
  have r : ldR m' p 0 = ldR m p 0 := (x.2 p k2.2).2.2 0
  exact ⟨v1, k2.1, by rw [r]; exact v3, L, by rw [r]; exact k4.1, v5, by rw [r, show ldI m' (ldR m p 0) = ldI m (ldR m p 0) from funext (fun k => (x.2 _ k4.2).1 k)]; exact v6⟩
theorem CI.ext (h : CI f fs ic tp tn pl n1 T1 n2 T2 m) (x : Ext m m') : CI f fs ic tp tn pl n1 T1 n2 T2 m' := by
  have hn := Fx_nx h.1
  have e : ∀ a, a < 284 → ∀ k, ldI m' a k = ldI m a k := fun a ha k => (x.2 a (by omega)).1 k
  have r : ∀ a, a < 284 → ∀ k, ldR m' a k = ldR m a k := fun a ha k => (x.2 a (by omega)).2.2 k
  obtain ⟨a, b, c, ⟨d1, d2, d3⟩, ⟨e1, e2, e3⟩, g1, i1, i2⟩ := h
  refine ⟨x.F a, b, c.of (fun a h1 h2 k => e a (by omega) k) b.1.1.2, ⟨(e 4 (by omega) 7).trans d1, d2, fun k hk => ⟨(d3 k hk).1, (d3 k hk).2.of (fun a h1 h2 j => e a (by omega) j) (d3 k hk).1.1.1.2⟩⟩, ⟨(e 150 (by omega) 1).trans e1, e2, fun j hj => ⟨(e 151 (by omega) j).trans (e3 j hj).1, (e3 j hj).2⟩⟩, (e 4 (by omega) 8).trans g1, ?_, ?_⟩
  · exact ⟨(e 155 (by omega) 1).trans i1.1, i1.2.1, fun j hj => by rw [r 156 (by omega)]; exact (i1.2.2 j hj).ext x⟩
  · exact ⟨(e 157 (by omega) 1).trans i2.1, i2.2.1, fun j hj => by rw [r 158 (by omega)]; exact (i2.2.2 j hj).ext x⟩
def upT (Ts : Nat → TL) (n : Nat) (T : TL) : Nat → TL := fun j => if j = n then T else Ts j
theorem put_R {c i p a x j : Nat} {v : Int32} : ldR (stI (stR m c i p) a 1 v) x j = if x = c ∧ j = i then p else ldR m x j := rfl
theorem Pr.put {T : TL} {q c i p a : Nat} {v : Int32} (h : Pr T q m) (hc : c < 284) (ha : a < 284) : Pr T q (stI (stR m c i p) a 1 v) := by
  obtain ⟨v1, v2, v3, L, v4, v5, v6⟩ := h
  have r : ldR (stI (stR m c i p) a 1 v) q 0 = ldR m q 0 := if_neg (by omega)
  exact ⟨v1, v2, by rw [r]; exact v3, L, by rw [r]; exact v4, v5, by rw [r, show ldI (stI (stR m c i p) a 1 v) (ldR m q 0) = ldI m (ldR m q 0) from funext (fun k => ld_n (by omega) rfl)]; exact v6⟩
theorem Fx_put {c i p a : Nat} {v : Int32} (h : Fx m) (hc : c = 156 ∨ c = 158) : Fx (stI (stR m c i p) a 1 v) := ⟨h.1, fun b k hb => (if_neg (by have := hb.2; omega)).trans (h.2 b k hb)⟩
theorem CI.put0 {T : TL} {p : Nat} (h : CI f fs ic tp tn pl n1 T1 n2 T2 m) (hn : n1 < 4) (hp : Pr T p m) : CI f fs ic tp tn pl (n1 + 1) (upT T1 n1 T) n2 T2 (stI (stR m 156 n1 p) 155 1 (nI (n1 + 1))) := by
  have e : ∀ b, b ≠ 155 → ∀ k, ldI (stI (stR m 156 n1 p) 155 1 (nI (n1 + 1))) b k = ldI m b k := fun b hb k => ld_n (by omega) rfl
  obtain ⟨a, b, c, ⟨d1, d2, d3⟩, ⟨e1, e2, e3⟩, g1, i1, i2⟩ := h
  have hS : Shf 155 156 4 (n1 + 1) (upT T1 n1 T) (stI (stR m 156 n1 p) 155 1 (nI (n1 + 1))) := by
    refine ⟨ld_s, by omega, fun j hj => ?_⟩
    by_cases q : j = n1
    · subst q
      rw [show ldR (stI (stR m 156 j p) 155 1 (nI (j + 1))) 156 j = p from if_pos ⟨rfl, rfl⟩, show upT T1 j T j = T from if_pos rfl]
      exact hp.put (by omega) (by omega)
    · rw [show ldR (stI (stR m 156 n1 p) 155 1 (nI (n1 + 1))) 156 j = ldR m 156 j from if_neg (by omega), show upT T1 n1 T j = T1 j from if_neg q]
      exact (i1.2.2 j (by omega)).put (by omega) (by omega)
  have hO : Shf 157 158 3 n2 T2 (stI (stR m 156 n1 p) 155 1 (nI (n1 + 1))) := ⟨(ld_n (by omega) i2.1), i2.2.1, fun j hj => by rw [put_R, if_neg (by omega)]; exact (i2.2.2 j hj).put (by omega) (by omega)⟩
  exact ⟨Fx_put a (by omega), b, c.of (fun a h1 h2 k => e a (by omega) k) b.1.1.2, ⟨(e 4 (by omega) 7).trans d1, d2, fun k hk => ⟨(d3 k hk).1, (d3 k hk).2.of (fun a h1 h2 j => e a (by omega) j) (d3 k hk).1.1.1.2⟩⟩, ⟨(e 150 (by omega) 1).trans e1, e2, fun j hj => ⟨(e 151 (by omega) j).trans (e3 j hj).1, (e3 j hj).2⟩⟩, (e 4 (by omega) 8).trans g1, hS, hO⟩
theorem CI.put1 {T : TL} {p : Nat} (h : CI f fs ic tp tn pl n1 T1 n2 T2 m) (hn : n2 < 3) (hp : Pr T p m) : CI f fs ic tp tn pl n1 T1 (n2 + 1) (upT T2 n2 T) (stI (stR m 158 n2 p) 157 1 (nI (n2 + 1))) := by
  have e : ∀ b, b ≠ 157 → ∀ k, ldI (stI (stR m 158 n2 p) 157 1 (nI (n2 + 1))) b k = ldI m b k := fun b hb k => ld_n (by omega) rfl
  obtain ⟨a, b, c, ⟨d1, d2, d3⟩, ⟨e1, e2, e3⟩, g1, i1, i2⟩ := h
  have hS : Shf 157 158 3 (n2 + 1) (upT T2 n2 T) (stI (stR m 158 n2 p) 157 1 (nI (n2 + 1))) := by
    refine ⟨ld_s, by omega, fun j hj => ?_⟩
    by_cases q : j = n2
    · subst q
      rw [show ldR (stI (stR m 158 j p) 157 1 (nI (j + 1))) 158 j = p from if_pos ⟨rfl, rfl⟩, show upT T2 j T j = T from if_pos rfl]
      exact hp.put (by omega) (by omega)
    · rw [show ldR (stI (stR m 158 n2 p) 157 1 (nI (n2 + 1))) 158 j = ldR m 158 j from if_neg (by omega), show upT T2 n2 T j = T2 j from if_neg q]
      exact (i2.2.2 j (by omega)).put (by omega) (by omega)
  have hO : Shf 155 156 4 n1 T1 (stI (stR m 158 n2 p) 157 1 (nI (n2 + 1))) := ⟨(ld_n (by omega) i1.1), i1.2.1, fun j hj => by rw [put_R, if_neg (by omega)]; exact (i1.2.2 j hj).put (by omega) (by omega)⟩
  exact ⟨Fx_put a (by omega), b, c.of (fun a h1 h2 k => e a (by omega) k) b.1.1.2, ⟨(e 4 (by omega) 7).trans d1, d2, fun k hk => ⟨(d3 k hk).1, (d3 k hk).2.of (fun a h1 h2 j => e a (by omega) j) (d3 k hk).1.1.1.2⟩⟩, ⟨(e 150 (by omega) 1).trans e1, e2, fun j hj => ⟨(e 151 (by omega) j).trans (e3 j hj).1, (e3 j hj).2⟩⟩, (e 4 (by omega) 8).trans g1, hO, hS⟩
end CL
theorem S_placeF {g : GG} {m : MM} {Q : Out → Prop} (hk : kdl m 152 = some (4, 0)) (k : Q (.inl (some (.int (ldI m 152 10))), m)) : Cl g 0 0 0 mX4_placeOfFault [.ref 152] m Q := by
  refine Cl.of rfl (by decide) (Nat.le_of_ble_eq_true rfl) ?_
  show Wp g mX4_placeOfFault 0 0 0 0 [.ref 152] [] m Q
  refine r_aload_n dX4_placeOfFault_0 rfl ?_
  refine r_getI dX4_placeOfFault_1 fgX4_49 rfl hk ?_
  refine r_ireturn dX4_placeOfFault_4 rfl rfl ?_
  exact k
theorem i32_le_nI {x : Int32} {n : Nat} (hn : n < 1000) (h0 : 0 ≤ x) (h : x ≤ nI n) : ∃ j, j ≤ n ∧ x = nI j := i32_small n hn h0 h
theorem S_law0 {g : GG} {m : MM} {Q : Out → Prop} {f : Nat → Int32} {fs : Nat → Nat → Int32} {ic : Nat} {tp : Nat → Int32} {tn : Nat} {pl : Int32} {n1 : Nat} {T1 : Nat → (Nat → Int64) → Nat → Int64} {n2 : Nat} {T2 : Nat → (Nat → Int64) → Nat → Int64} (hC : CI f fs ic tp tn pl n1 T1 n2 T2 m) {x : Int32} (kb : ¬ (0 ≤ x ∧ x ≤ nI tn) → Q (.inr EIAE, m)) (kf : (0 ≤ x ∧ x ≤ nI tn) → n1 = 4 → ∀ m', CI f fs ic tp 0 (-1) n1 T1 n2 T2 m' → NoQ m m' → Q (.inl (some (.int (-1))), m')) (ke : ∀ N, x = nI N → N ≤ tn → n1 < 4 → ∀ e, texP tp N false = .inl e → ∀ m', CI f fs ic tp 0 (nI e.2) n1 T1 n2 T2 m' → NoQ m m' → Q (.inl (some (.int (e.1 - 10))), m')) (k : ∀ N, x = nI N → N ≤ tn → n1 < 4 → ∀ r, texP tp N false = .inr r → ∀ m', CI f fs ic tp 0 (-1) (n1 + 1) (upT T1 n1 r.2) n2 T2 m' → NoQ m m' → Q (.inl (some (.int (nI n1))), m')) : Cl g 58 3 407 mX11_law [.ref 4, .int x, .int 0] m Q := by
  refine Cl.of rfl (by decide) (Nat.le_of_ble_eq_true rfl) ?_
  show Wp g mX11_law 58 3 407 0 [.ref 4, .int x, .int 0, .retAddr 0, .retAddr 0] [] m Q
  have hF := hC.1
  have hV := hC.2.1
  have hW := hC.2.2.1
  have ht4 := hC.2.2.2.2.1.2.1
  refine r_iload_n dX11_law_0 rfl ?_
  refine r_iconst (0) dX11_law_1 rfl ?_
  refine r_aload_n dX11_law_2 rfl ?_
  refine r_getRc dX11_law_3 fgX11_25 rfl (by exact k_4 hF) (by exact r_4_2 hF) ?_
  refine r_callV0 (ci := 5) (d1 := 0) (c1 := 0) (n1 := 0) dX11_law_6 mvX11_99 rfl ⟨(Nat.le_of_ble_eq_true rfl), rfl⟩ (Nat.le_of_ble_eq_true rfl) (by exact Nat.le_of_ble_eq_true rfl) (by exact k_150 hF) ?_
  refine S_X5_filled (by exact k_150 hF) ?_
  rw [show ldI m 150 1 = nI tn from hC.2.2.2.2.1.1]
  show Wp g mX11_law _ _ _ 9 _ (_ :: _) _ Q
  refine r_callS3 (d1 := 0) (c1 := 0) (n1 := 0) dX11_law_9 msX11_59 rfl (Nat.le_of_ble_eq_true rfl) (by exact Nat.le_of_ble_eq_true rfl) ?_
  refine S_X11_isWithin (fun w9a w9b => ?_) (fun w9 => ?_)
  ·
    show Wp g mX11_law _ _ _ 12 _ (_ :: _) _ Q
    refine r_callS1 (d1 := 6) (c1 := 1) (n1 := 6) dX11_law_12 msX11_63 rfl (Nat.le_of_ble_eq_true rfl) (by exact Nat.le_of_ble_eq_true rfl) ?_
    refine S_demand1 ?_
    show Wp g mX11_law _ _ _ 15 _ [] _ Q
    refine r_iload_n dX11_law_15 rfl ?_
    refine r_if_eq 26 dX11_law_16 rfl (fun _ => ?_) (fun hz => absurd hz (by decide))
    refine r_aload_n dX11_law_26 rfl ?_
    refine r_getRc dX11_law_27 fgX11_39 rfl (by exact k_4 hF) (by exact r_4_4 hF) ?_
    refine sa_3 dX11_law_30 rfl (Nat.le_of_ble_eq_true rfl) ?_
    refine r_aload_n dX11_law_31 rfl ?_
    refine r_callV0 (ci := 7) (d1 := 0) (c1 := 0) (n1 := 0) dX11_law_32 mvX11_106 rfl ⟨(Nat.le_of_ble_eq_true rfl), rfl⟩ (Nat.le_of_ble_eq_true rfl) (by exact Nat.le_of_ble_eq_true rfl) (by exact k_155 hF) ?_
    refine S_X7_isFull (a := 155) (c := 156) (z := 4) (n := n1) (by exact k_155 hF) (by exact r_155_0 hF) (by exact k_156 hF) (by omega) hC.2.2.2.2.2.2.1.1 hC.2.2.2.2.2.2.1.2.1 (fun hz => ?_) (fun hz => ?_)
    ·
      show Wp g mX11_law _ _ _ 35 _ (_ :: _) _ Q
      refine r_if_eq 52 dX11_law_35 rfl (fun hz => absurd hz (by decide)) (fun _ => ?_)
      refine r_aload_n dX11_law_38 rfl ?_
      refine r_getRc dX11_law_39 fgX11_25 rfl (by exact k_4 hF) (by exact r_4_2 hF) ?_
      refine r_callV0 (ci := 5) (d1 := 0) (c1 := 0) (n1 := 0) dX11_law_42 mvX11_110 rfl ⟨(Nat.le_of_ble_eq_true rfl), rfl⟩ (Nat.le_of_ble_eq_true rfl) (by exact Nat.le_of_ble_eq_true rfl) (by exact k_150 hF) ?_
      refine S_X5_empty (by exact k_150 hF) ?_
      show Wp g mX11_law _ _ _ 45 _ [] _ Q
      have hF9 : Fx (stI m 150 1 0) := Fx_of (m := m) rfl hF
      refine r_aload_n dX11_law_45 rfl ?_
      refine r_iconst (-1) dX11_law_46 rfl ?_
      refine r_putI dX11_law_47 (fpX11_55 _ rfl) rfl (by exact k_4 hF9) ⟨rfl, rfl⟩ ?_
      refine r_iconst (-1) dX11_law_50 rfl ?_
      refine r_ireturn dX11_law_51 rfl rfl ?_
      exact kf ⟨w9a, w9b⟩ hz _ (hC.lw (pl' := -1) rfl (fun a ha k => ld_n (by omega) (ld_n (by omega) rfl)) (ld_n (by decide) (ld_n (by decide) rfl)) ld_s (ld_n (by decide) ld_s)) (fun a h1 h2 => ⟨fun k => ld_n (by omega) (ld_n (by omega) rfl), fun k => rfl⟩)
    ·
      show Wp g mX11_law _ _ _ 35 _ (_ :: _) _ Q
      refine r_if_eq 52 dX11_law_35 rfl (fun _ => ?_) (fun hz => absurd hz (by decide))
      refine r_aload_n dX11_law_52 rfl ?_
      refine r_getRc dX11_law_53 fgX11_32 rfl (by exact k_4 hF) (by exact r_4_3 hF) ?_
      refine r_aload_n dX11_law_56 rfl ?_
      refine r_getRc dX11_law_57 fgX11_25 rfl (by exact k_4 hF) (by exact r_4_2 hF) ?_
      refine r_iload_n dX11_law_60 rfl ?_
      refine r_iload_n dX11_law_61 rfl ?_
      refine r_callV3 (ci := 4) (d1 := 57) (c1 := 0) (n1 := 0) dX11_law_62 mvX11_113 rfl ⟨(Nat.le_of_ble_eq_true rfl), rfl⟩ (Nat.le_of_ble_eq_true rfl) (by exact Nat.le_of_ble_eq_true rfl) (by exact k_152 hF) ?_
      obtain ⟨N, hN, rfl⟩ := i32_le_nI (by omega) w9a w9b
      refine S_readText0 hF hC.2.2.2.2.1 hN (fun e he m1 o1 p1 ne0 => ?_) (fun r hr hl4 m1 o1 p1 p2 p3 => ?_)
      ·
        have hF1 := Fx_of o1.1 hF
        show Wp g mX11_law _ _ _ 65 _ (_ :: _) _ Q
        refine si_4 dX11_law_65 rfl (Nat.le_of_ble_eq_true rfl) ?_
        refine r_aload_n dX11_law_67 rfl ?_
        refine r_getRc dX11_law_68 fgX11_25 rfl (by exact k_4 hF1) (by exact r_4_2 hF1) ?_
        refine r_callV0 (ci := 5) (d1 := 0) (c1 := 0) (n1 := 0) dX11_law_71 mvX11_110 rfl ⟨(Nat.le_of_ble_eq_true rfl), rfl⟩ (Nat.le_of_ble_eq_true rfl) (by exact Nat.le_of_ble_eq_true rfl) (by exact k_150 hF1) ?_
        refine S_X5_empty (by exact k_150 hF1) ?_
        show Wp g mX11_law _ _ _ 74 _ [] _ Q
        have hF2 : Fx (stI m1 150 1 0) := Fx_of (m := m1) rfl hF1
        refine r_aload_n dX11_law_74 rfl ?_
        refine r_aload_n dX11_law_75 rfl ?_
        refine r_getRc dX11_law_76 fgX11_32 rfl (by exact k_4 hF2) (by exact r_4_3 hF2) ?_
        refine r_callV0 (ci := 4) (d1 := 0) (c1 := 0) (n1 := 0) dX11_law_79 mvX11_117 rfl ⟨(Nat.le_of_ble_eq_true rfl), rfl⟩ (Nat.le_of_ble_eq_true rfl) (by exact Nat.le_of_ble_eq_true rfl) (by exact k_152 hF2) ?_
        refine S_placeF (by exact k_152 hF2) ?_
        rw [show ldI (stI m1 150 1 0) 152 10 = nI e.2 from ld_n (by decide) p1]
        show Wp g mX11_law _ _ _ 82 _ (_ :: _) _ Q
        refine r_putI dX11_law_82 (fpX11_55 _ rfl) rfl (by exact k_4 hF2) ⟨rfl, rfl⟩ ?_
        have hF3 : Fx (stI (stI m1 150 1 0) 4 8 (nI e.2)) := Fx_of (m := m1) rfl hF1
        have hC3 : CI f fs ic tp 0 (nI e.2) n1 T1 n2 T2 (stI (stI m1 150 1 0) 4 8 (nI e.2)) := hC.lw o1.1 (fun a ha k => ld_n (by omega) (ld_n (by omega) ((o1.2 a (by omega)).1 k))) (ld_n (by decide) (ld_n (by decide) ((o1.2 4 (by omega)).1 7))) ld_s (ld_n (by decide) ld_s)
        have q3 : NoQ m (stI (stI m1 150 1 0) 4 8 (nI e.2)) := fun a h1 h2 => ⟨fun k => ld_n (by omega) (ld_n (by omega) ((o1.2 a (by omega)).1 k)), fun k => (o1.2 a (by omega)).2 k⟩
        refine r_iload dX11_law_85 rfl ?_
        refine r_if_eq 98 dX11_law_87 rfl (fun hk => ?_) (fun hk => ?_)
        ·
          exact absurd hk ne0
        ·
          refine r_iload dX11_law_90 rfl ?_
          refine r_bipush (10) dX11_law_92 rfl ?_
          refine r_isub dX11_law_94 ?_
          refine r_goto 109 dX11_law_95 rfl ?_
          refine r_ireturn dX11_law_109 rfl rfl ?_
          exact ke N rfl hN hz e he _ hC3 q3
      ·
        have hF1 := Fx_of o1.1 hF
        show Wp g mX11_law _ _ _ 65 _ (_ :: _) _ Q
        refine si_4 dX11_law_65 rfl (Nat.le_of_ble_eq_true rfl) ?_
        refine r_aload_n dX11_law_67 rfl ?_
        refine r_getRc dX11_law_68 fgX11_25 rfl (by exact k_4 hF1) (by exact r_4_2 hF1) ?_
        refine r_callV0 (ci := 5) (d1 := 0) (c1 := 0) (n1 := 0) dX11_law_71 mvX11_110 rfl ⟨(Nat.le_of_ble_eq_true rfl), rfl⟩ (Nat.le_of_ble_eq_true rfl) (by exact Nat.le_of_ble_eq_true rfl) (by exact k_150 hF1) ?_
        refine S_X5_empty (by exact k_150 hF1) ?_
        show Wp g mX11_law _ _ _ 74 _ [] _ Q
        have hF2 : Fx (stI m1 150 1 0) := Fx_of (m := m1) rfl hF1
        refine r_aload_n dX11_law_74 rfl ?_
        refine r_aload_n dX11_law_75 rfl ?_
        refine r_getRc dX11_law_76 fgX11_32 rfl (by exact k_4 hF2) (by exact r_4_3 hF2) ?_
        refine r_callV0 (ci := 4) (d1 := 0) (c1 := 0) (n1 := 0) dX11_law_79 mvX11_117 rfl ⟨(Nat.le_of_ble_eq_true rfl), rfl⟩ (Nat.le_of_ble_eq_true rfl) (by exact Nat.le_of_ble_eq_true rfl) (by exact k_152 hF2) ?_
        refine S_placeF (by exact k_152 hF2) ?_
        rw [show ldI (stI m1 150 1 0) 152 10 = -1 from ld_n (by decide) p1]
        show Wp g mX11_law _ _ _ 82 _ (_ :: _) _ Q
        refine r_putI dX11_law_82 (fpX11_55 _ rfl) rfl (by exact k_4 hF2) ⟨rfl, rfl⟩ ?_
        have hF3 : Fx (stI (stI m1 150 1 0) 4 8 (-1)) := Fx_of (m := m1) rfl hF1
        have hC3 : CI f fs ic tp 0 (-1) n1 T1 n2 T2 (stI (stI m1 150 1 0) 4 8 (-1)) := hC.lw o1.1 (fun a ha k => ld_n (by omega) (ld_n (by omega) ((o1.2 a (by omega)).1 k))) (ld_n (by decide) (ld_n (by decide) ((o1.2 4 (by omega)).1 7))) ld_s (ld_n (by decide) ld_s)
        have q3 : NoQ m (stI (stI m1 150 1 0) 4 8 (-1)) := fun a h1 h2 => ⟨fun k => ld_n (by omega) (ld_n (by omega) ((o1.2 a (by omega)).1 k)), fun k => (o1.2 a (by omega)).2 k⟩
        refine r_iload dX11_law_85 rfl ?_
        refine r_if_eq 98 dX11_law_87 rfl (fun _ => ?_) (fun hz => absurd hz (by decide))
        refine r_aload_n dX11_law_98 rfl ?_
        refine r_aload_n dX11_law_99 rfl ?_
        refine r_getRc dX11_law_100 fgX11_32 rfl (by exact k_4 hF3) (by exact r_4_3 hF3) ?_
        refine r_callV0 (ci := 4) (d1 := 5) (c1 := 2) (n1 := 401) dX11_law_103 mvX11_120 rfl ⟨(Nat.le_of_ble_eq_true rfl), rfl⟩ (Nat.le_of_ble_eq_true rfl) (by exact Nat.le_of_ble_eq_true rfl) (by exact k_152 hF3) ?_
        refine S_X4_finished hF3 (ld_n (by decide) (ld_n (by decide) p2)) hl4 ?_
        show Wp g mX11_law _ _ _ 106 _ (_ :: _) _ Q
        have x4 := fiM_ext (m := stI (stI m1 150 1 0) 4 8 (-1)) (L := r.1.length)
        have hF4 := x4.F hF3
        have pk := fiM_p (L := r.1.length) hF3
        have hn3 := Fx_nx hF3
        have hP : Pr r.2 (nx (stI (stI m1 150 1 0) 4 8 (-1))) (fiM (stI (stI m1 150 1 0) 4 8 (-1)) r.1.length) := ⟨hn3, pk.1, by rw [pk.2.1]; omega, r.1.length, by rw [pk.2.1]; exact pk.2.2.1, by omega, by rw [pk.2.1]; exact PgOK_of (texP_c hr) (fun j hj => (pk.2.2.2 j hj).trans (ld_n (by omega) (ld_n (by omega) (p3 j hj))))⟩
        refine r_callV1 (ci := 7) (d1 := 0) (c1 := 0) (n1 := 0) dX11_law_106 mvX11_124 rfl ⟨(Nat.le_of_ble_eq_true rfl), rfl⟩ (Nat.le_of_ble_eq_true rfl) (by exact Nat.le_of_ble_eq_true rfl) (by exact k_155 hF4) ?_
        refine S_X7_put (a := 155) (c := 156) (z := 4) (n := n1) (by exact k_155 hF4) (by exact r_155_0 hF4) (by exact k_156 hF4) (by omega) (((x4.2 155 (by omega)).1 1).trans (ld_n (by decide) (ld_n (by decide) (((o1.2 155 (by omega)).1 1).trans hC.2.2.2.2.2.2.1.1)))) hz pk.1 (by decide) ?_
        show Wp g mX11_law _ _ _ 109 _ (_ :: _) _ Q
        refine r_ireturn dX11_law_109 rfl rfl ?_
        exact k N rfl hN hz r hr _ ((hC3.ext x4).put0 hz hP) ((q3.tr (x4.q hF3)).tr (fun a h1 h2 => ⟨fun k => ld_n (by omega) rfl, fun k => rfl⟩))
  ·
    show Wp g mX11_law _ _ _ 12 _ (_ :: _) _ Q
    refine r_callS1 (d1 := 6) (c1 := 1) (n1 := 6) dX11_law_12 msX11_63 rfl (Nat.le_of_ble_eq_true rfl) (by exact Nat.le_of_ble_eq_true rfl) ?_
    refine S_demand0 ?_
    exact kb w9
theorem S_law1 {g : GG} {m : MM} {Q : Out → Prop} {f : Nat → Int32} {fs : Nat → Nat → Int32} {ic : Nat} {tp : Nat → Int32} {tn : Nat} {pl : Int32} {n1 : Nat} {T1 : Nat → (Nat → Int64) → Nat → Int64} {n2 : Nat} {T2 : Nat → (Nat → Int64) → Nat → Int64} (hC : CI f fs ic tp tn pl n1 T1 n2 T2 m) {x : Int32} (kb : ¬ (0 ≤ x ∧ x ≤ nI tn) → Q (.inr EIAE, m)) (kf : (0 ≤ x ∧ x ≤ nI tn) → n2 = 3 → ∀ m', CI f fs ic tp 0 (-1) n1 T1 n2 T2 m' → NoQ m m' → Q (.inl (some (.int (-1))), m')) (ke : ∀ N, x = nI N → N ≤ tn → n2 < 3 → ∀ e, texP tp N true = .inl e → ∀ m', CI f fs ic tp 0 (nI e.2) n1 T1 n2 T2 m' → NoQ m m' → Q (.inl (some (.int (e.1 - 10))), m')) (k : ∀ N, x = nI N → N ≤ tn → n2 < 3 → ∀ r, texP tp N true = .inr r → ∀ m', CI f fs ic tp 0 (-1) n1 T1 (n2 + 1) (upT T2 n2 r.2) m' → NoQ m m' → Q (.inl (some (.int (nI n2))), m')) : Cl g 58 3 407 mX11_law [.ref 4, .int x, .int 1] m Q := by
  refine Cl.of rfl (by decide) (Nat.le_of_ble_eq_true rfl) ?_
  show Wp g mX11_law 58 3 407 0 [.ref 4, .int x, .int 1, .retAddr 0, .retAddr 0] [] m Q
  have hF := hC.1
  have hV := hC.2.1
  have hW := hC.2.2.1
  have ht4 := hC.2.2.2.2.1.2.1
  refine r_iload_n dX11_law_0 rfl ?_
  refine r_iconst (0) dX11_law_1 rfl ?_
  refine r_aload_n dX11_law_2 rfl ?_
  refine r_getRc dX11_law_3 fgX11_25 rfl (by exact k_4 hF) (by exact r_4_2 hF) ?_
  refine r_callV0 (ci := 5) (d1 := 0) (c1 := 0) (n1 := 0) dX11_law_6 mvX11_99 rfl ⟨(Nat.le_of_ble_eq_true rfl), rfl⟩ (Nat.le_of_ble_eq_true rfl) (by exact Nat.le_of_ble_eq_true rfl) (by exact k_150 hF) ?_
  refine S_X5_filled (by exact k_150 hF) ?_
  rw [show ldI m 150 1 = nI tn from hC.2.2.2.2.1.1]
  show Wp g mX11_law _ _ _ 9 _ (_ :: _) _ Q
  refine r_callS3 (d1 := 0) (c1 := 0) (n1 := 0) dX11_law_9 msX11_59 rfl (Nat.le_of_ble_eq_true rfl) (by exact Nat.le_of_ble_eq_true rfl) ?_
  refine S_X11_isWithin (fun w9a w9b => ?_) (fun w9 => ?_)
  ·
    show Wp g mX11_law _ _ _ 12 _ (_ :: _) _ Q
    refine r_callS1 (d1 := 6) (c1 := 1) (n1 := 6) dX11_law_12 msX11_63 rfl (Nat.le_of_ble_eq_true rfl) (by exact Nat.le_of_ble_eq_true rfl) ?_
    refine S_demand1 ?_
    show Wp g mX11_law _ _ _ 15 _ [] _ Q
    refine r_iload_n dX11_law_15 rfl ?_
    refine r_if_eq 26 dX11_law_16 rfl (fun hz => absurd hz (by decide)) (fun _ => ?_)
    refine r_aload_n dX11_law_19 rfl ?_
    refine r_getRc dX11_law_20 fgX11_43 rfl (by exact k_4 hF) (by exact r_4_5 hF) ?_
    refine r_goto 30 dX11_law_23 rfl ?_
    refine sa_3 dX11_law_30 rfl (Nat.le_of_ble_eq_true rfl) ?_
    refine r_aload_n dX11_law_31 rfl ?_
    refine r_callV0 (ci := 7) (d1 := 0) (c1 := 0) (n1 := 0) dX11_law_32 mvX11_106 rfl ⟨(Nat.le_of_ble_eq_true rfl), rfl⟩ (Nat.le_of_ble_eq_true rfl) (by exact Nat.le_of_ble_eq_true rfl) (by exact k_157 hF) ?_
    refine S_X7_isFull (a := 157) (c := 158) (z := 3) (n := n2) (by exact k_157 hF) (by exact r_157_0 hF) (by exact k_158 hF) (by omega) hC.2.2.2.2.2.2.2.1 hC.2.2.2.2.2.2.2.2.1 (fun hz => ?_) (fun hz => ?_)
    ·
      show Wp g mX11_law _ _ _ 35 _ (_ :: _) _ Q
      refine r_if_eq 52 dX11_law_35 rfl (fun hz => absurd hz (by decide)) (fun _ => ?_)
      refine r_aload_n dX11_law_38 rfl ?_
      refine r_getRc dX11_law_39 fgX11_25 rfl (by exact k_4 hF) (by exact r_4_2 hF) ?_
      refine r_callV0 (ci := 5) (d1 := 0) (c1 := 0) (n1 := 0) dX11_law_42 mvX11_110 rfl ⟨(Nat.le_of_ble_eq_true rfl), rfl⟩ (Nat.le_of_ble_eq_true rfl) (by exact Nat.le_of_ble_eq_true rfl) (by exact k_150 hF) ?_
      refine S_X5_empty (by exact k_150 hF) ?_
      show Wp g mX11_law _ _ _ 45 _ [] _ Q
      have hF9 : Fx (stI m 150 1 0) := Fx_of (m := m) rfl hF
      refine r_aload_n dX11_law_45 rfl ?_
      refine r_iconst (-1) dX11_law_46 rfl ?_
      refine r_putI dX11_law_47 (fpX11_55 _ rfl) rfl (by exact k_4 hF9) ⟨rfl, rfl⟩ ?_
      refine r_iconst (-1) dX11_law_50 rfl ?_
      refine r_ireturn dX11_law_51 rfl rfl ?_
      exact kf ⟨w9a, w9b⟩ hz _ (hC.lw (pl' := -1) rfl (fun a ha k => ld_n (by omega) (ld_n (by omega) rfl)) (ld_n (by decide) (ld_n (by decide) rfl)) ld_s (ld_n (by decide) ld_s)) (fun a h1 h2 => ⟨fun k => ld_n (by omega) (ld_n (by omega) rfl), fun k => rfl⟩)
    ·
      show Wp g mX11_law _ _ _ 35 _ (_ :: _) _ Q
      refine r_if_eq 52 dX11_law_35 rfl (fun _ => ?_) (fun hz => absurd hz (by decide))
      refine r_aload_n dX11_law_52 rfl ?_
      refine r_getRc dX11_law_53 fgX11_32 rfl (by exact k_4 hF) (by exact r_4_3 hF) ?_
      refine r_aload_n dX11_law_56 rfl ?_
      refine r_getRc dX11_law_57 fgX11_25 rfl (by exact k_4 hF) (by exact r_4_2 hF) ?_
      refine r_iload_n dX11_law_60 rfl ?_
      refine r_iload_n dX11_law_61 rfl ?_
      refine r_callV3 (ci := 4) (d1 := 57) (c1 := 0) (n1 := 0) dX11_law_62 mvX11_113 rfl ⟨(Nat.le_of_ble_eq_true rfl), rfl⟩ (Nat.le_of_ble_eq_true rfl) (by exact Nat.le_of_ble_eq_true rfl) (by exact k_152 hF) ?_
      obtain ⟨N, hN, rfl⟩ := i32_le_nI (by omega) w9a w9b
      refine S_readText1 hF hC.2.2.2.2.1 hN (fun e he m1 o1 p1 ne0 => ?_) (fun r hr hl4 m1 o1 p1 p2 p3 => ?_)
      ·
        have hF1 := Fx_of o1.1 hF
        show Wp g mX11_law _ _ _ 65 _ (_ :: _) _ Q
        refine si_4 dX11_law_65 rfl (Nat.le_of_ble_eq_true rfl) ?_
        refine r_aload_n dX11_law_67 rfl ?_
        refine r_getRc dX11_law_68 fgX11_25 rfl (by exact k_4 hF1) (by exact r_4_2 hF1) ?_
        refine r_callV0 (ci := 5) (d1 := 0) (c1 := 0) (n1 := 0) dX11_law_71 mvX11_110 rfl ⟨(Nat.le_of_ble_eq_true rfl), rfl⟩ (Nat.le_of_ble_eq_true rfl) (by exact Nat.le_of_ble_eq_true rfl) (by exact k_150 hF1) ?_
        refine S_X5_empty (by exact k_150 hF1) ?_
        show Wp g mX11_law _ _ _ 74 _ [] _ Q
        have hF2 : Fx (stI m1 150 1 0) := Fx_of (m := m1) rfl hF1
        refine r_aload_n dX11_law_74 rfl ?_
        refine r_aload_n dX11_law_75 rfl ?_
        refine r_getRc dX11_law_76 fgX11_32 rfl (by exact k_4 hF2) (by exact r_4_3 hF2) ?_
        refine r_callV0 (ci := 4) (d1 := 0) (c1 := 0) (n1 := 0) dX11_law_79 mvX11_117 rfl ⟨(Nat.le_of_ble_eq_true rfl), rfl⟩ (Nat.le_of_ble_eq_true rfl) (by exact Nat.le_of_ble_eq_true rfl) (by exact k_152 hF2) ?_
        refine S_placeF (by exact k_152 hF2) ?_
        rw [show ldI (stI m1 150 1 0) 152 10 = nI e.2 from ld_n (by decide) p1]
        show Wp g mX11_law _ _ _ 82 _ (_ :: _) _ Q
        refine r_putI dX11_law_82 (fpX11_55 _ rfl) rfl (by exact k_4 hF2) ⟨rfl, rfl⟩ ?_
        have hF3 : Fx (stI (stI m1 150 1 0) 4 8 (nI e.2)) := Fx_of (m := m1) rfl hF1
        have hC3 : CI f fs ic tp 0 (nI e.2) n1 T1 n2 T2 (stI (stI m1 150 1 0) 4 8 (nI e.2)) := hC.lw o1.1 (fun a ha k => ld_n (by omega) (ld_n (by omega) ((o1.2 a (by omega)).1 k))) (ld_n (by decide) (ld_n (by decide) ((o1.2 4 (by omega)).1 7))) ld_s (ld_n (by decide) ld_s)
        have q3 : NoQ m (stI (stI m1 150 1 0) 4 8 (nI e.2)) := fun a h1 h2 => ⟨fun k => ld_n (by omega) (ld_n (by omega) ((o1.2 a (by omega)).1 k)), fun k => (o1.2 a (by omega)).2 k⟩
        refine r_iload dX11_law_85 rfl ?_
        refine r_if_eq 98 dX11_law_87 rfl (fun hk => ?_) (fun hk => ?_)
        ·
          exact absurd hk ne0
        ·
          refine r_iload dX11_law_90 rfl ?_
          refine r_bipush (10) dX11_law_92 rfl ?_
          refine r_isub dX11_law_94 ?_
          refine r_goto 109 dX11_law_95 rfl ?_
          refine r_ireturn dX11_law_109 rfl rfl ?_
          exact ke N rfl hN hz e he _ hC3 q3
      ·
        have hF1 := Fx_of o1.1 hF
        show Wp g mX11_law _ _ _ 65 _ (_ :: _) _ Q
        refine si_4 dX11_law_65 rfl (Nat.le_of_ble_eq_true rfl) ?_
        refine r_aload_n dX11_law_67 rfl ?_
        refine r_getRc dX11_law_68 fgX11_25 rfl (by exact k_4 hF1) (by exact r_4_2 hF1) ?_
        refine r_callV0 (ci := 5) (d1 := 0) (c1 := 0) (n1 := 0) dX11_law_71 mvX11_110 rfl ⟨(Nat.le_of_ble_eq_true rfl), rfl⟩ (Nat.le_of_ble_eq_true rfl) (by exact Nat.le_of_ble_eq_true rfl) (by exact k_150 hF1) ?_
        refine S_X5_empty (by exact k_150 hF1) ?_
        show Wp g mX11_law _ _ _ 74 _ [] _ Q
        have hF2 : Fx (stI m1 150 1 0) := Fx_of (m := m1) rfl hF1
        refine r_aload_n dX11_law_74 rfl ?_
        refine r_aload_n dX11_law_75 rfl ?_
        refine r_getRc dX11_law_76 fgX11_32 rfl (by exact k_4 hF2) (by exact r_4_3 hF2) ?_
        refine r_callV0 (ci := 4) (d1 := 0) (c1 := 0) (n1 := 0) dX11_law_79 mvX11_117 rfl ⟨(Nat.le_of_ble_eq_true rfl), rfl⟩ (Nat.le_of_ble_eq_true rfl) (by exact Nat.le_of_ble_eq_true rfl) (by exact k_152 hF2) ?_
        refine S_placeF (by exact k_152 hF2) ?_
        rw [show ldI (stI m1 150 1 0) 152 10 = -1 from ld_n (by decide) p1]
        show Wp g mX11_law _ _ _ 82 _ (_ :: _) _ Q
        refine r_putI dX11_law_82 (fpX11_55 _ rfl) rfl (by exact k_4 hF2) ⟨rfl, rfl⟩ ?_
        have hF3 : Fx (stI (stI m1 150 1 0) 4 8 (-1)) := Fx_of (m := m1) rfl hF1
        have hC3 : CI f fs ic tp 0 (-1) n1 T1 n2 T2 (stI (stI m1 150 1 0) 4 8 (-1)) := hC.lw o1.1 (fun a ha k => ld_n (by omega) (ld_n (by omega) ((o1.2 a (by omega)).1 k))) (ld_n (by decide) (ld_n (by decide) ((o1.2 4 (by omega)).1 7))) ld_s (ld_n (by decide) ld_s)
        have q3 : NoQ m (stI (stI m1 150 1 0) 4 8 (-1)) := fun a h1 h2 => ⟨fun k => ld_n (by omega) (ld_n (by omega) ((o1.2 a (by omega)).1 k)), fun k => (o1.2 a (by omega)).2 k⟩
        refine r_iload dX11_law_85 rfl ?_
        refine r_if_eq 98 dX11_law_87 rfl (fun _ => ?_) (fun hz => absurd hz (by decide))
        refine r_aload_n dX11_law_98 rfl ?_
        refine r_aload_n dX11_law_99 rfl ?_
        refine r_getRc dX11_law_100 fgX11_32 rfl (by exact k_4 hF3) (by exact r_4_3 hF3) ?_
        refine r_callV0 (ci := 4) (d1 := 5) (c1 := 2) (n1 := 401) dX11_law_103 mvX11_120 rfl ⟨(Nat.le_of_ble_eq_true rfl), rfl⟩ (Nat.le_of_ble_eq_true rfl) (by exact Nat.le_of_ble_eq_true rfl) (by exact k_152 hF3) ?_
        refine S_X4_finished hF3 (ld_n (by decide) (ld_n (by decide) p2)) hl4 ?_
        show Wp g mX11_law _ _ _ 106 _ (_ :: _) _ Q
        have x4 := fiM_ext (m := stI (stI m1 150 1 0) 4 8 (-1)) (L := r.1.length)
        have hF4 := x4.F hF3
        have pk := fiM_p (L := r.1.length) hF3
        have hn3 := Fx_nx hF3
        have hP : Pr r.2 (nx (stI (stI m1 150 1 0) 4 8 (-1))) (fiM (stI (stI m1 150 1 0) 4 8 (-1)) r.1.length) := ⟨hn3, pk.1, by rw [pk.2.1]; omega, r.1.length, by rw [pk.2.1]; exact pk.2.2.1, by omega, by rw [pk.2.1]; exact PgOK_of (texP_c hr) (fun j hj => (pk.2.2.2 j hj).trans (ld_n (by omega) (ld_n (by omega) (p3 j hj))))⟩
        refine r_callV1 (ci := 7) (d1 := 0) (c1 := 0) (n1 := 0) dX11_law_106 mvX11_124 rfl ⟨(Nat.le_of_ble_eq_true rfl), rfl⟩ (Nat.le_of_ble_eq_true rfl) (by exact Nat.le_of_ble_eq_true rfl) (by exact k_157 hF4) ?_
        refine S_X7_put (a := 157) (c := 158) (z := 3) (n := n2) (by exact k_157 hF4) (by exact r_157_0 hF4) (by exact k_158 hF4) (by omega) (((x4.2 157 (by omega)).1 1).trans (ld_n (by decide) (ld_n (by decide) (((o1.2 157 (by omega)).1 1).trans hC.2.2.2.2.2.2.2.1)))) hz pk.1 (by decide) ?_
        show Wp g mX11_law _ _ _ 109 _ (_ :: _) _ Q
        refine r_ireturn dX11_law_109 rfl rfl ?_
        exact k N rfl hN hz r hr _ ((hC3.ext x4).put1 hz hP) ((q3.tr (x4.q hF3)).tr (fun a h1 h2 => ⟨fun k => ld_n (by omega) rfl, fun k => rfl⟩))
  ·
    show Wp g mX11_law _ _ _ 12 _ (_ :: _) _ Q
    refine r_callS1 (d1 := 6) (c1 := 1) (n1 := 6) dX11_law_12 msX11_63 rfl (Nat.le_of_ble_eq_true rfl) (by exact Nat.le_of_ble_eq_true rfl) ?_
    refine S_demand0 ?_
    exact kb w9
