def Bv (v : VF) : Prop := ∀ N, v N = 0 ∨ v N = 1
def CbF (f : Nat → Rs) : Prop := ∀ s r, f s = .inr r → Bv r.2.2
theorem jn_bv {t : Int32} {l r : Int64} (ht : t = 279 ∨ t = 278) (hl : l = 0 ∨ l = 1) (hr : r = 0 ∨ r = 1) : jnF t l r = 0 ∨ jnF t l r = 1 := by
  rcases ht with rfl | rfl <;> rcases hl with rfl | rfl <;> rcases hr with rfl | rfl <;> decide
theorem jn_cmp {t : Int32} {l r : Int64} (ht : t = 60 ∨ t = 62 ∨ t = 61) : jnF t l r = 0 ∨ jnF t l r = 1 := by
  rcases ht with rfl | rfl | rfl
  · show (if l < r then (1 : Int64) else 0) = 0 ∨ (if l < r then (1 : Int64) else 0) = 1; split; exact Or.inr rfl; exact Or.inl rfl
  · show (if r < l then (1 : Int64) else 0) = 0 ∨ (if r < l then (1 : Int64) else 0) = 1; split; exact Or.inr rfl; exact Or.inl rfl
  · show (if l = r then (1 : Int64) else 0) = 0 ∨ (if l = r then (1 : Int64) else 0) = 1; split; exact Or.inr rfl; exact Or.inl rfl
section Cb
variable {b : Nat → Int32} {n : Nat}
theorem chL_b {q : Nat → Rs} {J : Int32 → Bool} (hq : CbF q) (hJ : ∀ t, J t = true → t = 279 ∨ t = 278) : ∀ k (a z : Ok), Bv a.2.2 → chL b n q J k a = .inr z → Bv z.2.2
  | 0, a, z, h, e => by cases e; exact h
  | k + 1, a, z, h, e => by
    have e : (if J (tkP b n a.1) = true then rB (q (adP b n a.1)) (fun r => chL b n q J k (r.1, a.2.1 ++ r.2.1 ++ [tkP b n a.1], fun N => jnF (tkP b n a.1) (a.2.2 N) (r.2.2 N))) else .inr a) = .inr z := e
    by_cases c : J (tkP b n a.1) = true
    · rw [if_pos c] at e
      obtain ⟨r, r1, r2⟩ := rB_ok e
      exact chL_b hq hJ k (r.1, a.2.1 ++ r.2.1 ++ [tkP b n a.1], fun N => jnF (tkP b n a.1) (a.2.2 N) (r.2.2 N)) z (fun N => jn_bv (hJ _ c) (h N) (hq _ r r1 N)) r2
    · rw [if_neg c] at e; cases e; exact h
theorem chn_b {q : Nat → Rs} {J : Int32 → Bool} (hq : CbF q) (hJ : ∀ t, J t = true → t = 279 ∨ t = 278) : CbF (chn b n q J) := fun s z h => by
  obtain ⟨r, r1, r2⟩ := rB_ok h
  exact chL_b hq hJ n r z (hq s r r1) r2
theorem J1_b (t : Int32) (h : J1 t = true) : t = 279 ∨ t = 278 := Or.inl (of_decide_eq_true h)
theorem J0_b (t : Int32) (h : J0 t = true) : t = 279 ∨ t = 278 := Or.inr (of_decide_eq_true h)
theorem cmpP_b {f : Nat → Rs} : CbF (cmpP b n f) := fun s z h => by
  obtain ⟨r, r1, h⟩ := rB_ok h
  obtain ⟨c, h⟩ := if_ok h
  obtain ⟨r2, r3, h⟩ := rB_ok h
  cases h
  exact fun N => jn_cmp c
theorem tesP_b : ∀ u, CbF (tesP b n u)
  | 0 => fun s z h => by
    have h : (if tkP b n s = 280 then .inl (3, s) else if tkP b n s = 91 then .inl (3, s) else cmpP b n (sumP b n 0) s) = .inr z := h
    by_cases c1 : tkP b n s = 280
    · rw [if_pos c1] at h; cases h
    · rw [if_neg c1] at h
      by_cases c2 : tkP b n s = 91
      · rw [if_pos c2] at h; cases h
      · rw [if_neg c2] at h; exact cmpP_b s z h
  | u + 1 => fun s z h => by
    have h : (if tkP b n s = 280 then rB (tesP b n u (adP b n s)) (fun r => .inr (r.1, r.2.1 ++ [280], fun N => if r.2.2 N = 0 then 1 else 0)) else if tkP b n s = 91 then rB (chn b n (chn b n (tesP b n u) J1) J0 (adP b n s)) (fun r => if tkP b n r.1 = 93 then .inr (adP b n r.1, r.2.1, r.2.2) else .inl (1, r.1)) else cmpP b n (sumP b n (u + 1)) s) = .inr z := h
    by_cases c1 : tkP b n s = 280
    · rw [if_pos c1] at h
      obtain ⟨r, r1, h⟩ := rB_ok h
      cases h
      intro N
      show (if r.2.2 N = 0 then (1 : Int64) else 0) = 0 ∨ (if r.2.2 N = 0 then (1 : Int64) else 0) = 1
      split; exact Or.inr rfl; exact Or.inl rfl
    · rw [if_neg c1] at h
      by_cases c2 : tkP b n s = 91
      · rw [if_pos c2] at h
        obtain ⟨r, r1, h⟩ := rB_ok h
        obtain ⟨c3, h⟩ := if_ok h
        cases h
        exact chn_b (chn_b (tesP_b u) J1_b) J0_b _ r r1
      · rw [if_neg c2] at h; exact cmpP_b s z h
end Cb
theorem bo_and {l r : Int64} (hl : l = 0 ∨ l = 1) (hr : r = 0 ∨ r = 1) : bo (jnF 279 l r) = if bo l = 0 then 0 else if bo r = 0 then 0 else 1 := by
  rcases hl with rfl | rfl <;> rcases hr with rfl | rfl <;> decide
theorem bo_or {l r : Int64} (hl : l = 0 ∨ l = 1) (hr : r = 0 ∨ r = 1) : bo (jnF 278 l r) = if bo l = 0 then (if bo r = 0 then 0 else 1) else 1 := by
  rcases hl with rfl | rfl <;> rcases hr with rfl | rfl <;> decide
theorem T_andsE {g : GG} {m : MM} {Q : Out → Prop} {b : Nat → Int32} {n K d : Nat} {e : Er} (h : RE b n K e m) {v : Int32} (hv : v = 0 ∨ v = 1) {x2 : Value} (k : Q (.inl (some (.int v)), m)) : Wp g mX12_ands d 0 0 5 [.ref 167, .int v, x2] [] m Q := by
  have hF := h.1.1
  refine r_aload_n dX12_ands_5 rfl ?_
  refine r_getIc (e.1) dX12_ands_6 fgX12_124 rfl (by exact k_167 hF) (by exact h.2.2.1) ?_
  refine r_if_ne 52 dX12_ands_9 rfl (fun hz => ?_) (fun hz => ?_)
  ·
    refine r_iload_n dX12_ands_52 rfl ?_
    refine r_ireturn dX12_ands_53 rfl (nb hv) ?_
    exact k
  ·
    exact absurd hz h.2.2.2.1
theorem L_ands {g : GG} {Q : Out → Prop} {b : Nat → Int32} {n o d : Nat} {f : Nat → Rs} {N : Nat → Int64} (hd : 3 ≤ d) (hu : NtT g b n mX12_test o d f) (hg : GdF b n f) (hc : CbF f) : ∀ (k : Nat) (a : Ok) (m : MM) (x2 : Value), n ≤ a.1 + k → RP b n a.1 o m → Bv a.2.2 → (∀ j, j < 10 → ldL m 178 j = N j) → (∀ e, chL b n f J1 k a = .inl e → ∀ m' v, (v = 0 ∨ v = 1) → Sy m m' → RE b n (n + 1) e m' → Q (.inl (some (.int v)), m')) → (∀ r, chL b n f J1 k a = .inr r → ∀ m', Sy m m' → RP b n r.1 o m' → Q (.inl (some (.int (bo (r.2.2 (cut N))))), m')) → Wp g mX12_ands (d + 1) 0 0 5 [.ref 167, .int (bo (a.2.2 (cut N))), x2] [] m Q := by
  intro k
  induction k with
  | zero =>
    intro a m x2 hk h hb2 hN k0 k1
    obtain ⟨a0, h, ha⟩ := h
    have hF := h.1.1
    refine r_aload_n dX12_ands_5 rfl ?_
    refine r_getIc (0) dX12_ands_6 fgX12_124 rfl (by exact k_167 hF) (by exact h.2.2.2.2.1) ?_
    refine r_if_ne 52 dX12_ands_9 rfl (fun hz => absurd hz (by decide)) (fun _ => ?_)
    refine r_aload_n dX12_ands_12 rfl ?_
    refine r_iconst (1) dX12_ands_13 rfl ?_
    refine r_bipush (14) dX12_ands_14 rfl ?_
    refine r_iconst (4) dX12_ands_16 rfl ?_
    refine r_iconst (0) dX12_ands_17 rfl ?_
    refine r_iconst (0) dX12_ands_18 rfl ?_
    refine r_iconst (0) dX12_ands_19 rfl ?_
    refine r_callV6 (ci := 12) (d1 := 3) (c1 := 0) (n1 := 0) dX12_ands_20 mvX12_159 rfl ⟨(Nat.le_of_ble_eq_true rfl), rfl⟩ (by omega) (by exact Nat.le_of_ble_eq_true rfl) (by exact k_167 hF) ?_
    refine S_isW23 h ha (fun t => absurd (t.symm.trans (tkP_end (by omega))) (by decide)) (fun t m1 s1 h1 => ?_)
    have hF := h1.1.1
    show Wp g mX12_ands _ _ _ 23 _ (_ :: _) _ Q
    refine r_if_eq 52 dX12_ands_23 rfl (fun _ => ?_) (fun hz => absurd hz (by decide))
    refine r_iload_n dX12_ands_52 rfl ?_
    refine r_ireturn dX12_ands_53 rfl (nb (bo01 _)) ?_
    exact k1 a rfl m1 s1 ⟨_, h1, by rw [← ha]; exact rE_id⟩
  | succ k ih =>
    intro a m x2 hk h hb2 hN k0 k1
    obtain ⟨a0, h, ha⟩ := h
    have hF := h.1.1
    refine r_aload_n dX12_ands_5 rfl ?_
    refine r_getIc (0) dX12_ands_6 fgX12_124 rfl (by exact k_167 hF) (by exact h.2.2.2.2.1) ?_
    refine r_if_ne 52 dX12_ands_9 rfl (fun hz => absurd hz (by decide)) (fun _ => ?_)
    refine r_aload_n dX12_ands_12 rfl ?_
    refine r_iconst (1) dX12_ands_13 rfl ?_
    refine r_bipush (14) dX12_ands_14 rfl ?_
    refine r_iconst (4) dX12_ands_16 rfl ?_
    refine r_iconst (0) dX12_ands_17 rfl ?_
    refine r_iconst (0) dX12_ands_18 rfl ?_
    refine r_iconst (0) dX12_ands_19 rfl ?_
    refine r_callV6 (ci := 12) (d1 := 3) (c1 := 0) (n1 := 0) dX12_ands_20 mvX12_159 rfl ⟨(Nat.le_of_ble_eq_true rfl), rfl⟩ (by omega) (by exact Nat.le_of_ble_eq_true rfl) (by exact k_167 hF) ?_
    refine S_isW23 h ha (fun t m1 s1 h1 => ?_) (fun t m1 s1 h1 => ?_)
    ·
      have hF := h1.1.1
      have w := ad_of t (by decide)
      have nw := nx_w (i := 23) (by omega) h1.1.2.2.1 t
      show Wp g mX12_ands _ _ _ 23 _ (_ :: _) _ Q
      refine r_if_eq 52 dX12_ands_23 rfl (fun hz => absurd hz (by decide)) (fun _ => ?_)
      refine r_aload_n dX12_ands_26 rfl ?_
      refine r_callV0 (ci := 12) (d1 := 1) (c1 := 0) (n1 := 0) dX12_ands_27 mvX12_174 rfl ⟨(Nat.le_of_ble_eq_true rfl), rfl⟩ (by omega) (by exact Nat.le_of_ble_eq_true rfl) (by exact k_167 hF) ?_
      refine S_skipP h1 (fun m2 s2 h2 => ?_)
      have hF := h2.1.1
      show Wp g mX12_ands _ _ _ 30 _ [] _ Q
      refine r_aload_n dX12_ands_30 rfl ?_
      refine r_callV0 (ci := 12) (d1 := d) (c1 := 0) (n1 := 0) dX12_ands_31 mvX12_197 rfl ⟨(Nat.le_of_ble_eq_true rfl), rfl⟩ (by omega) (by exact Nat.le_of_ble_eq_true rfl) (by exact k_167 hF) ?_
      refine hu _ (adP b n a.1) N _ ⟨_, h2, by unfold adP; rw [nw.1]⟩ (s2.n (s1.n hN)) (fun e he m3 v3 hv3 s3 h3 => ?_) (fun r hr m3 s3 h3 => ?_)
      ·
        have hF := h3.1.1
        show Wp g mX12_ands _ _ _ 34 _ (_ :: _) _ Q
        refine si_2 dX12_ands_34 (by first | rfl | assumption) (Nat.le_of_ble_eq_true rfl) ?_
        refine r_iload_n dX12_ands_35 rfl ?_
        refine r_if_eq 47 dX12_ands_36 rfl (fun c1 => ?_) (fun c1 => ?_)
        ·
          refine r_iconst (0) dX12_ands_47 rfl ?_
          refine si_1 dX12_ands_48 (by first | rfl | assumption) (Nat.le_of_ble_eq_true rfl) ?_
          refine r_goto 5 dX12_ands_49 rfl ?_
          have hj : J1 (tkP b n a.1) = true := decide_eq_true t
          exact T_andsE h3 (by first | exact Or.inl rfl | exact Or.inr rfl) (k0 e ((if_pos hj).trans (rB_l he)) m3 _ (by first | exact Or.inl rfl | exact Or.inr rfl) ((s1.tr s2).tr s3) h3)
        ·
          refine r_iload_n dX12_ands_39 rfl ?_
          refine r_if_eq 47 dX12_ands_40 rfl (fun c2 => ?_) (fun c2 => ?_)
          ·
            refine r_iconst (0) dX12_ands_47 rfl ?_
            refine si_1 dX12_ands_48 (by first | rfl | assumption) (Nat.le_of_ble_eq_true rfl) ?_
            refine r_goto 5 dX12_ands_49 rfl ?_
            have hj : J1 (tkP b n a.1) = true := decide_eq_true t
            exact T_andsE h3 (by first | exact Or.inl rfl | exact Or.inr rfl) (k0 e ((if_pos hj).trans (rB_l he)) m3 _ (by first | exact Or.inl rfl | exact Or.inr rfl) ((s1.tr s2).tr s3) h3)
          ·
            refine r_iconst (1) dX12_ands_43 rfl ?_
            refine r_goto 48 dX12_ands_44 rfl ?_
            refine si_1 dX12_ands_48 (by first | rfl | assumption) (Nat.le_of_ble_eq_true rfl) ?_
            refine r_goto 5 dX12_ands_49 rfl ?_
            have hj : J1 (tkP b n a.1) = true := decide_eq_true t
            exact T_andsE h3 (by first | exact Or.inl rfl | exact Or.inr rfl) (k0 e ((if_pos hj).trans (rB_l he)) m3 _ (by first | exact Or.inl rfl | exact Or.inr rfl) ((s1.tr s2).tr s3) h3)
      ·
        have hF : Fx m3 := by obtain ⟨q, h3, _⟩ := h3; exact h3.1.1
        show Wp g mX12_ands _ _ _ 34 _ (_ :: _) _ Q
        refine si_2 dX12_ands_34 (by first | rfl | assumption) (Nat.le_of_ble_eq_true rfl) ?_
        refine r_iload_n dX12_ands_35 rfl ?_
        refine r_if_eq 47 dX12_ands_36 rfl (fun c1 => ?_) (fun c1 => ?_)
        ·
          refine r_iconst (0) dX12_ands_47 rfl ?_
          refine si_1 dX12_ands_48 (by first | rfl | assumption) (Nat.le_of_ble_eq_true rfl) ?_
          refine r_goto 5 dX12_ands_49 rfl ?_
          have hj : J1 (tkP b n a.1) = true := decide_eq_true t
          have e9 : chL b n f J1 (k + 1) a = chL b n f J1 k (r.1, a.2.1 ++ r.2.1 ++ [tkP b n a.1], fun N => jnF (tkP b n a.1) (a.2.2 N) (r.2.2 N)) := (if_pos hj).trans (rB_r hr)
          rw [e9] at k0 k1
          have v := hg _ w.2.2 r hr
          have L := ih (r.1, a.2.1 ++ r.2.1 ++ [tkP b n a.1], fun N => jnF (tkP b n a.1) (a.2.2 N) (r.2.2 N)) m3 (.int (bo (r.2.2 (cut N)))) (by show n ≤ r.1 + k; omega) h3 (fun N => jn_bv (J1_b _ hj) (hb2 N) (hc _ r hr N)) (s3.n (s2.n (s1.n hN))) (fun e he m9 v9 hv9 q9 => k0 e he m9 v9 hv9 (((s1.tr s2).tr s3).tr q9)) (fun r hr m9 q9 => k1 r hr m9 (((s1.tr s2).tr s3).tr q9))
          dsimp only at L
          rw [t, bo_and (hb2 _) (hc _ r hr _), if_pos c1] at L; exact L
        ·
          refine r_iload_n dX12_ands_39 rfl ?_
          refine r_if_eq 47 dX12_ands_40 rfl (fun c2 => ?_) (fun c2 => ?_)
          ·
            refine r_iconst (0) dX12_ands_47 rfl ?_
            refine si_1 dX12_ands_48 (by first | rfl | assumption) (Nat.le_of_ble_eq_true rfl) ?_
            refine r_goto 5 dX12_ands_49 rfl ?_
            have hj : J1 (tkP b n a.1) = true := decide_eq_true t
            have e9 : chL b n f J1 (k + 1) a = chL b n f J1 k (r.1, a.2.1 ++ r.2.1 ++ [tkP b n a.1], fun N => jnF (tkP b n a.1) (a.2.2 N) (r.2.2 N)) := (if_pos hj).trans (rB_r hr)
            rw [e9] at k0 k1
            have v := hg _ w.2.2 r hr
            have L := ih (r.1, a.2.1 ++ r.2.1 ++ [tkP b n a.1], fun N => jnF (tkP b n a.1) (a.2.2 N) (r.2.2 N)) m3 (.int (bo (r.2.2 (cut N)))) (by show n ≤ r.1 + k; omega) h3 (fun N => jn_bv (J1_b _ hj) (hb2 N) (hc _ r hr N)) (s3.n (s2.n (s1.n hN))) (fun e he m9 v9 hv9 q9 => k0 e he m9 v9 hv9 (((s1.tr s2).tr s3).tr q9)) (fun r hr m9 q9 => k1 r hr m9 (((s1.tr s2).tr s3).tr q9))
            dsimp only at L
            rw [t, bo_and (hb2 _) (hc _ r hr _), if_neg c1, if_pos c2] at L; exact L
          ·
            refine r_iconst (1) dX12_ands_43 rfl ?_
            refine r_goto 48 dX12_ands_44 rfl ?_
            refine si_1 dX12_ands_48 (by first | rfl | assumption) (Nat.le_of_ble_eq_true rfl) ?_
            refine r_goto 5 dX12_ands_49 rfl ?_
            have hj : J1 (tkP b n a.1) = true := decide_eq_true t
            have e9 : chL b n f J1 (k + 1) a = chL b n f J1 k (r.1, a.2.1 ++ r.2.1 ++ [tkP b n a.1], fun N => jnF (tkP b n a.1) (a.2.2 N) (r.2.2 N)) := (if_pos hj).trans (rB_r hr)
            rw [e9] at k0 k1
            have v := hg _ w.2.2 r hr
            have L := ih (r.1, a.2.1 ++ r.2.1 ++ [tkP b n a.1], fun N => jnF (tkP b n a.1) (a.2.2 N) (r.2.2 N)) m3 (.int (bo (r.2.2 (cut N)))) (by show n ≤ r.1 + k; omega) h3 (fun N => jn_bv (J1_b _ hj) (hb2 N) (hc _ r hr N)) (s3.n (s2.n (s1.n hN))) (fun e he m9 v9 hv9 q9 => k0 e he m9 v9 hv9 (((s1.tr s2).tr s3).tr q9)) (fun r hr m9 q9 => k1 r hr m9 (((s1.tr s2).tr s3).tr q9))
            dsimp only at L
            rw [t, bo_and (hb2 _) (hc _ r hr _), if_neg c1, if_neg c2] at L; exact L
    ·
      have hF := h1.1.1
      show Wp g mX12_ands _ _ _ 23 _ (_ :: _) _ Q
      refine r_if_eq 52 dX12_ands_23 rfl (fun _ => ?_) (fun hz => absurd hz (by decide))
      refine r_iload_n dX12_ands_52 rfl ?_
      refine r_ireturn dX12_ands_53 rfl (nb (bo01 _)) ?_
      exact k1 a (if_neg (fun q => t (of_decide_eq_true q))) m1 s1 ⟨_, h1, by rw [← ha]; exact rE_id⟩
theorem S_rands {g : GG} {b : Nat → Int32} {n o d : Nat} {f : Nat → Rs} (hd : 3 ≤ d) (hu : NtT g b n mX12_test o d f) (hg : GdF b n f) (hc : CbF f) : NtT g b n mX12_ands o (d + 1) (chn b n f J1) := by
  intro m s N Q h hN k0 k1
  refine Cl.of rfl (by decide) (Nat.le_of_ble_eq_true rfl) ?_
  show Wp g mX12_ands (d + 1) 0 0 0 [.ref 167, .retAddr 0, .retAddr 0] [] m Q
  have hF : Fx m := by obtain ⟨a, h, _⟩ := h; exact h.1.1
  have hsn : s ≤ n := by obtain ⟨a, h, e⟩ := h; rw [← e]; exact rE_n h.2.2.1
  refine r_aload_n dX12_ands_0 rfl ?_
  refine r_callV0 (ci := 12) (d1 := d) (c1 := 0) (n1 := 0) dX12_ands_1 mvX12_197 rfl ⟨(Nat.le_of_ble_eq_true rfl), rfl⟩ (by omega) (by exact Nat.le_of_ble_eq_true rfl) (by exact k_167 hF) ?_
  refine hu _ s N _ h hN (fun e he m1 v1 hv1 s1 h1 => ?_) (fun r hr m1 s1 h1 => ?_)
  ·
    show Wp g mX12_ands _ _ _ 4 _ (_ :: _) _ Q
    refine si_1 dX12_ands_4 rfl (Nat.le_of_ble_eq_true rfl) ?_
    exact T_andsE h1 hv1 (k0 e (rB_l he) m1 _ hv1 s1 h1)
  ·
    show Wp g mX12_ands _ _ _ 4 _ (_ :: _) _ Q
    refine si_1 dX12_ands_4 rfl (Nat.le_of_ble_eq_true rfl) ?_
    have e9 : chn b n f J1 s = chL b n f J1 n r := rB_r hr
    rw [e9] at k0 k1
    exact L_ands hd hu hg hc n r m1 _ (by omega) h1 (hc _ r hr) (s1.n hN) (fun e he m9 v9 hv9 q9 => k0 e he m9 v9 hv9 (s1.tr q9)) (fun r hr m9 q9 => k1 r hr m9 (s1.tr q9))
theorem T_orsE {g : GG} {m : MM} {Q : Out → Prop} {b : Nat → Int32} {n K d : Nat} {e : Er} (h : RE b n K e m) {v : Int32} (hv : v = 0 ∨ v = 1) {x2 : Value} (k : Q (.inl (some (.int v)), m)) : Wp g mX12_ors d 0 0 5 [.ref 167, .int v, x2] [] m Q := by
  have hF := h.1.1
  refine r_aload_n dX12_ors_5 rfl ?_
  refine r_getIc (e.1) dX12_ors_6 fgX12_124 rfl (by exact k_167 hF) (by exact h.2.2.1) ?_
  refine r_if_ne 53 dX12_ors_9 rfl (fun hz => ?_) (fun hz => ?_)
  ·
    refine r_iload_n dX12_ors_53 rfl ?_
    refine r_ireturn dX12_ors_54 rfl (nb hv) ?_
    exact k
  ·
    exact absurd hz h.2.2.2.1
theorem L_ors {g : GG} {Q : Out → Prop} {b : Nat → Int32} {n o d : Nat} {f : Nat → Rs} {N : Nat → Int64} (hd : 3 ≤ d) (hu : NtT g b n mX12_ands o d f) (hg : GdF b n f) (hc : CbF f) : ∀ (k : Nat) (a : Ok) (m : MM) (x2 : Value), n ≤ a.1 + k → RP b n a.1 o m → Bv a.2.2 → (∀ j, j < 10 → ldL m 178 j = N j) → (∀ e, chL b n f J0 k a = .inl e → ∀ m' v, (v = 0 ∨ v = 1) → Sy m m' → RE b n (n + 1) e m' → Q (.inl (some (.int v)), m')) → (∀ r, chL b n f J0 k a = .inr r → ∀ m', Sy m m' → RP b n r.1 o m' → Q (.inl (some (.int (bo (r.2.2 (cut N))))), m')) → Wp g mX12_ors (d + 1) 0 0 5 [.ref 167, .int (bo (a.2.2 (cut N))), x2] [] m Q := by
  intro k
  induction k with
  | zero =>
    intro a m x2 hk h hb2 hN k0 k1
    obtain ⟨a0, h, ha⟩ := h
    have hF := h.1.1
    refine r_aload_n dX12_ors_5 rfl ?_
    refine r_getIc (0) dX12_ors_6 fgX12_124 rfl (by exact k_167 hF) (by exact h.2.2.2.2.1) ?_
    refine r_if_ne 53 dX12_ors_9 rfl (fun hz => absurd hz (by decide)) (fun _ => ?_)
    refine r_aload_n dX12_ors_12 rfl ?_
    refine r_bipush (15) dX12_ors_13 rfl ?_
    refine r_bipush (18) dX12_ors_15 rfl ?_
    refine r_iconst (0) dX12_ors_17 rfl ?_
    refine r_iconst (0) dX12_ors_18 rfl ?_
    refine r_iconst (0) dX12_ors_19 rfl ?_
    refine r_iconst (0) dX12_ors_20 rfl ?_
    refine r_callV6 (ci := 12) (d1 := 3) (c1 := 0) (n1 := 0) dX12_ors_21 mvX12_159 rfl ⟨(Nat.le_of_ble_eq_true rfl), rfl⟩ (by omega) (by exact Nat.le_of_ble_eq_true rfl) (by exact k_167 hF) ?_
    refine S_isW22 h ha (fun t => absurd (t.symm.trans (tkP_end (by omega))) (by decide)) (fun t m1 s1 h1 => ?_)
    have hF := h1.1.1
    show Wp g mX12_ors _ _ _ 24 _ (_ :: _) _ Q
    refine r_if_eq 53 dX12_ors_24 rfl (fun _ => ?_) (fun hz => absurd hz (by decide))
    refine r_iload_n dX12_ors_53 rfl ?_
    refine r_ireturn dX12_ors_54 rfl (nb (bo01 _)) ?_
    exact k1 a rfl m1 s1 ⟨_, h1, by rw [← ha]; exact rE_id⟩
  | succ k ih =>
    intro a m x2 hk h hb2 hN k0 k1
    obtain ⟨a0, h, ha⟩ := h
    have hF := h.1.1
    refine r_aload_n dX12_ors_5 rfl ?_
    refine r_getIc (0) dX12_ors_6 fgX12_124 rfl (by exact k_167 hF) (by exact h.2.2.2.2.1) ?_
    refine r_if_ne 53 dX12_ors_9 rfl (fun hz => absurd hz (by decide)) (fun _ => ?_)
    refine r_aload_n dX12_ors_12 rfl ?_
    refine r_bipush (15) dX12_ors_13 rfl ?_
    refine r_bipush (18) dX12_ors_15 rfl ?_
    refine r_iconst (0) dX12_ors_17 rfl ?_
    refine r_iconst (0) dX12_ors_18 rfl ?_
    refine r_iconst (0) dX12_ors_19 rfl ?_
    refine r_iconst (0) dX12_ors_20 rfl ?_
    refine r_callV6 (ci := 12) (d1 := 3) (c1 := 0) (n1 := 0) dX12_ors_21 mvX12_159 rfl ⟨(Nat.le_of_ble_eq_true rfl), rfl⟩ (by omega) (by exact Nat.le_of_ble_eq_true rfl) (by exact k_167 hF) ?_
    refine S_isW22 h ha (fun t m1 s1 h1 => ?_) (fun t m1 s1 h1 => ?_)
    ·
      have hF := h1.1.1
      have w := ad_of t (by decide)
      have nw := nx_w (i := 22) (by omega) h1.1.2.2.1 t
      show Wp g mX12_ors _ _ _ 24 _ (_ :: _) _ Q
      refine r_if_eq 53 dX12_ors_24 rfl (fun hz => absurd hz (by decide)) (fun _ => ?_)
      refine r_aload_n dX12_ors_27 rfl ?_
      refine r_callV0 (ci := 12) (d1 := 1) (c1 := 0) (n1 := 0) dX12_ors_28 mvX12_174 rfl ⟨(Nat.le_of_ble_eq_true rfl), rfl⟩ (by omega) (by exact Nat.le_of_ble_eq_true rfl) (by exact k_167 hF) ?_
      refine S_skipP h1 (fun m2 s2 h2 => ?_)
      have hF := h2.1.1
      show Wp g mX12_ors _ _ _ 31 _ [] _ Q
      refine r_aload_n dX12_ors_31 rfl ?_
      refine r_callV0 (ci := 12) (d1 := d) (c1 := 0) (n1 := 0) dX12_ors_32 mvX12_204 rfl ⟨(Nat.le_of_ble_eq_true rfl), rfl⟩ (by omega) (by exact Nat.le_of_ble_eq_true rfl) (by exact k_167 hF) ?_
      refine hu _ (adP b n a.1) N _ ⟨_, h2, by unfold adP; rw [nw.1]⟩ (s2.n (s1.n hN)) (fun e he m3 v3 hv3 s3 h3 => ?_) (fun r hr m3 s3 h3 => ?_)
      ·
        have hF := h3.1.1
        show Wp g mX12_ors _ _ _ 35 _ (_ :: _) _ Q
        refine si_2 dX12_ors_35 (by first | rfl | assumption) (Nat.le_of_ble_eq_true rfl) ?_
        refine r_iload_n dX12_ors_36 rfl ?_
        refine r_if_ne 44 dX12_ors_37 rfl (fun c1 => ?_) (fun c1 => ?_)
        ·
          refine r_iconst (1) dX12_ors_44 rfl ?_
          refine r_goto 49 dX12_ors_45 rfl ?_
          refine si_1 dX12_ors_49 (by first | rfl | assumption) (Nat.le_of_ble_eq_true rfl) ?_
          refine r_goto 5 dX12_ors_50 rfl ?_
          have hj : J0 (tkP b n a.1) = true := decide_eq_true t
          exact T_orsE h3 (by first | exact Or.inl rfl | exact Or.inr rfl) (k0 e ((if_pos hj).trans (rB_l he)) m3 _ (by first | exact Or.inl rfl | exact Or.inr rfl) ((s1.tr s2).tr s3) h3)
        ·
          refine r_iload_n dX12_ors_40 rfl ?_
          refine r_if_eq 48 dX12_ors_41 rfl (fun c2 => ?_) (fun c2 => ?_)
          ·
            refine r_iconst (0) dX12_ors_48 rfl ?_
            refine si_1 dX12_ors_49 (by first | rfl | assumption) (Nat.le_of_ble_eq_true rfl) ?_
            refine r_goto 5 dX12_ors_50 rfl ?_
            have hj : J0 (tkP b n a.1) = true := decide_eq_true t
            exact T_orsE h3 (by first | exact Or.inl rfl | exact Or.inr rfl) (k0 e ((if_pos hj).trans (rB_l he)) m3 _ (by first | exact Or.inl rfl | exact Or.inr rfl) ((s1.tr s2).tr s3) h3)
          ·
            refine r_iconst (1) dX12_ors_44 rfl ?_
            refine r_goto 49 dX12_ors_45 rfl ?_
            refine si_1 dX12_ors_49 (by first | rfl | assumption) (Nat.le_of_ble_eq_true rfl) ?_
            refine r_goto 5 dX12_ors_50 rfl ?_
            have hj : J0 (tkP b n a.1) = true := decide_eq_true t
            exact T_orsE h3 (by first | exact Or.inl rfl | exact Or.inr rfl) (k0 e ((if_pos hj).trans (rB_l he)) m3 _ (by first | exact Or.inl rfl | exact Or.inr rfl) ((s1.tr s2).tr s3) h3)
      ·
        have hF : Fx m3 := by obtain ⟨q, h3, _⟩ := h3; exact h3.1.1
        show Wp g mX12_ors _ _ _ 35 _ (_ :: _) _ Q
        refine si_2 dX12_ors_35 (by first | rfl | assumption) (Nat.le_of_ble_eq_true rfl) ?_
        refine r_iload_n dX12_ors_36 rfl ?_
        refine r_if_ne 44 dX12_ors_37 rfl (fun c1 => ?_) (fun c1 => ?_)
        ·
          refine r_iconst (1) dX12_ors_44 rfl ?_
          refine r_goto 49 dX12_ors_45 rfl ?_
          refine si_1 dX12_ors_49 (by first | rfl | assumption) (Nat.le_of_ble_eq_true rfl) ?_
          refine r_goto 5 dX12_ors_50 rfl ?_
          have hj : J0 (tkP b n a.1) = true := decide_eq_true t
          have e9 : chL b n f J0 (k + 1) a = chL b n f J0 k (r.1, a.2.1 ++ r.2.1 ++ [tkP b n a.1], fun N => jnF (tkP b n a.1) (a.2.2 N) (r.2.2 N)) := (if_pos hj).trans (rB_r hr)
          rw [e9] at k0 k1
          have v := hg _ w.2.2 r hr
          have L := ih (r.1, a.2.1 ++ r.2.1 ++ [tkP b n a.1], fun N => jnF (tkP b n a.1) (a.2.2 N) (r.2.2 N)) m3 (.int (bo (r.2.2 (cut N)))) (by show n ≤ r.1 + k; omega) h3 (fun N => jn_bv (J0_b _ hj) (hb2 N) (hc _ r hr N)) (s3.n (s2.n (s1.n hN))) (fun e he m9 v9 hv9 q9 => k0 e he m9 v9 hv9 (((s1.tr s2).tr s3).tr q9)) (fun r hr m9 q9 => k1 r hr m9 (((s1.tr s2).tr s3).tr q9))
          dsimp only at L
          rw [t, bo_or (hb2 _) (hc _ r hr _), if_neg c1] at L; exact L
        ·
          refine r_iload_n dX12_ors_40 rfl ?_
          refine r_if_eq 48 dX12_ors_41 rfl (fun c2 => ?_) (fun c2 => ?_)
          ·
            refine r_iconst (0) dX12_ors_48 rfl ?_
            refine si_1 dX12_ors_49 (by first | rfl | assumption) (Nat.le_of_ble_eq_true rfl) ?_
            refine r_goto 5 dX12_ors_50 rfl ?_
            have hj : J0 (tkP b n a.1) = true := decide_eq_true t
            have e9 : chL b n f J0 (k + 1) a = chL b n f J0 k (r.1, a.2.1 ++ r.2.1 ++ [tkP b n a.1], fun N => jnF (tkP b n a.1) (a.2.2 N) (r.2.2 N)) := (if_pos hj).trans (rB_r hr)
            rw [e9] at k0 k1
            have v := hg _ w.2.2 r hr
            have L := ih (r.1, a.2.1 ++ r.2.1 ++ [tkP b n a.1], fun N => jnF (tkP b n a.1) (a.2.2 N) (r.2.2 N)) m3 (.int (bo (r.2.2 (cut N)))) (by show n ≤ r.1 + k; omega) h3 (fun N => jn_bv (J0_b _ hj) (hb2 N) (hc _ r hr N)) (s3.n (s2.n (s1.n hN))) (fun e he m9 v9 hv9 q9 => k0 e he m9 v9 hv9 (((s1.tr s2).tr s3).tr q9)) (fun r hr m9 q9 => k1 r hr m9 (((s1.tr s2).tr s3).tr q9))
            dsimp only at L
            rw [t, bo_or (hb2 _) (hc _ r hr _), if_pos c1, if_pos c2] at L; exact L
          ·
            refine r_iconst (1) dX12_ors_44 rfl ?_
            refine r_goto 49 dX12_ors_45 rfl ?_
            refine si_1 dX12_ors_49 (by first | rfl | assumption) (Nat.le_of_ble_eq_true rfl) ?_
            refine r_goto 5 dX12_ors_50 rfl ?_
            have hj : J0 (tkP b n a.1) = true := decide_eq_true t
            have e9 : chL b n f J0 (k + 1) a = chL b n f J0 k (r.1, a.2.1 ++ r.2.1 ++ [tkP b n a.1], fun N => jnF (tkP b n a.1) (a.2.2 N) (r.2.2 N)) := (if_pos hj).trans (rB_r hr)
            rw [e9] at k0 k1
            have v := hg _ w.2.2 r hr
            have L := ih (r.1, a.2.1 ++ r.2.1 ++ [tkP b n a.1], fun N => jnF (tkP b n a.1) (a.2.2 N) (r.2.2 N)) m3 (.int (bo (r.2.2 (cut N)))) (by show n ≤ r.1 + k; omega) h3 (fun N => jn_bv (J0_b _ hj) (hb2 N) (hc _ r hr N)) (s3.n (s2.n (s1.n hN))) (fun e he m9 v9 hv9 q9 => k0 e he m9 v9 hv9 (((s1.tr s2).tr s3).tr q9)) (fun r hr m9 q9 => k1 r hr m9 (((s1.tr s2).tr s3).tr q9))
            dsimp only at L
            rw [t, bo_or (hb2 _) (hc _ r hr _), if_pos c1, if_neg c2] at L; exact L
    ·
      have hF := h1.1.1
      show Wp g mX12_ors _ _ _ 24 _ (_ :: _) _ Q
      refine r_if_eq 53 dX12_ors_24 rfl (fun _ => ?_) (fun hz => absurd hz (by decide))
      refine r_iload_n dX12_ors_53 rfl ?_
      refine r_ireturn dX12_ors_54 rfl (nb (bo01 _)) ?_
      exact k1 a (if_neg (fun q => t (of_decide_eq_true q))) m1 s1 ⟨_, h1, by rw [← ha]; exact rE_id⟩
theorem S_rors {g : GG} {b : Nat → Int32} {n o d : Nat} {f : Nat → Rs} (hd : 3 ≤ d) (hu : NtT g b n mX12_ands o d f) (hg : GdF b n f) (hc : CbF f) : NtT g b n mX12_ors o (d + 1) (chn b n f J0) := by
  intro m s N Q h hN k0 k1
  refine Cl.of rfl (by decide) (Nat.le_of_ble_eq_true rfl) ?_
  show Wp g mX12_ors (d + 1) 0 0 0 [.ref 167, .retAddr 0, .retAddr 0] [] m Q
  have hF : Fx m := by obtain ⟨a, h, _⟩ := h; exact h.1.1
  have hsn : s ≤ n := by obtain ⟨a, h, e⟩ := h; rw [← e]; exact rE_n h.2.2.1
  refine r_aload_n dX12_ors_0 rfl ?_
  refine r_callV0 (ci := 12) (d1 := d) (c1 := 0) (n1 := 0) dX12_ors_1 mvX12_204 rfl ⟨(Nat.le_of_ble_eq_true rfl), rfl⟩ (by omega) (by exact Nat.le_of_ble_eq_true rfl) (by exact k_167 hF) ?_
  refine hu _ s N _ h hN (fun e he m1 v1 hv1 s1 h1 => ?_) (fun r hr m1 s1 h1 => ?_)
  ·
    show Wp g mX12_ors _ _ _ 4 _ (_ :: _) _ Q
    refine si_1 dX12_ors_4 rfl (Nat.le_of_ble_eq_true rfl) ?_
    exact T_orsE h1 hv1 (k0 e (rB_l he) m1 _ hv1 s1 h1)
  ·
    show Wp g mX12_ors _ _ _ 4 _ (_ :: _) _ Q
    refine si_1 dX12_ors_4 rfl (Nat.le_of_ble_eq_true rfl) ?_
    have e9 : chn b n f J0 s = chL b n f J0 n r := rB_r hr
    rw [e9] at k0 k1
    exact L_ors hd hu hg hc n r m1 _ (by omega) h1 (hc _ r hr) (s1.n hN) (fun e he m9 v9 hv9 q9 => k0 e he m9 v9 hv9 (s1.tr q9)) (fun r hr m9 q9 => k1 r hr m9 (s1.tr q9))
theorem S_rorsT {g : GG} {b : Nat → Int32} {n u o d : Nat} (hd : 3 ≤ d) (hT : NtT g b n mX12_test o d (tesP b n u)) : NtT g b n mX12_ors o (d + 2) (orsP b n u) := S_rors (d := d + 1) (by omega) (S_rands hd hT (tesP_g u) (tesP_b u)) (chn_g (tesP_g u) rfl) (chn_b (tesP_b u) J1_b)
theorem S_rtst {g : GG} {b : Nat → Int32} {n : Nat} : ∀ u o, u + o = 6 → NtT g b n mX12_test o (9 + 3 * u) (tesP b n u)
  | 0, o, h => by
    obtain rfl : o = 6 := by omega
    exact S_rtest0 (d1 := 8) (d2 := 0) (d3 := 8) (by omega) (by omega) (by omega) (by omega) (S_rsum 0 6 (by omega)) (E_ors (d := 7) (E_ands (d := 6) E_test))
  | u + 1, o, h => by
    have ih := S_rtst (g := g) (b := b) (n := n) u (o + 1) (by omega)
    exact S_rtestS (d1 := 8 + 3 * (u + 1)) (d2 := 9 + 3 * u) (d3 := 9 + 3 * u + 2) (by omega) (by omega) (by omega) (by omega) (by omega) (S_rsum (u + 1) o (by omega)) ih (S_rorsT (by omega) ih) (E_ors (d := 9 + 3 * u + 1) (E_ands (d := 9 + 3 * u) E_test))
theorem S_rsum6 {g : GG} {b : Nat → Int32} {n : Nat} : NtR g b n mX12_sum 0 26 (sumP b n 6) := S_rsum 6 0 (by omega)
theorem S_rors6 {g : GG} {b : Nat → Int32} {n : Nat} : NtT g b n mX12_ors 0 29 (orsP b n 6) := S_rorsT (d := 27) (by omega) (S_rtst 6 0 (by omega))
