def rtL (v : Int64) : Nat → Int64 → Int64
  | 0, r => r
  | b + 1, r => if r + (1 <<< ((nI b).toInt64 &&& 63)) ≤ 3037000499 ∧ (r + (1 <<< ((nI b).toInt64 &&& 63))) * (r + (1 <<< ((nI b).toInt64 &&& 63))) ≤ v then rtL v b (r + (1 <<< ((nI b).toInt64 &&& 63))) else rtL v b r
def rtF (v : Int64) : Int64 := if v < 0 then 0 else rtL v 32 0
theorem L_root {g : GG} {m : MM} {Q : Out → Prop} {v : Int64} : ∀ (b : Nat) (r : Int64) (x y : Value), b ≤ 32 → Q (.inl (some (.long (rtL v b r))), m) → Wp g mX11_rootOf 0 0 0 14 [.long v, .retAddr 0, .long r, .retAddr 0, .int (nI b - 1), x, y] [] m Q := by
  intro b
  induction b with
  | zero =>
    intro r x y hb k
    refine r_iload dX11_rootOf_14 rfl ?_
    refine r_if_lt 55 dX11_rootOf_16 rfl (fun h1 => ?_) (fun h1 => ?_)
    ·
      refine r_lload_n dX11_rootOf_55 rfl ?_
      refine r_lreturn dX11_rootOf_56 rfl ?_
      exact k
    ·
      exact absurd (by decide) h1
  | succ b ih =>
    intro r x y hb k
    rw [nI_pred]
    have e1 : nI b + -1 = nI b - 1 := by rw [← Int32.sub_eq_add_neg]
    refine r_iload dX11_rootOf_14 rfl ?_
    refine r_if_lt 55 dX11_rootOf_16 rfl (fun h1 => ?_) (fun h1 => ?_)
    ·
      exact absurd h1 (nI_pos (by omega))
    ·
      refine r_lload_n dX11_rootOf_19 rfl ?_
      refine r_lconst (1) dX11_rootOf_20 rfl ?_
      refine r_iload dX11_rootOf_21 rfl ?_
      refine r_lshl dX11_rootOf_23 ?_
      refine r_ladd dX11_rootOf_24 ?_
      refine sl_5 dX11_rootOf_25 rfl (Nat.le_of_ble_eq_true rfl) ?_
      refine r_lload dX11_rootOf_27 rfl ?_
      refine r_ldc2 (3037000499) dX11_rootOf_29 ctX11_314 ?_
      refine r_lcmp_gt 49 dX11_rootOf_32 dX11_rootOf_33 rfl (fun h2 => ?_) (fun h2 => ?_)
      ·
        refine ic_4 (-1) dX11_rootOf_49 rfl rfl (Nat.le_of_ble_eq_true rfl) ?_
        refine r_goto 14 dX11_rootOf_52 rfl ?_
        rw [e1]
        refine ih _ _ _ (by omega) ?_
        first
          | (rw [rtL, if_pos ⟨i64_nlt.mp h2, i64_nlt.mp h3⟩] at k; exact k)
          | (rw [rtL, if_neg (fun q => i64_nlt.mpr q.2 h3)] at k; exact k)
          | (rw [rtL, if_neg (fun q => i64_nlt.mpr q.1 h2)] at k; exact k)
      ·
        refine r_lload dX11_rootOf_36 rfl ?_
        refine r_lload dX11_rootOf_38 rfl ?_
        refine r_lmul dX11_rootOf_40 ?_
        refine r_lload_n dX11_rootOf_41 rfl ?_
        refine r_lcmp_gt 49 dX11_rootOf_42 dX11_rootOf_43 rfl (fun h3 => ?_) (fun h3 => ?_)
        ·
          refine ic_4 (-1) dX11_rootOf_49 rfl rfl (Nat.le_of_ble_eq_true rfl) ?_
          refine r_goto 14 dX11_rootOf_52 rfl ?_
          rw [e1]
          refine ih _ _ _ (by omega) ?_
          first
            | (rw [rtL, if_pos ⟨i64_nlt.mp h2, i64_nlt.mp h3⟩] at k; exact k)
            | (rw [rtL, if_neg (fun q => i64_nlt.mpr q.2 h3)] at k; exact k)
            | (rw [rtL, if_neg (fun q => i64_nlt.mpr q.1 h2)] at k; exact k)
        ·
          refine r_lload dX11_rootOf_46 rfl ?_
          refine sl_2 dX11_rootOf_48 (by first | rfl | assumption) (Nat.le_of_ble_eq_true rfl) ?_
          refine ic_4 (-1) dX11_rootOf_49 rfl rfl (Nat.le_of_ble_eq_true rfl) ?_
          refine r_goto 14 dX11_rootOf_52 rfl ?_
          rw [e1]
          refine ih _ _ _ (by omega) ?_
          first
            | (rw [rtL, if_pos ⟨i64_nlt.mp h2, i64_nlt.mp h3⟩] at k; exact k)
            | (rw [rtL, if_neg (fun q => i64_nlt.mpr q.2 h3)] at k; exact k)
            | (rw [rtL, if_neg (fun q => i64_nlt.mpr q.1 h2)] at k; exact k)
theorem S_X11_rootOf {g : GG} {m : MM} {Q : Out → Prop} {v : Int64} (k : Q (.inl (some (.long (rtF v))), m)) : Cl g 0 0 0 mX11_rootOf [.long v] m Q := by
  refine Cl.of rfl (by decide) (Nat.le_of_ble_eq_true rfl) ?_
  show Wp g mX11_rootOf 0 0 0 0 [.long v, .retAddr 0, .retAddr 0, .retAddr 0, .retAddr 0, .retAddr 0, .retAddr 0] [] m Q
  refine r_lload_n dX11_rootOf_0 rfl ?_
  refine r_lconst (0) dX11_rootOf_1 rfl ?_
  refine r_lcmp_ge 8 dX11_rootOf_2 dX11_rootOf_3 rfl (fun h1 => ?_) (fun h1 => ?_)
  ·
    refine r_lconst (0) dX11_rootOf_8 rfl ?_
    refine sl_2 dX11_rootOf_9 (by first | rfl | assumption) (Nat.le_of_ble_eq_true rfl) ?_
    refine r_bipush (31) dX11_rootOf_10 rfl ?_
    refine si_4 dX11_rootOf_12 (by first | rfl | assumption) (Nat.le_of_ble_eq_true rfl) ?_
    rw [rtF, if_neg (i64_nlt.mpr h1)] at k
    exact L_root 32 0 _ _ (by omega) k
  ·
    refine r_lconst (0) dX11_rootOf_6 rfl ?_
    refine r_lreturn dX11_rootOf_7 rfl ?_
    (rw [rtF, if_pos (i64_nle.mp h1)] at k; exact k)
abbrev WS : Type := (Nat → Int64) × Nat × (Nat → Int64)
def wkM (m : MM) (σ : WS) : MM := stI (stRowL (stRowL m 163 σ.1) 162 σ.2.2) 160 3 (nI σ.2.1)
def psh (v : Int64) (σ : WS) : WS := if σ.2.1 < 64 then (fun j => if j = σ.2.1 then v else σ.1 j, σ.2.1 + 1, σ.2.2) else σ
def ppV (σ : WS) : Int64 := if 0 < σ.2.1 then σ.1 (σ.2.1 - 1) else 0
def ppS (σ : WS) : WS := (σ.1, σ.2.1 - 1, σ.2.2)
def tlS (w : Int32) (v : Int64) (h : Int32) (σ : WS) : WS := if ¬ h = 0 ∧ 0 ≤ w ∧ w < 8 then (σ.1, σ.2.1, fun j => if j = w.toNatClampNeg then v else σ.2.2 j) else σ
theorem wk_top (m : MM) (σ : WS) : ldI (wkM m σ) 160 3 = nI σ.2.1 := by simp [wkM, ldI_stI]
theorem wk_stk (m : MM) (σ : WS) (j : Nat) : ldL (wkM m σ) 163 j = σ.1 j := by simp [wkM, ldL_stI, ldL_stRowL]
theorem wk_told (m : MM) (σ : WS) (j : Nat) : ldL (wkM m σ) 162 j = σ.2.2 j := by simp [wkM, ldL_stI, ldL_stRowL]
theorem wk_nm (m : MM) (σ : WS) (j : Nat) : ldL (wkM m σ) 161 j = ldL m 161 j := by simp [wkM, ldL_stI, ldL_stRowL]
theorem wk_I (m : MM) (σ : WS) {a k : Nat} (h : a ≠ 160) : ldI (wkM m σ) a k = ldI m a k := by simp [wkM, ldI_stI, ldI_stRowL, h]
theorem mm_ext {m m' : MM} (h1 : ∀ a k, ldI m a k = ldI m' a k) (h2 : ∀ a k, ldL m a k = ldL m' a k) (h3 : m.2.2 = m'.2.2) : m = m' := by
  obtain ⟨f, r, t⟩ := m
  obtain ⟨f', r', t'⟩ := m'
  have e1 : f = f' := funext fun a => funext fun k => h1 a k
  have e2 : r = r' := funext fun a => funext fun k => h2 a k
  subst e1; subst e2
  cases h3
  rfl
theorem wk_psh (m : MM) (σ : WS) (v : Int64) : stI (stL (wkM m σ) 163 σ.2.1 v) 160 3 (nI (σ.2.1 + 1)) = wkM m (fun j => if j = σ.2.1 then v else σ.1 j, σ.2.1 + 1, σ.2.2) := by
  refine mm_ext (fun a k => ?_) (fun a k => ?_) rfl
  · simp only [wkM, ldI_stI, ldI_stL, ldI_stRowL]
    by_cases h : a = 160 ∧ k = 3 <;> simp [h]
  · simp only [wkM, ldL_stI, ldL_stL, ldL_stRowL]
    by_cases h : a = 162
    · subst h; simp
    · by_cases h2 : a = 163
      · subst h2; by_cases h3 : k = σ.2.1 <;> simp [h3]
      · simp [h, h2]
theorem wk_pop (m : MM) (σ : WS) (x : Nat) : stI (wkM m σ) 160 3 (nI x) = wkM m (σ.1, x, σ.2.2) := by
  refine mm_ext (fun a k => ?_) (fun a k => ?_) rfl
  · simp only [wkM, ldI_stI, ldI_stRowL]
    by_cases h : a = 160 ∧ k = 3 <;> simp [h]
  · simp only [wkM, ldL_stI, ldL_stRowL]
theorem wk_tl (m : MM) (σ : WS) (w : Nat) (v : Int64) : stL (wkM m σ) 162 w v = wkM m (σ.1, σ.2.1, fun j => if j = w then v else σ.2.2 j) := by
  refine mm_ext (fun a k => ?_) (fun a k => ?_) rfl
  · simp only [wkM, ldI_stI, ldI_stL, ldI_stRowL]
  · simp only [wkM, ldL_stI, ldL_stL, ldL_stRowL]
    by_cases h : a = 162
    · subst h; by_cases h3 : k = w <;> simp [h3]
    · simp [h]
theorem S_X9_push {g : GG} {m : MM} {Q : Out → Prop} (hF : Fx m) {σ : WS} (ht : σ.2.1 ≤ 64) {v : Int64} (k : Q (.inl none, wkM m (psh v σ))) : Cl g 0 0 0 mX9_push [.ref 160, .long v] (wkM m σ) Q := by
  refine Cl.of rfl (by decide) (Nat.le_of_ble_eq_true rfl) ?_
  show Wp g mX9_push 0 0 0 0 [.ref 160, .long v, .retAddr 0] [] (wkM m σ) Q
  refine r_aload_n dX9_push_0 rfl ?_
  refine r_getI dX9_push_1 fgX9_27 rfl (by exact k_160 hF) ?_
  refine r_aload_n dX9_push_4 rfl ?_
  refine r_getRc dX9_push_5 fgX9_18 rfl (by exact k_160 hF) (by exact r_160_2 hF) ?_
  refine r_alen _ dX9_push_8 ⟨Nat.le_of_ble_eq_true rfl, Nat.le_of_ble_eq_true rfl⟩ (by exact k_163 hF) rfl ?_
  refine r_icmp_ge 32 dX9_push_9 rfl (fun h1 => ?_) (fun h1 => ?_)
  ·
    refine r_return dX9_push_32 rfl ?_
    first
      | (rw [psh, if_neg (fun q => nI_ge q (by omega) (by rw [← wk_top m σ]; exact h1))] at k; exact k)
      | (rw [psh, if_pos hlt] at k
         have e1 : ldI (stL (wkM m σ) 163 (ldI (wkM m σ) 160 3).toNatClampNeg v) 160 3 + 1 = nI (σ.2.1 + 1) := by rw [ldI_stL, wk_top, nI_1]
         rw [e1, wk_top, nI_cl _ (by omega)]
         have e2 : stI (stL (wkM m σ) 163 σ.2.1 v) 160 3 (nI (σ.2.1 + 1)) = wkM m (fun j => if j = σ.2.1 then v else σ.1 j, σ.2.1 + 1, σ.2.2) := wk_psh m σ v
         rw [e2]; exact k)
  ·
    have hlt : σ.2.1 < 64 := (Nat.not_le.mp fun q => h1 (by rw [wk_top]; exact nI_le q (by omega)))
    refine r_aload_n dX9_push_12 rfl ?_
    refine r_getRc dX9_push_13 fgX9_18 rfl (by exact k_160 hF) (by exact r_160_2 hF) ?_
    refine r_aload_n dX9_push_16 rfl ?_
    refine r_getI dX9_push_17 fgX9_27 rfl (by exact k_160 hF) ?_
    refine r_lload_n dX9_push_20 rfl ?_
    refine r_lastore dX9_push_21 (by exact k_163 hF) (by rw [wk_top]; exact vin hlt (by omega)) ?_
    refine r_aload_n dX9_push_22 rfl ?_
    refine r_dup dX9_push_23 rfl ?_
    refine r_getI dX9_push_24 fgX9_27 rfl (by exact k_160 hF) ?_
    refine r_iconst (1) dX9_push_27 rfl ?_
    refine r_iadd dX9_push_28 ?_
    refine r_putI dX9_push_29 (fpX9_27 _ rfl) rfl (by exact k_160 hF) ⟨rfl, rfl⟩ ?_
    refine r_return dX9_push_32 rfl ?_
    first
      | (rw [psh, if_neg (fun q => nI_ge q (by omega) (by rw [← wk_top m σ]; exact h1))] at k; exact k)
      | (rw [psh, if_pos hlt] at k
         have e1 : ldI (stL (wkM m σ) 163 (ldI (wkM m σ) 160 3).toNatClampNeg v) 160 3 + 1 = nI (σ.2.1 + 1) := by rw [ldI_stL, wk_top, nI_1]
         rw [e1, wk_top, nI_cl _ (by omega)]
         have e2 : stI (stL (wkM m σ) 163 σ.2.1 v) 160 3 (nI (σ.2.1 + 1)) = wkM m (fun j => if j = σ.2.1 then v else σ.1 j, σ.2.1 + 1, σ.2.2) := wk_psh m σ v
         rw [e2]; exact k)
theorem S_X9_pop {g : GG} {m : MM} {Q : Out → Prop} (hF : Fx m) {σ : WS} (ht : σ.2.1 ≤ 64) (k : Q (.inl (some (.long (ppV σ))), wkM m (ppS σ))) : Cl g 0 0 0 mX9_pop [.ref 160] (wkM m σ) Q := by
  refine Cl.of rfl (by decide) (Nat.le_of_ble_eq_true rfl) ?_
  show Wp g mX9_pop 0 0 0 0 [.ref 160] [] (wkM m σ) Q
  refine r_aload_n dX9_pop_0 rfl ?_
  refine r_getI dX9_pop_1 fgX9_27 rfl (by exact k_160 hF) ?_
  refine r_if_le 19 dX9_pop_4 rfl (fun h1 => ?_) (fun h1 => ?_)
  ·
    refine r_lconst (0) dX9_pop_19 rfl ?_
    refine r_lreturn dX9_pop_20 rfl ?_
    first
      | exact absurd h2 (fun q => q (by rw [wk_top]; exact nI_le ht (by omega)))
      | (have h0 : σ.2.1 = 0 := Nat.le_zero.mp ((nI_leI (by omega) (by omega)).mp (by rw [← wk_top m σ, nI_0]; exact h1))
         have e2 : wkM m σ = wkM m (ppS σ) := by show _ = wkM m (σ.1, σ.2.1 - 1, σ.2.2); rw [h0]; show wkM m (σ.1, σ.2.1, σ.2.2) = _; rw [h0]
         rw [ppV, if_neg (by omega)] at k; rw [e2]; exact k)
  ·
    refine r_aload_n dX9_pop_7 rfl ?_
    refine r_getI dX9_pop_8 fgX9_27 rfl (by exact k_160 hF) ?_
    refine r_aload_n dX9_pop_11 rfl ?_
    refine r_getRc dX9_pop_12 fgX9_18 rfl (by exact k_160 hF) (by exact r_160_2 hF) ?_
    refine r_alen _ dX9_pop_15 ⟨Nat.le_of_ble_eq_true rfl, Nat.le_of_ble_eq_true rfl⟩ (by exact k_163 hF) rfl ?_
    refine r_icmp_le 21 dX9_pop_16 rfl (fun h2 => ?_) (fun h2 => ?_)
    ·
      have hpos : 0 < σ.2.1 := Nat.not_le.mp fun q => h1 (by rw [wk_top, Nat.le_zero.mp q]; decide)
      have e1 : ldI (wkM m σ) 160 3 - 1 = nI (σ.2.1 - 1) := by rw [wk_top]; obtain ⟨z, hz⟩ : ∃ z, σ.2.1 = z + 1 := ⟨σ.2.1 - 1, by omega⟩; rw [hz, nI_pred]; rfl
      refine r_aload_n dX9_pop_21 rfl ?_
      refine r_dup dX9_pop_22 rfl ?_
      refine r_getI dX9_pop_23 fgX9_27 rfl (by exact k_160 hF) ?_
      refine r_iconst (1) dX9_pop_26 rfl ?_
      refine r_isub dX9_pop_27 ?_
      refine r_putI dX9_pop_28 (fpX9_27 _ rfl) rfl (by exact k_160 hF) ⟨rfl, rfl⟩ ?_
      refine r_aload_n dX9_pop_31 rfl ?_
      refine r_getRc dX9_pop_32 fgX9_18 rfl (by exact k_160 hF) (by exact r_160_2 hF) ?_
      refine r_aload_n dX9_pop_35 rfl ?_
      refine r_getI dX9_pop_36 fgX9_27 rfl (by exact k_160 hF) ?_
      refine r_laload dX9_pop_39 (by exact k_163 hF) (by rw [ldI_stI, if_pos ⟨rfl, rfl⟩, e1]; exact vin (by omega) (by omega)) ?_
      refine r_lreturn dX9_pop_40 rfl ?_
      rw [ldI_stI, if_pos ⟨rfl, rfl⟩, e1, ldL_stI, wk_stk, nI_cl _ (by omega), wk_pop]
      rw [ppV, if_pos hpos] at k; exact k
    ·
      refine r_lconst (0) dX9_pop_19 rfl ?_
      refine r_lreturn dX9_pop_20 rfl ?_
      first
        | exact absurd h2 (fun q => q (by rw [wk_top]; exact nI_le ht (by omega)))
        | (have h0 : σ.2.1 = 0 := Nat.le_zero.mp ((nI_leI (by omega) (by omega)).mp (by rw [← wk_top m σ, nI_0]; exact h1))
           have e2 : wkM m σ = wkM m (ppS σ) := by show _ = wkM m (σ.1, σ.2.1 - 1, σ.2.2); rw [h0]; show wkM m (σ.1, σ.2.1, σ.2.2) = _; rw [h0]
           rw [ppV, if_neg (by omega)] at k; rw [e2]; exact k)
theorem S_X9_tell {g : GG} {m : MM} {Q : Out → Prop} (hF : Fx m) {σ : WS} (ht : σ.2.1 ≤ 64) {w h : Int32} {v : Int64} (k : Q (.inl none, wkM m (tlS w v h σ))) : Cl g 0 0 0 mX9_tell [.ref 160, .int w, .long v, .int h] (wkM m σ) Q := by
  refine Cl.of rfl (by decide) (Nat.le_of_ble_eq_true rfl) ?_
  show Wp g mX9_tell 0 0 0 0 [.ref 160, .int w, .long v, .retAddr 0, .int h] [] (wkM m σ) Q
  refine r_iload dX9_tell_0 rfl ?_
  refine r_if_eq 25 dX9_tell_2 rfl (fun h0 => ?_) (fun h0 => ?_)
  ·
    refine r_return dX9_tell_25 rfl ?_
    rw [tlS, if_neg (fun q => q.1 h0)] at k; exact k
  ·
    refine r_iload_n dX9_tell_5 rfl ?_
    refine r_if_lt 25 dX9_tell_6 rfl (fun h1 => ?_) (fun h1 => ?_)
    ·
      refine r_return dX9_tell_25 rfl ?_
      rw [tlS, if_neg (fun q => i32_nlt.mpr q.2.1 h1)] at k; exact k
    ·
      refine r_iload_n dX9_tell_9 rfl ?_
      refine r_aload_n dX9_tell_10 rfl ?_
      refine r_getRc dX9_tell_11 fgX9_15 rfl (by exact k_160 hF) (by exact r_160_1 hF) ?_
      refine r_alen _ dX9_tell_14 ⟨Nat.le_of_ble_eq_true rfl, Nat.le_of_ble_eq_true rfl⟩ (by exact k_162 hF) rfl ?_
      refine r_icmp_ge 25 dX9_tell_15 rfl (fun h2 => ?_) (fun h2 => ?_)
      ·
        refine r_return dX9_tell_25 rfl ?_
        rw [tlS, if_neg (fun q => i32_nle.mpr q.2.2 h2)] at k; exact k
      ·
        obtain ⟨j, rfl, hj⟩ := vin_of (n := 8) h1 h2 (by omega)
        refine r_aload_n dX9_tell_18 rfl ?_
        refine r_getRc dX9_tell_19 fgX9_15 rfl (by exact k_160 hF) (by exact r_160_1 hF) ?_
        refine r_iload_n dX9_tell_22 rfl ?_
        refine r_lload_n dX9_tell_23 rfl ?_
        refine r_lastore dX9_tell_24 (by exact k_162 hF) (vin hj (by omega)) ?_
        refine r_return dX9_tell_25 rfl ?_
        rw [tlS, if_pos ⟨h0, i32_nlt.mp h1, i32_nle.mp h2⟩] at k; rw [nI_cl j (by omega)] at k ⊢; rw [wk_tl]; exact k
def nmA (m : MM) (x : Int32) : Int64 := if 0 ≤ x ∧ x < 10 then ldL m 161 x.toNatClampNeg else 0
def capT (w : Int32) (x : Int64) : Int64 := if x < 0 then 0 else if (if w = 4 ∨ w = 3 ∨ w = 7 then (10000 : Int64) else 1000000000) < x then (if w = 4 ∨ w = 3 ∨ w = 7 then 10000 else 1000000000) else x
theorem S_X9_nameAt {g : GG} {m : MM} {Q : Out → Prop} (hF : Fx m) {x : Int32} (k : Q (.inl (some (.long (nmA m x))), m)) : Cl g 0 0 0 mX9_nameAt [.ref 160, .int x] m Q := by
  refine Cl.of rfl (by decide) (Nat.le_of_ble_eq_true rfl) ?_
  show Wp g mX9_nameAt 0 0 0 0 [.ref 160, .int x] [] m Q
  refine r_iload_n dX9_nameAt_0 rfl ?_
  refine r_if_lt 22 dX9_nameAt_1 rfl (fun h1 => ?_) (fun h1 => ?_)
  ·
    refine r_lconst (0) dX9_nameAt_22 rfl ?_
    refine r_lreturn dX9_nameAt_23 rfl ?_
    first | (rw [nmA, if_neg (fun q => i32_nlt.mpr q.1 h1)] at k; exact k) | (rw [nmA, if_neg (fun q => i32_nle.mpr q.2 h2)] at k; exact k) | (rw [nmA, if_pos ⟨i32_nlt.mp h1, i32_nle.mp h2⟩] at k; exact k)
  ·
    refine r_iload_n dX9_nameAt_4 rfl ?_
    refine r_aload_n dX9_nameAt_5 rfl ?_
    refine r_getRc dX9_nameAt_6 fgX9_9 rfl (by exact k_160 hF) (by exact r_160_0 hF) ?_
    refine r_alen _ dX9_nameAt_9 ⟨Nat.le_of_ble_eq_true rfl, Nat.le_of_ble_eq_true rfl⟩ (by exact k_161 hF) rfl ?_
    refine r_icmp_ge 22 dX9_nameAt_10 rfl (fun h2 => ?_) (fun h2 => ?_)
    ·
      refine r_lconst (0) dX9_nameAt_22 rfl ?_
      refine r_lreturn dX9_nameAt_23 rfl ?_
      first | (rw [nmA, if_neg (fun q => i32_nlt.mpr q.1 h1)] at k; exact k) | (rw [nmA, if_neg (fun q => i32_nle.mpr q.2 h2)] at k; exact k) | (rw [nmA, if_pos ⟨i32_nlt.mp h1, i32_nle.mp h2⟩] at k; exact k)
    ·
      obtain ⟨j, rfl, hj⟩ := vin_of (n := 10) h1 h2 (by omega)
      refine r_aload_n dX9_nameAt_13 rfl ?_
      refine r_getRc dX9_nameAt_14 fgX9_9 rfl (by exact k_160 hF) (by exact r_160_0 hF) ?_
      refine r_iload_n dX9_nameAt_17 rfl ?_
      refine r_laload dX9_nameAt_18 (by exact k_161 hF) (vin hj (by omega)) ?_
      refine r_goto 23 dX9_nameAt_19 rfl ?_
      refine r_lreturn dX9_nameAt_23 rfl ?_
      first | (rw [nmA, if_neg (fun q => i32_nlt.mpr q.1 h1)] at k; exact k) | (rw [nmA, if_neg (fun q => i32_nle.mpr q.2 h2)] at k; exact k) | (rw [nmA, if_pos ⟨i32_nlt.mp h1, i32_nle.mp h2⟩] at k; exact k)
theorem S_X9_giveName {g : GG} {m : MM} {Q : Out → Prop} (hF : Fx m) {j : Nat} (hj : j < 10) {v : Int64} (k : Q (.inl none, stL m 161 j v)) : Cl g 0 0 0 mX9_giveName [.ref 160, .int (nI j), .long v] m Q := by
  refine Cl.of rfl (by decide) (Nat.le_of_ble_eq_true rfl) ?_
  show Wp g mX9_giveName 0 0 0 0 [.ref 160, .int (nI j), .long v, .retAddr 0] [] m Q
  refine r_iload_n dX9_giveName_0 rfl ?_
  refine r_if_lt 20 dX9_giveName_1 rfl (fun h1 => ?_) (fun h1 => ?_)
  ·
    first | exact absurd h1 (nI_pos (by omega)) | exact absurd h2 (nI_ge hj (by omega))
  ·
    refine r_iload_n dX9_giveName_4 rfl ?_
    refine r_aload_n dX9_giveName_5 rfl ?_
    refine r_getRc dX9_giveName_6 fgX9_9 rfl (by exact k_160 hF) (by exact r_160_0 hF) ?_
    refine r_alen _ dX9_giveName_9 ⟨Nat.le_of_ble_eq_true rfl, Nat.le_of_ble_eq_true rfl⟩ (by exact k_161 hF) rfl ?_
    refine r_icmp_ge 20 dX9_giveName_10 rfl (fun h2 => ?_) (fun h2 => ?_)
    ·
      first | exact absurd h1 (nI_pos (by omega)) | exact absurd h2 (nI_ge hj (by omega))
    ·
      refine r_aload_n dX9_giveName_13 rfl ?_
      refine r_getRc dX9_giveName_14 fgX9_9 rfl (by exact k_160 hF) (by exact r_160_0 hF) ?_
      refine r_iload_n dX9_giveName_17 rfl ?_
      refine r_lload_n dX9_giveName_18 rfl ?_
      refine r_lastore dX9_giveName_19 (by exact k_161 hF) (vin hj (by omega)) ?_
      refine r_return dX9_giveName_20 rfl ?_
      rw [nI_cl j (by omega)]; exact k
theorem S_told0 {g : GG} {m : MM} {Q : Out → Prop} (hF : Fx m) (k : Q (.inl (some (.long (capT 0 (ldL m 162 0)))), m)) : Cl g 1 0 0 mX9_toldOf [.ref 160, .int 0] m Q := by
  refine Cl.of rfl (by decide) (Nat.le_of_ble_eq_true rfl) ?_
  show Wp g mX9_toldOf 1 0 0 0 [.ref 160, .int 0, .retAddr 0] [] m Q
  refine r_iload_n dX9_toldOf_0 rfl ?_
  refine r_if_lt 24 dX9_toldOf_1 rfl (fun hz => absurd hz (by decide)) (fun _ => ?_)
  refine r_iload_n dX9_toldOf_4 rfl ?_
  refine r_aload_n dX9_toldOf_5 rfl ?_
  refine r_getRc dX9_toldOf_6 fgX9_15 rfl (by exact k_160 hF) (by exact r_160_1 hF) ?_
  refine r_alen _ dX9_toldOf_9 ⟨Nat.le_of_ble_eq_true rfl, Nat.le_of_ble_eq_true rfl⟩ (by exact k_162 hF) rfl ?_
  refine r_icmp_ge 24 dX9_toldOf_10 rfl (fun hz => absurd hz (by decide)) (fun _ => ?_)
  refine r_aload_n dX9_toldOf_13 rfl ?_
  refine r_getRc dX9_toldOf_14 fgX9_15 rfl (by exact k_160 hF) (by exact r_160_1 hF) ?_
  refine r_iload_n dX9_toldOf_17 rfl ?_
  refine r_laloadn (0) rfl dX9_toldOf_18 (by exact k_162 hF) (vin (j := 0) (by omega) (by omega)) ?_
  refine r_lconst (0) dX9_toldOf_19 rfl ?_
  refine r_lcmp_ge 26 dX9_toldOf_20 dX9_toldOf_21 rfl (fun h1 => ?_) (fun h1 => ?_)
  ·
    refine r_iload_n dX9_toldOf_26 rfl ?_
    refine r_iconst (4) dX9_toldOf_27 rfl ?_
    refine r_icmp_eq 42 dX9_toldOf_28 rfl (fun hz => absurd hz (by decide)) (fun _ => ?_)
    refine r_iload_n dX9_toldOf_31 rfl ?_
    refine r_iconst (3) dX9_toldOf_32 rfl ?_
    refine r_icmp_eq 42 dX9_toldOf_33 rfl (fun hz => absurd hz (by decide)) (fun _ => ?_)
    refine r_iload_n dX9_toldOf_36 rfl ?_
    refine r_bipush (7) dX9_toldOf_37 rfl ?_
    refine r_icmp_ne 46 dX9_toldOf_39 rfl (fun _ => ?_) (fun hz => absurd hz (by decide))
    refine r_iconst (0) dX9_toldOf_46 rfl ?_
    refine si_2 dX9_toldOf_47 rfl (Nat.le_of_ble_eq_true rfl) ?_
    refine r_aload_n dX9_toldOf_48 rfl ?_
    refine r_getRc dX9_toldOf_49 fgX9_15 rfl (by exact k_160 hF) (by exact r_160_1 hF) ?_
    refine r_iload_n dX9_toldOf_52 rfl ?_
    refine r_laloadn (0) rfl dX9_toldOf_53 (by exact k_162 hF) (vin (j := 0) (by omega) (by omega)) ?_
    refine r_iload_n dX9_toldOf_54 rfl ?_
    refine r_if_eq 64 dX9_toldOf_55 rfl (fun _ => ?_) (fun hz => absurd hz (by decide))
    refine r_ldc2 (1000000000) dX9_toldOf_64 ctX9_63 ?_
    refine r_mminL dX9_toldOf_67 msX9_65 (Nat.le_of_ble_eq_true rfl) (by exact Nat.le_of_ble_eq_true rfl) ?_
    refine r_lreturn dX9_toldOf_70 rfl ?_
    rw [capT, if_neg (i64_nlt.mpr h1), if_neg (show ¬ ((0 : Int32) = 4 ∨ (0 : Int32) = 3 ∨ (0 : Int32) = 7) by decide)] at k; exact k
  ·
    refine r_lconst (0) dX9_toldOf_24 rfl ?_
    refine r_lreturn dX9_toldOf_25 rfl ?_
    rw [capT, if_pos (i64_nle.mp h1)] at k; exact k
theorem S_told1 {g : GG} {m : MM} {Q : Out → Prop} (hF : Fx m) (k : Q (.inl (some (.long (capT 1 (ldL m 162 1)))), m)) : Cl g 1 0 0 mX9_toldOf [.ref 160, .int 1] m Q := by
  refine Cl.of rfl (by decide) (Nat.le_of_ble_eq_true rfl) ?_
  show Wp g mX9_toldOf 1 0 0 0 [.ref 160, .int 1, .retAddr 0] [] m Q
  refine r_iload_n dX9_toldOf_0 rfl ?_
  refine r_if_lt 24 dX9_toldOf_1 rfl (fun hz => absurd hz (by decide)) (fun _ => ?_)
  refine r_iload_n dX9_toldOf_4 rfl ?_
  refine r_aload_n dX9_toldOf_5 rfl ?_
  refine r_getRc dX9_toldOf_6 fgX9_15 rfl (by exact k_160 hF) (by exact r_160_1 hF) ?_
  refine r_alen _ dX9_toldOf_9 ⟨Nat.le_of_ble_eq_true rfl, Nat.le_of_ble_eq_true rfl⟩ (by exact k_162 hF) rfl ?_
  refine r_icmp_ge 24 dX9_toldOf_10 rfl (fun hz => absurd hz (by decide)) (fun _ => ?_)
  refine r_aload_n dX9_toldOf_13 rfl ?_
  refine r_getRc dX9_toldOf_14 fgX9_15 rfl (by exact k_160 hF) (by exact r_160_1 hF) ?_
  refine r_iload_n dX9_toldOf_17 rfl ?_
  refine r_laloadn (1) rfl dX9_toldOf_18 (by exact k_162 hF) (vin (j := 1) (by omega) (by omega)) ?_
  refine r_lconst (0) dX9_toldOf_19 rfl ?_
  refine r_lcmp_ge 26 dX9_toldOf_20 dX9_toldOf_21 rfl (fun h1 => ?_) (fun h1 => ?_)
  ·
    refine r_iload_n dX9_toldOf_26 rfl ?_
    refine r_iconst (4) dX9_toldOf_27 rfl ?_
    refine r_icmp_eq 42 dX9_toldOf_28 rfl (fun hz => absurd hz (by decide)) (fun _ => ?_)
    refine r_iload_n dX9_toldOf_31 rfl ?_
    refine r_iconst (3) dX9_toldOf_32 rfl ?_
    refine r_icmp_eq 42 dX9_toldOf_33 rfl (fun hz => absurd hz (by decide)) (fun _ => ?_)
    refine r_iload_n dX9_toldOf_36 rfl ?_
    refine r_bipush (7) dX9_toldOf_37 rfl ?_
    refine r_icmp_ne 46 dX9_toldOf_39 rfl (fun _ => ?_) (fun hz => absurd hz (by decide))
    refine r_iconst (0) dX9_toldOf_46 rfl ?_
    refine si_2 dX9_toldOf_47 rfl (Nat.le_of_ble_eq_true rfl) ?_
    refine r_aload_n dX9_toldOf_48 rfl ?_
    refine r_getRc dX9_toldOf_49 fgX9_15 rfl (by exact k_160 hF) (by exact r_160_1 hF) ?_
    refine r_iload_n dX9_toldOf_52 rfl ?_
    refine r_laloadn (1) rfl dX9_toldOf_53 (by exact k_162 hF) (vin (j := 1) (by omega) (by omega)) ?_
    refine r_iload_n dX9_toldOf_54 rfl ?_
    refine r_if_eq 64 dX9_toldOf_55 rfl (fun _ => ?_) (fun hz => absurd hz (by decide))
    refine r_ldc2 (1000000000) dX9_toldOf_64 ctX9_63 ?_
    refine r_mminL dX9_toldOf_67 msX9_65 (Nat.le_of_ble_eq_true rfl) (by exact Nat.le_of_ble_eq_true rfl) ?_
    refine r_lreturn dX9_toldOf_70 rfl ?_
    rw [capT, if_neg (i64_nlt.mpr h1), if_neg (show ¬ ((1 : Int32) = 4 ∨ (1 : Int32) = 3 ∨ (1 : Int32) = 7) by decide)] at k; exact k
  ·
    refine r_lconst (0) dX9_toldOf_24 rfl ?_
    refine r_lreturn dX9_toldOf_25 rfl ?_
    rw [capT, if_pos (i64_nle.mp h1)] at k; exact k
theorem S_told2 {g : GG} {m : MM} {Q : Out → Prop} (hF : Fx m) (k : Q (.inl (some (.long (capT 2 (ldL m 162 2)))), m)) : Cl g 1 0 0 mX9_toldOf [.ref 160, .int 2] m Q := by
  refine Cl.of rfl (by decide) (Nat.le_of_ble_eq_true rfl) ?_
  show Wp g mX9_toldOf 1 0 0 0 [.ref 160, .int 2, .retAddr 0] [] m Q
  refine r_iload_n dX9_toldOf_0 rfl ?_
  refine r_if_lt 24 dX9_toldOf_1 rfl (fun hz => absurd hz (by decide)) (fun _ => ?_)
  refine r_iload_n dX9_toldOf_4 rfl ?_
  refine r_aload_n dX9_toldOf_5 rfl ?_
  refine r_getRc dX9_toldOf_6 fgX9_15 rfl (by exact k_160 hF) (by exact r_160_1 hF) ?_
  refine r_alen _ dX9_toldOf_9 ⟨Nat.le_of_ble_eq_true rfl, Nat.le_of_ble_eq_true rfl⟩ (by exact k_162 hF) rfl ?_
  refine r_icmp_ge 24 dX9_toldOf_10 rfl (fun hz => absurd hz (by decide)) (fun _ => ?_)
  refine r_aload_n dX9_toldOf_13 rfl ?_
  refine r_getRc dX9_toldOf_14 fgX9_15 rfl (by exact k_160 hF) (by exact r_160_1 hF) ?_
  refine r_iload_n dX9_toldOf_17 rfl ?_
  refine r_laloadn (2) rfl dX9_toldOf_18 (by exact k_162 hF) (vin (j := 2) (by omega) (by omega)) ?_
  refine r_lconst (0) dX9_toldOf_19 rfl ?_
  refine r_lcmp_ge 26 dX9_toldOf_20 dX9_toldOf_21 rfl (fun h1 => ?_) (fun h1 => ?_)
  ·
    refine r_iload_n dX9_toldOf_26 rfl ?_
    refine r_iconst (4) dX9_toldOf_27 rfl ?_
    refine r_icmp_eq 42 dX9_toldOf_28 rfl (fun hz => absurd hz (by decide)) (fun _ => ?_)
    refine r_iload_n dX9_toldOf_31 rfl ?_
    refine r_iconst (3) dX9_toldOf_32 rfl ?_
    refine r_icmp_eq 42 dX9_toldOf_33 rfl (fun hz => absurd hz (by decide)) (fun _ => ?_)
    refine r_iload_n dX9_toldOf_36 rfl ?_
    refine r_bipush (7) dX9_toldOf_37 rfl ?_
    refine r_icmp_ne 46 dX9_toldOf_39 rfl (fun _ => ?_) (fun hz => absurd hz (by decide))
    refine r_iconst (0) dX9_toldOf_46 rfl ?_
    refine si_2 dX9_toldOf_47 rfl (Nat.le_of_ble_eq_true rfl) ?_
    refine r_aload_n dX9_toldOf_48 rfl ?_
    refine r_getRc dX9_toldOf_49 fgX9_15 rfl (by exact k_160 hF) (by exact r_160_1 hF) ?_
    refine r_iload_n dX9_toldOf_52 rfl ?_
    refine r_laloadn (2) rfl dX9_toldOf_53 (by exact k_162 hF) (vin (j := 2) (by omega) (by omega)) ?_
    refine r_iload_n dX9_toldOf_54 rfl ?_
    refine r_if_eq 64 dX9_toldOf_55 rfl (fun _ => ?_) (fun hz => absurd hz (by decide))
    refine r_ldc2 (1000000000) dX9_toldOf_64 ctX9_63 ?_
    refine r_mminL dX9_toldOf_67 msX9_65 (Nat.le_of_ble_eq_true rfl) (by exact Nat.le_of_ble_eq_true rfl) ?_
    refine r_lreturn dX9_toldOf_70 rfl ?_
    rw [capT, if_neg (i64_nlt.mpr h1), if_neg (show ¬ ((2 : Int32) = 4 ∨ (2 : Int32) = 3 ∨ (2 : Int32) = 7) by decide)] at k; exact k
  ·
    refine r_lconst (0) dX9_toldOf_24 rfl ?_
    refine r_lreturn dX9_toldOf_25 rfl ?_
    rw [capT, if_pos (i64_nle.mp h1)] at k; exact k
theorem S_told3 {g : GG} {m : MM} {Q : Out → Prop} (hF : Fx m) (k : Q (.inl (some (.long (capT 3 (ldL m 162 3)))), m)) : Cl g 1 0 0 mX9_toldOf [.ref 160, .int 3] m Q := by
  refine Cl.of rfl (by decide) (Nat.le_of_ble_eq_true rfl) ?_
  show Wp g mX9_toldOf 1 0 0 0 [.ref 160, .int 3, .retAddr 0] [] m Q
  refine r_iload_n dX9_toldOf_0 rfl ?_
  refine r_if_lt 24 dX9_toldOf_1 rfl (fun hz => absurd hz (by decide)) (fun _ => ?_)
  refine r_iload_n dX9_toldOf_4 rfl ?_
  refine r_aload_n dX9_toldOf_5 rfl ?_
  refine r_getRc dX9_toldOf_6 fgX9_15 rfl (by exact k_160 hF) (by exact r_160_1 hF) ?_
  refine r_alen _ dX9_toldOf_9 ⟨Nat.le_of_ble_eq_true rfl, Nat.le_of_ble_eq_true rfl⟩ (by exact k_162 hF) rfl ?_
  refine r_icmp_ge 24 dX9_toldOf_10 rfl (fun hz => absurd hz (by decide)) (fun _ => ?_)
  refine r_aload_n dX9_toldOf_13 rfl ?_
  refine r_getRc dX9_toldOf_14 fgX9_15 rfl (by exact k_160 hF) (by exact r_160_1 hF) ?_
  refine r_iload_n dX9_toldOf_17 rfl ?_
  refine r_laloadn (3) rfl dX9_toldOf_18 (by exact k_162 hF) (vin (j := 3) (by omega) (by omega)) ?_
  refine r_lconst (0) dX9_toldOf_19 rfl ?_
  refine r_lcmp_ge 26 dX9_toldOf_20 dX9_toldOf_21 rfl (fun h1 => ?_) (fun h1 => ?_)
  ·
    refine r_iload_n dX9_toldOf_26 rfl ?_
    refine r_iconst (4) dX9_toldOf_27 rfl ?_
    refine r_icmp_eq 42 dX9_toldOf_28 rfl (fun hz => absurd hz (by decide)) (fun _ => ?_)
    refine r_iload_n dX9_toldOf_31 rfl ?_
    refine r_iconst (3) dX9_toldOf_32 rfl ?_
    refine r_icmp_eq 42 dX9_toldOf_33 rfl (fun _ => ?_) (fun hz => absurd hz (by decide))
    refine r_iconst (1) dX9_toldOf_42 rfl ?_
    refine r_goto 47 dX9_toldOf_43 rfl ?_
    refine si_2 dX9_toldOf_47 rfl (Nat.le_of_ble_eq_true rfl) ?_
    refine r_aload_n dX9_toldOf_48 rfl ?_
    refine r_getRc dX9_toldOf_49 fgX9_15 rfl (by exact k_160 hF) (by exact r_160_1 hF) ?_
    refine r_iload_n dX9_toldOf_52 rfl ?_
    refine r_laloadn (3) rfl dX9_toldOf_53 (by exact k_162 hF) (vin (j := 3) (by omega) (by omega)) ?_
    refine r_iload_n dX9_toldOf_54 rfl ?_
    refine r_if_eq 64 dX9_toldOf_55 rfl (fun hz => absurd hz (by decide)) (fun _ => ?_)
    refine r_ldc2 (10000) dX9_toldOf_58 ctX9_61 ?_
    refine r_goto 67 dX9_toldOf_61 rfl ?_
    refine r_mminL dX9_toldOf_67 msX9_65 (Nat.le_of_ble_eq_true rfl) (by exact Nat.le_of_ble_eq_true rfl) ?_
    refine r_lreturn dX9_toldOf_70 rfl ?_
    rw [capT, if_neg (i64_nlt.mpr h1), if_pos (show ((3 : Int32) = 4 ∨ (3 : Int32) = 3 ∨ (3 : Int32) = 7) by decide)] at k; exact k
  ·
    refine r_lconst (0) dX9_toldOf_24 rfl ?_
    refine r_lreturn dX9_toldOf_25 rfl ?_
    rw [capT, if_pos (i64_nle.mp h1)] at k; exact k
theorem S_told4 {g : GG} {m : MM} {Q : Out → Prop} (hF : Fx m) (k : Q (.inl (some (.long (capT 4 (ldL m 162 4)))), m)) : Cl g 1 0 0 mX9_toldOf [.ref 160, .int 4] m Q := by
  refine Cl.of rfl (by decide) (Nat.le_of_ble_eq_true rfl) ?_
  show Wp g mX9_toldOf 1 0 0 0 [.ref 160, .int 4, .retAddr 0] [] m Q
  refine r_iload_n dX9_toldOf_0 rfl ?_
  refine r_if_lt 24 dX9_toldOf_1 rfl (fun hz => absurd hz (by decide)) (fun _ => ?_)
  refine r_iload_n dX9_toldOf_4 rfl ?_
  refine r_aload_n dX9_toldOf_5 rfl ?_
  refine r_getRc dX9_toldOf_6 fgX9_15 rfl (by exact k_160 hF) (by exact r_160_1 hF) ?_
  refine r_alen _ dX9_toldOf_9 ⟨Nat.le_of_ble_eq_true rfl, Nat.le_of_ble_eq_true rfl⟩ (by exact k_162 hF) rfl ?_
  refine r_icmp_ge 24 dX9_toldOf_10 rfl (fun hz => absurd hz (by decide)) (fun _ => ?_)
  refine r_aload_n dX9_toldOf_13 rfl ?_
  refine r_getRc dX9_toldOf_14 fgX9_15 rfl (by exact k_160 hF) (by exact r_160_1 hF) ?_
  refine r_iload_n dX9_toldOf_17 rfl ?_
  refine r_laloadn (4) rfl dX9_toldOf_18 (by exact k_162 hF) (vin (j := 4) (by omega) (by omega)) ?_
  refine r_lconst (0) dX9_toldOf_19 rfl ?_
  refine r_lcmp_ge 26 dX9_toldOf_20 dX9_toldOf_21 rfl (fun h1 => ?_) (fun h1 => ?_)
  ·
    refine r_iload_n dX9_toldOf_26 rfl ?_
    refine r_iconst (4) dX9_toldOf_27 rfl ?_
    refine r_icmp_eq 42 dX9_toldOf_28 rfl (fun _ => ?_) (fun hz => absurd hz (by decide))
    refine r_iconst (1) dX9_toldOf_42 rfl ?_
    refine r_goto 47 dX9_toldOf_43 rfl ?_
    refine si_2 dX9_toldOf_47 rfl (Nat.le_of_ble_eq_true rfl) ?_
    refine r_aload_n dX9_toldOf_48 rfl ?_
    refine r_getRc dX9_toldOf_49 fgX9_15 rfl (by exact k_160 hF) (by exact r_160_1 hF) ?_
    refine r_iload_n dX9_toldOf_52 rfl ?_
    refine r_laloadn (4) rfl dX9_toldOf_53 (by exact k_162 hF) (vin (j := 4) (by omega) (by omega)) ?_
    refine r_iload_n dX9_toldOf_54 rfl ?_
    refine r_if_eq 64 dX9_toldOf_55 rfl (fun hz => absurd hz (by decide)) (fun _ => ?_)
    refine r_ldc2 (10000) dX9_toldOf_58 ctX9_61 ?_
    refine r_goto 67 dX9_toldOf_61 rfl ?_
    refine r_mminL dX9_toldOf_67 msX9_65 (Nat.le_of_ble_eq_true rfl) (by exact Nat.le_of_ble_eq_true rfl) ?_
    refine r_lreturn dX9_toldOf_70 rfl ?_
    rw [capT, if_neg (i64_nlt.mpr h1), if_pos (show ((4 : Int32) = 4 ∨ (4 : Int32) = 3 ∨ (4 : Int32) = 7) by decide)] at k; exact k
  ·
    refine r_lconst (0) dX9_toldOf_24 rfl ?_
    refine r_lreturn dX9_toldOf_25 rfl ?_
    rw [capT, if_pos (i64_nle.mp h1)] at k; exact k
theorem S_told5 {g : GG} {m : MM} {Q : Out → Prop} (hF : Fx m) (k : Q (.inl (some (.long (capT 5 (ldL m 162 5)))), m)) : Cl g 1 0 0 mX9_toldOf [.ref 160, .int 5] m Q := by
  refine Cl.of rfl (by decide) (Nat.le_of_ble_eq_true rfl) ?_
  show Wp g mX9_toldOf 1 0 0 0 [.ref 160, .int 5, .retAddr 0] [] m Q
  refine r_iload_n dX9_toldOf_0 rfl ?_
  refine r_if_lt 24 dX9_toldOf_1 rfl (fun hz => absurd hz (by decide)) (fun _ => ?_)
  refine r_iload_n dX9_toldOf_4 rfl ?_
  refine r_aload_n dX9_toldOf_5 rfl ?_
  refine r_getRc dX9_toldOf_6 fgX9_15 rfl (by exact k_160 hF) (by exact r_160_1 hF) ?_
  refine r_alen _ dX9_toldOf_9 ⟨Nat.le_of_ble_eq_true rfl, Nat.le_of_ble_eq_true rfl⟩ (by exact k_162 hF) rfl ?_
  refine r_icmp_ge 24 dX9_toldOf_10 rfl (fun hz => absurd hz (by decide)) (fun _ => ?_)
  refine r_aload_n dX9_toldOf_13 rfl ?_
  refine r_getRc dX9_toldOf_14 fgX9_15 rfl (by exact k_160 hF) (by exact r_160_1 hF) ?_
  refine r_iload_n dX9_toldOf_17 rfl ?_
  refine r_laloadn (5) rfl dX9_toldOf_18 (by exact k_162 hF) (vin (j := 5) (by omega) (by omega)) ?_
  refine r_lconst (0) dX9_toldOf_19 rfl ?_
  refine r_lcmp_ge 26 dX9_toldOf_20 dX9_toldOf_21 rfl (fun h1 => ?_) (fun h1 => ?_)
  ·
    refine r_iload_n dX9_toldOf_26 rfl ?_
    refine r_iconst (4) dX9_toldOf_27 rfl ?_
    refine r_icmp_eq 42 dX9_toldOf_28 rfl (fun hz => absurd hz (by decide)) (fun _ => ?_)
    refine r_iload_n dX9_toldOf_31 rfl ?_
    refine r_iconst (3) dX9_toldOf_32 rfl ?_
    refine r_icmp_eq 42 dX9_toldOf_33 rfl (fun hz => absurd hz (by decide)) (fun _ => ?_)
    refine r_iload_n dX9_toldOf_36 rfl ?_
    refine r_bipush (7) dX9_toldOf_37 rfl ?_
    refine r_icmp_ne 46 dX9_toldOf_39 rfl (fun _ => ?_) (fun hz => absurd hz (by decide))
    refine r_iconst (0) dX9_toldOf_46 rfl ?_
    refine si_2 dX9_toldOf_47 rfl (Nat.le_of_ble_eq_true rfl) ?_
    refine r_aload_n dX9_toldOf_48 rfl ?_
    refine r_getRc dX9_toldOf_49 fgX9_15 rfl (by exact k_160 hF) (by exact r_160_1 hF) ?_
    refine r_iload_n dX9_toldOf_52 rfl ?_
    refine r_laloadn (5) rfl dX9_toldOf_53 (by exact k_162 hF) (vin (j := 5) (by omega) (by omega)) ?_
    refine r_iload_n dX9_toldOf_54 rfl ?_
    refine r_if_eq 64 dX9_toldOf_55 rfl (fun _ => ?_) (fun hz => absurd hz (by decide))
    refine r_ldc2 (1000000000) dX9_toldOf_64 ctX9_63 ?_
    refine r_mminL dX9_toldOf_67 msX9_65 (Nat.le_of_ble_eq_true rfl) (by exact Nat.le_of_ble_eq_true rfl) ?_
    refine r_lreturn dX9_toldOf_70 rfl ?_
    rw [capT, if_neg (i64_nlt.mpr h1), if_neg (show ¬ ((5 : Int32) = 4 ∨ (5 : Int32) = 3 ∨ (5 : Int32) = 7) by decide)] at k; exact k
  ·
    refine r_lconst (0) dX9_toldOf_24 rfl ?_
    refine r_lreturn dX9_toldOf_25 rfl ?_
    rw [capT, if_pos (i64_nle.mp h1)] at k; exact k
theorem S_told6 {g : GG} {m : MM} {Q : Out → Prop} (hF : Fx m) (k : Q (.inl (some (.long (capT 6 (ldL m 162 6)))), m)) : Cl g 1 0 0 mX9_toldOf [.ref 160, .int 6] m Q := by
  refine Cl.of rfl (by decide) (Nat.le_of_ble_eq_true rfl) ?_
  show Wp g mX9_toldOf 1 0 0 0 [.ref 160, .int 6, .retAddr 0] [] m Q
  refine r_iload_n dX9_toldOf_0 rfl ?_
  refine r_if_lt 24 dX9_toldOf_1 rfl (fun hz => absurd hz (by decide)) (fun _ => ?_)
  refine r_iload_n dX9_toldOf_4 rfl ?_
  refine r_aload_n dX9_toldOf_5 rfl ?_
  refine r_getRc dX9_toldOf_6 fgX9_15 rfl (by exact k_160 hF) (by exact r_160_1 hF) ?_
  refine r_alen _ dX9_toldOf_9 ⟨Nat.le_of_ble_eq_true rfl, Nat.le_of_ble_eq_true rfl⟩ (by exact k_162 hF) rfl ?_
  refine r_icmp_ge 24 dX9_toldOf_10 rfl (fun hz => absurd hz (by decide)) (fun _ => ?_)
  refine r_aload_n dX9_toldOf_13 rfl ?_
  refine r_getRc dX9_toldOf_14 fgX9_15 rfl (by exact k_160 hF) (by exact r_160_1 hF) ?_
  refine r_iload_n dX9_toldOf_17 rfl ?_
  refine r_laloadn (6) rfl dX9_toldOf_18 (by exact k_162 hF) (vin (j := 6) (by omega) (by omega)) ?_
  refine r_lconst (0) dX9_toldOf_19 rfl ?_
  refine r_lcmp_ge 26 dX9_toldOf_20 dX9_toldOf_21 rfl (fun h1 => ?_) (fun h1 => ?_)
  ·
    refine r_iload_n dX9_toldOf_26 rfl ?_
    refine r_iconst (4) dX9_toldOf_27 rfl ?_
    refine r_icmp_eq 42 dX9_toldOf_28 rfl (fun hz => absurd hz (by decide)) (fun _ => ?_)
    refine r_iload_n dX9_toldOf_31 rfl ?_
    refine r_iconst (3) dX9_toldOf_32 rfl ?_
    refine r_icmp_eq 42 dX9_toldOf_33 rfl (fun hz => absurd hz (by decide)) (fun _ => ?_)
    refine r_iload_n dX9_toldOf_36 rfl ?_
    refine r_bipush (7) dX9_toldOf_37 rfl ?_
    refine r_icmp_ne 46 dX9_toldOf_39 rfl (fun _ => ?_) (fun hz => absurd hz (by decide))
    refine r_iconst (0) dX9_toldOf_46 rfl ?_
    refine si_2 dX9_toldOf_47 rfl (Nat.le_of_ble_eq_true rfl) ?_
    refine r_aload_n dX9_toldOf_48 rfl ?_
    refine r_getRc dX9_toldOf_49 fgX9_15 rfl (by exact k_160 hF) (by exact r_160_1 hF) ?_
    refine r_iload_n dX9_toldOf_52 rfl ?_
    refine r_laloadn (6) rfl dX9_toldOf_53 (by exact k_162 hF) (vin (j := 6) (by omega) (by omega)) ?_
    refine r_iload_n dX9_toldOf_54 rfl ?_
    refine r_if_eq 64 dX9_toldOf_55 rfl (fun _ => ?_) (fun hz => absurd hz (by decide))
    refine r_ldc2 (1000000000) dX9_toldOf_64 ctX9_63 ?_
    refine r_mminL dX9_toldOf_67 msX9_65 (Nat.le_of_ble_eq_true rfl) (by exact Nat.le_of_ble_eq_true rfl) ?_
    refine r_lreturn dX9_toldOf_70 rfl ?_
    rw [capT, if_neg (i64_nlt.mpr h1), if_neg (show ¬ ((6 : Int32) = 4 ∨ (6 : Int32) = 3 ∨ (6 : Int32) = 7) by decide)] at k; exact k
  ·
    refine r_lconst (0) dX9_toldOf_24 rfl ?_
    refine r_lreturn dX9_toldOf_25 rfl ?_
    rw [capT, if_pos (i64_nle.mp h1)] at k; exact k
theorem S_told7 {g : GG} {m : MM} {Q : Out → Prop} (hF : Fx m) (k : Q (.inl (some (.long (capT 7 (ldL m 162 7)))), m)) : Cl g 1 0 0 mX9_toldOf [.ref 160, .int 7] m Q := by
  refine Cl.of rfl (by decide) (Nat.le_of_ble_eq_true rfl) ?_
  show Wp g mX9_toldOf 1 0 0 0 [.ref 160, .int 7, .retAddr 0] [] m Q
  refine r_iload_n dX9_toldOf_0 rfl ?_
  refine r_if_lt 24 dX9_toldOf_1 rfl (fun hz => absurd hz (by decide)) (fun _ => ?_)
  refine r_iload_n dX9_toldOf_4 rfl ?_
  refine r_aload_n dX9_toldOf_5 rfl ?_
  refine r_getRc dX9_toldOf_6 fgX9_15 rfl (by exact k_160 hF) (by exact r_160_1 hF) ?_
  refine r_alen _ dX9_toldOf_9 ⟨Nat.le_of_ble_eq_true rfl, Nat.le_of_ble_eq_true rfl⟩ (by exact k_162 hF) rfl ?_
  refine r_icmp_ge 24 dX9_toldOf_10 rfl (fun hz => absurd hz (by decide)) (fun _ => ?_)
  refine r_aload_n dX9_toldOf_13 rfl ?_
  refine r_getRc dX9_toldOf_14 fgX9_15 rfl (by exact k_160 hF) (by exact r_160_1 hF) ?_
  refine r_iload_n dX9_toldOf_17 rfl ?_
  refine r_laloadn (7) rfl dX9_toldOf_18 (by exact k_162 hF) (vin (j := 7) (by omega) (by omega)) ?_
  refine r_lconst (0) dX9_toldOf_19 rfl ?_
  refine r_lcmp_ge 26 dX9_toldOf_20 dX9_toldOf_21 rfl (fun h1 => ?_) (fun h1 => ?_)
  ·
    refine r_iload_n dX9_toldOf_26 rfl ?_
    refine r_iconst (4) dX9_toldOf_27 rfl ?_
    refine r_icmp_eq 42 dX9_toldOf_28 rfl (fun hz => absurd hz (by decide)) (fun _ => ?_)
    refine r_iload_n dX9_toldOf_31 rfl ?_
    refine r_iconst (3) dX9_toldOf_32 rfl ?_
    refine r_icmp_eq 42 dX9_toldOf_33 rfl (fun hz => absurd hz (by decide)) (fun _ => ?_)
    refine r_iload_n dX9_toldOf_36 rfl ?_
    refine r_bipush (7) dX9_toldOf_37 rfl ?_
    refine r_icmp_ne 46 dX9_toldOf_39 rfl (fun hz => absurd hz (by decide)) (fun _ => ?_)
    refine r_iconst (1) dX9_toldOf_42 rfl ?_
    refine r_goto 47 dX9_toldOf_43 rfl ?_
    refine si_2 dX9_toldOf_47 rfl (Nat.le_of_ble_eq_true rfl) ?_
    refine r_aload_n dX9_toldOf_48 rfl ?_
    refine r_getRc dX9_toldOf_49 fgX9_15 rfl (by exact k_160 hF) (by exact r_160_1 hF) ?_
    refine r_iload_n dX9_toldOf_52 rfl ?_
    refine r_laloadn (7) rfl dX9_toldOf_53 (by exact k_162 hF) (vin (j := 7) (by omega) (by omega)) ?_
    refine r_iload_n dX9_toldOf_54 rfl ?_
    refine r_if_eq 64 dX9_toldOf_55 rfl (fun hz => absurd hz (by decide)) (fun _ => ?_)
    refine r_ldc2 (10000) dX9_toldOf_58 ctX9_61 ?_
    refine r_goto 67 dX9_toldOf_61 rfl ?_
    refine r_mminL dX9_toldOf_67 msX9_65 (Nat.le_of_ble_eq_true rfl) (by exact Nat.le_of_ble_eq_true rfl) ?_
    refine r_lreturn dX9_toldOf_70 rfl ?_
    rw [capT, if_neg (i64_nlt.mpr h1), if_pos (show ((7 : Int32) = 4 ∨ (7 : Int32) = 3 ∨ (7 : Int32) = 7) by decide)] at k; exact k
  ·
    refine r_lconst (0) dX9_toldOf_24 rfl ?_
    refine r_lreturn dX9_toldOf_25 rfl ?_
    rw [capT, if_pos (i64_nle.mp h1)] at k; exact k
def skF (t : Nat → Int64) : Int64 := capT 0 (t 0) + capT 0 (t 0) * capT 4 (t 4) / 100
def alF (t : Nat → Int64) : Int64 := skF t + capT 1 (t 1) + capT 2 (t 2)
def puF (t : Nat → Int64) : Int64 := alF t + alF t * capT 3 (t 3) / 100
def auM (m : MM) : MM := stL (stL m 160 4 (skF (ldL m 162))) 160 5 (alF (ldL m 162))
theorem S_X9_addUp {g : GG} {m : MM} {Q : Out → Prop} (hF : Fx m) (k : Q (.inl (some (.long (puF (ldL m 162)))), auM m)) : Cl g 2 0 0 mX9_addUp [.ref 160] m Q := by
  refine Cl.of rfl (by decide) (Nat.le_of_ble_eq_true rfl) ?_
  show Wp g mX9_addUp 2 0 0 0 [.ref 160, .retAddr 0, .retAddr 0] [] m Q
  refine r_aload_n dX9_addUp_0 rfl ?_
  refine r_iconst (0) dX9_addUp_1 rfl ?_
  refine r_callV1 (ci := 9) (d1 := 1) (c1 := 0) (n1 := 0) dX9_addUp_2 mvX9_71 rfl ⟨(Nat.le_of_ble_eq_true rfl), rfl⟩ (Nat.le_of_ble_eq_true rfl) (by exact Nat.le_of_ble_eq_true rfl) (by exact k_160 hF) ?_
  refine S_told0 (by exact hF) ?_
  show Wp g mX9_addUp _ _ _ 5 _ (_ :: _) _ Q
  refine sl_1 dX9_addUp_5 rfl (Nat.le_of_ble_eq_true rfl) ?_
  refine r_aload_n dX9_addUp_6 rfl ?_
  refine r_lload_n dX9_addUp_7 rfl ?_
  refine r_lload_n dX9_addUp_8 rfl ?_
  refine r_aload_n dX9_addUp_9 rfl ?_
  refine r_iconst (4) dX9_addUp_10 rfl ?_
  refine r_callV1 (ci := 9) (d1 := 1) (c1 := 0) (n1 := 0) dX9_addUp_11 mvX9_71 rfl ⟨(Nat.le_of_ble_eq_true rfl), rfl⟩ (Nat.le_of_ble_eq_true rfl) (by exact Nat.le_of_ble_eq_true rfl) (by exact k_160 hF) ?_
  refine S_told4 (by exact hF) ?_
  show Wp g mX9_addUp _ _ _ 14 _ (_ :: _) _ Q
  refine r_callN2 (d1 := 0) (c1 := 0) (n1 := 0) dX9_addUp_14 msX9_74 (Nat.le_of_ble_eq_true rfl) (by exact Nat.le_of_ble_eq_true rfl) ?_
  refine S_X11_hundredths ?_
  show Wp g mX9_addUp _ _ _ 17 _ (_ :: _) _ Q
  refine r_ladd dX9_addUp_17 ?_
  refine r_putL dX9_addUp_18 (fpX9_77 _ rfl) rfl (by exact k_160 hF) ?_
  refine r_aload_n dX9_addUp_21 rfl ?_
  refine r_aload_n dX9_addUp_22 rfl ?_
  refine r_getL dX9_addUp_23 fgX9_77 rfl (by exact k_160 hF) ?_
  refine r_aload_n dX9_addUp_26 rfl ?_
  refine r_iconst (1) dX9_addUp_27 rfl ?_
  refine r_callV1 (ci := 9) (d1 := 1) (c1 := 0) (n1 := 0) dX9_addUp_28 mvX9_71 rfl ⟨(Nat.le_of_ble_eq_true rfl), rfl⟩ (Nat.le_of_ble_eq_true rfl) (by exact Nat.le_of_ble_eq_true rfl) (by exact k_160 hF) ?_
  refine S_told1 (by exact hF) ?_
  show Wp g mX9_addUp _ _ _ 31 _ (_ :: _) _ Q
  refine r_ladd dX9_addUp_31 ?_
  refine r_aload_n dX9_addUp_32 rfl ?_
  refine r_iconst (2) dX9_addUp_33 rfl ?_
  refine r_callV1 (ci := 9) (d1 := 1) (c1 := 0) (n1 := 0) dX9_addUp_34 mvX9_71 rfl ⟨(Nat.le_of_ble_eq_true rfl), rfl⟩ (Nat.le_of_ble_eq_true rfl) (by exact Nat.le_of_ble_eq_true rfl) (by exact k_160 hF) ?_
  refine S_told2 (by exact hF) ?_
  show Wp g mX9_addUp _ _ _ 37 _ (_ :: _) _ Q
  refine r_ladd dX9_addUp_37 ?_
  refine r_putL dX9_addUp_38 (fpX9_81 _ rfl) rfl (by exact k_160 hF) ?_
  refine r_aload_n dX9_addUp_41 rfl ?_
  refine r_getL dX9_addUp_42 fgX9_81 rfl (by exact k_160 hF) ?_
  refine r_aload_n dX9_addUp_45 rfl ?_
  refine r_getL dX9_addUp_46 fgX9_81 rfl (by exact k_160 hF) ?_
  refine r_aload_n dX9_addUp_49 rfl ?_
  refine r_iconst (3) dX9_addUp_50 rfl ?_
  refine r_callV1 (ci := 9) (d1 := 1) (c1 := 0) (n1 := 0) dX9_addUp_51 mvX9_71 rfl ⟨(Nat.le_of_ble_eq_true rfl), rfl⟩ (Nat.le_of_ble_eq_true rfl) (by exact Nat.le_of_ble_eq_true rfl) (by exact k_160 hF) ?_
  refine S_told3 (by exact hF) ?_
  show Wp g mX9_addUp _ _ _ 54 _ (_ :: _) _ Q
  refine r_callN2 (d1 := 0) (c1 := 0) (n1 := 0) dX9_addUp_54 msX9_74 (Nat.le_of_ble_eq_true rfl) (by exact Nat.le_of_ble_eq_true rfl) ?_
  refine S_X11_hundredths ?_
  show Wp g mX9_addUp _ _ _ 57 _ (_ :: _) _ Q
  refine r_ladd dX9_addUp_57 ?_
  refine r_lreturn dX9_addUp_58 rfl ?_
  exact k
def jnF (s : Int32) (l r : Int64) : Int64 :=
  if s = 42 then l * r else if s = 43 then l + r else if s = 45 then l - r else if s = 47 then (if r = 0 then 0 else l / r) else if s = 60 then (if l < r then 1 else 0) else if s = 61 then (if l = r then 1 else 0) else if s = 62 then (if r < l then 1 else 0)
  else if s = 274 then (if l ≤ r then l else r) else if s = 275 then (if r ≤ l then l else r) else if s = 279 then l &&& r else l ||| r
theorem lk_dflt {d : Int} {x : Int} : ∀ (ps : List (Int × Int)), (∀ q ∈ ps, q.1 ≠ x) → Op.lookupswitch.offset ps d x = d := by
  intro ps
  induction ps with
  | nil => intro _; rfl
  | cons a t ih =>
    intro h
    rw [show a = (a.1, a.2) from rfl, Op.lookupswitch.offset_cons, if_neg (h a List.mem_cons_self)]
    exact ih (fun q hq => h q (List.mem_cons_of_mem _ hq))
theorem i32_ne {x y : Int32} (h : ¬ x = y) : y.toInt ≠ x.toInt := fun q => h (Int32.toInt_inj.mp q.symm)
theorem S_X9_joined {g : GG} {m : MM} {Q : Out → Prop} {s : Int32} {l r : Int64} (k : Q (.inl (some (.long (jnF s l r))), m)) : Cl g 0 0 0 mX9_joined [.int s, .long l, .long r] m Q := by
  refine Cl.of rfl (by decide) (Nat.le_of_ble_eq_true rfl) ?_
  show Wp g mX9_joined 0 0 0 0 [.int s, .long l, .retAddr 0, .long r, .retAddr 0] [] m Q
  refine r_iload_n dX9_joined_0 rfl ?_
  by_cases hk42 : s = 42
  ·
    subst hk42
    refine r_lookup 100 dX9_joined_1 (by decide +kernel) rfl rfl ?_
    refine r_lload_n dX9_joined_100 rfl ?_
    refine r_lload_n dX9_joined_101 rfl ?_
    refine r_lmul dX9_joined_102 ?_
    refine r_lreturn dX9_joined_103 rfl ?_
    exact k
  by_cases hk43 : s = 43
  ·
    subst hk43
    refine r_lookup 92 dX9_joined_1 (by decide +kernel) rfl rfl ?_
    refine r_lload_n dX9_joined_92 rfl ?_
    refine r_lload_n dX9_joined_93 rfl ?_
    refine r_ladd dX9_joined_94 ?_
    refine r_lreturn dX9_joined_95 rfl ?_
    exact k
  by_cases hk45 : s = 45
  ·
    subst hk45
    refine r_lookup 96 dX9_joined_1 (by decide +kernel) rfl rfl ?_
    refine r_lload_n dX9_joined_96 rfl ?_
    refine r_lload_n dX9_joined_97 rfl ?_
    refine r_lsub dX9_joined_98 ?_
    refine r_lreturn dX9_joined_99 rfl ?_
    exact k
  by_cases hk47 : s = 47
  ·
    subst hk47
    refine r_lookup 104 dX9_joined_1 (by decide +kernel) rfl rfl ?_
    refine r_lload_n dX9_joined_104 rfl ?_
    refine r_lconst (0) dX9_joined_105 rfl ?_
    refine r_lcmp_ne 114 dX9_joined_106 dX9_joined_107 rfl (fun h1 => ?_) (fun h1 => ?_)
    ·
      refine r_lload_n dX9_joined_114 rfl ?_
      refine r_lload_n dX9_joined_115 rfl ?_
      refine r_ldiv dX9_joined_116 h1 ?_
      refine r_lreturn dX9_joined_117 rfl ?_
      have k9 : Q (.inl (some (.long (if r = 0 then 0 else l / r))), m) := k
      rw [if_neg h1] at k9; exact k9
    ·
      refine r_lconst (0) dX9_joined_110 rfl ?_
      refine r_goto 117 dX9_joined_111 rfl ?_
      refine r_lreturn dX9_joined_117 rfl ?_
      have k9 : Q (.inl (some (.long (if r = 0 then 0 else l / r))), m) := k
      rw [if_pos h1] at k9; exact k9
  by_cases hk60 : s = 60
  ·
    subst hk60
    refine r_lookup 142 dX9_joined_1 (by decide +kernel) rfl rfl ?_
    refine r_lload_n dX9_joined_142 rfl ?_
    refine r_lload_n dX9_joined_143 rfl ?_
    refine r_lcmp_ge 152 dX9_joined_144 dX9_joined_145 rfl (fun h1 => ?_) (fun h1 => ?_)
    ·
      refine r_lconst (0) dX9_joined_152 rfl ?_
      refine r_lreturn dX9_joined_153 rfl ?_
      have k9 : Q (.inl (some (.long (if l < r then 1 else 0))), m) := k
      rw [if_neg (i64_nlt.mpr h1)] at k9; exact k9
    ·
      refine r_lconst (1) dX9_joined_148 rfl ?_
      refine r_goto 153 dX9_joined_149 rfl ?_
      refine r_lreturn dX9_joined_153 rfl ?_
      have k9 : Q (.inl (some (.long (if l < r then 1 else 0))), m) := k
      rw [if_pos (i64_nle.mp h1)] at k9; exact k9
  by_cases hk61 : s = 61
  ·
    subst hk61
    refine r_lookup 166 dX9_joined_1 (by decide +kernel) rfl rfl ?_
    refine r_lload_n dX9_joined_166 rfl ?_
    refine r_lload_n dX9_joined_167 rfl ?_
    refine r_lcmp_ne 176 dX9_joined_168 dX9_joined_169 rfl (fun h1 => ?_) (fun h1 => ?_)
    ·
      refine r_lconst (0) dX9_joined_176 rfl ?_
      refine r_lreturn dX9_joined_177 rfl ?_
      have k9 : Q (.inl (some (.long (if l = r then 1 else 0))), m) := k
      rw [if_neg h1] at k9; exact k9
    ·
      refine r_lconst (1) dX9_joined_172 rfl ?_
      refine r_goto 177 dX9_joined_173 rfl ?_
      refine r_lreturn dX9_joined_177 rfl ?_
      have k9 : Q (.inl (some (.long (if l = r then 1 else 0))), m) := k
      rw [if_pos h1] at k9; exact k9
  by_cases hk62 : s = 62
  ·
    subst hk62
    refine r_lookup 154 dX9_joined_1 (by decide +kernel) rfl rfl ?_
    refine r_lload_n dX9_joined_154 rfl ?_
    refine r_lload_n dX9_joined_155 rfl ?_
    refine r_lcmp_le 164 dX9_joined_156 dX9_joined_157 rfl (fun h1 => ?_) (fun h1 => ?_)
    ·
      refine r_lconst (0) dX9_joined_164 rfl ?_
      refine r_lreturn dX9_joined_165 rfl ?_
      have k9 : Q (.inl (some (.long (if r < l then 1 else 0))), m) := k
      rw [if_neg (i64_nlt.mpr h1)] at k9; exact k9
    ·
      refine r_lconst (1) dX9_joined_160 rfl ?_
      refine r_goto 165 dX9_joined_161 rfl ?_
      refine r_lreturn dX9_joined_165 rfl ?_
      have k9 : Q (.inl (some (.long (if r < l then 1 else 0))), m) := k
      rw [if_pos (i64_nle.mp h1)] at k9; exact k9
  by_cases hk274 : s = 274
  ·
    subst hk274
    refine r_lookup 118 dX9_joined_1 (by decide +kernel) rfl rfl ?_
    refine r_lload_n dX9_joined_118 rfl ?_
    refine r_lload_n dX9_joined_119 rfl ?_
    refine r_lcmp_gt 128 dX9_joined_120 dX9_joined_121 rfl (fun h1 => ?_) (fun h1 => ?_)
    ·
      refine r_lload_n dX9_joined_128 rfl ?_
      refine r_lreturn dX9_joined_129 rfl ?_
      have k9 : Q (.inl (some (.long (if l ≤ r then l else r))), m) := k
      rw [if_neg (i64_nle.mpr h1)] at k9; exact k9
    ·
      refine r_lload_n dX9_joined_124 rfl ?_
      refine r_goto 129 dX9_joined_125 rfl ?_
      refine r_lreturn dX9_joined_129 rfl ?_
      have k9 : Q (.inl (some (.long (if l ≤ r then l else r))), m) := k
      rw [if_pos (i64_nlt.mp h1)] at k9; exact k9
  by_cases hk275 : s = 275
  ·
    subst hk275
    refine r_lookup 130 dX9_joined_1 (by decide +kernel) rfl rfl ?_
    refine r_lload_n dX9_joined_130 rfl ?_
    refine r_lload_n dX9_joined_131 rfl ?_
    refine r_lcmp_lt 140 dX9_joined_132 dX9_joined_133 rfl (fun h1 => ?_) (fun h1 => ?_)
    ·
      refine r_lload_n dX9_joined_140 rfl ?_
      refine r_lreturn dX9_joined_141 rfl ?_
      have k9 : Q (.inl (some (.long (if r ≤ l then l else r))), m) := k
      rw [if_neg (i64_nle.mpr h1)] at k9; exact k9
    ·
      refine r_lload_n dX9_joined_136 rfl ?_
      refine r_goto 141 dX9_joined_137 rfl ?_
      refine r_lreturn dX9_joined_141 rfl ?_
      have k9 : Q (.inl (some (.long (if r ≤ l then l else r))), m) := k
      rw [if_pos (i64_nlt.mp h1)] at k9; exact k9
  by_cases hk279 : s = 279
  ·
    subst hk279
    refine r_lookup 178 dX9_joined_1 (by decide +kernel) rfl rfl ?_
    refine r_lload_n dX9_joined_178 rfl ?_
    refine r_lload_n dX9_joined_179 rfl ?_
    refine r_land dX9_joined_180 ?_
    refine r_lreturn dX9_joined_181 rfl ?_
    exact k
  refine r_lookup 182 dX9_joined_1 (by decide +kernel) (lk_dflt _ (fun q hq => ?_)) rfl ?_
  · simp only [List.mem_cons, List.not_mem_nil, or_false] at hq
    rcases hq with rfl | rfl | rfl | rfl | rfl | rfl | rfl | rfl | rfl | rfl
    · exact i32_ne hk42
    · exact i32_ne hk43
    · exact i32_ne hk45
    · exact i32_ne hk47
    · exact i32_ne hk60
    · exact i32_ne hk61
    · exact i32_ne hk62
    · exact i32_ne hk274
    · exact i32_ne hk275
    · exact i32_ne hk279
  refine r_lload_n dX9_joined_182 rfl ?_
  refine r_lload_n dX9_joined_183 rfl ?_
  refine r_lor dX9_joined_184 ?_
  refine r_lreturn dX9_joined_185 rfl ?_
  have e9 : jnF s l r = l ||| r := by unfold jnF; rw [if_neg hk42, if_neg hk43, if_neg hk45, if_neg hk47, if_neg hk60, if_neg hk61, if_neg hk62, if_neg hk274, if_neg hk275, if_neg hk279]
  rw [e9] at k; exact k
def exF (nm : Int32 → Int64) (x : Int32) (σ : WS) : WS :=
  if x - x / 512 * 512 = 1 then psh (x / 512).toInt64 σ
  else if x - x / 512 * 512 = 2 then psh (nm (x / 512)) σ
  else if x - x / 512 * 512 = 3 then tlS (x / 512) (ppV σ) 1 (ppS σ)
  else if x - x / 512 * 512 = 4 then tlS (x / 512) (ppV (ppS σ)) (if ppV σ = 0 then 0 else 1) (ppS (ppS σ))
  else if x - x / 512 * 512 = 276 then psh (rtF (ppV σ)) (ppS σ)
  else if x - x / 512 * 512 = 280 then psh (if ppV σ = 0 then 1 else 0) (ppS σ)
  else psh (jnF (x - x / 512 * 512) (ppV (ppS σ)) (ppV σ)) (ppS (ppS σ))
def exN (nm : Int32 → Int64) (st : Nat → Int32) (σ : WS) : Nat → WS
  | 0 => σ
  | i + 1 => exF nm (st i) (exN nm st σ i)
theorem psh_le {v : Int64} {σ : WS} (h : σ.2.1 ≤ 64) : (psh v σ).2.1 ≤ 64 := by
  unfold psh
  split
  · show σ.2.1 + 1 ≤ 64; omega
  · exact h
theorem ppS_le {σ : WS} (h : σ.2.1 ≤ 64) : (ppS σ).2.1 ≤ 64 := by show σ.2.1 - 1 ≤ 64; omega
theorem tlS_le {w h : Int32} {v : Int64} {σ : WS} (h0 : σ.2.1 ≤ 64) : (tlS w v h σ).2.1 ≤ 64 := by
  unfold tlS
  split <;> exact h0
theorem exF_le {nm : Int32 → Int64} {x : Int32} {σ : WS} (h : σ.2.1 ≤ 64) : (exF nm x σ).2.1 ≤ 64 := by
  unfold exF
  repeat' split
  all_goals first | exact psh_le h | exact tlS_le (ppS_le h) | exact tlS_le (ppS_le (ppS_le h)) | exact psh_le (ppS_le h) | exact psh_le (ppS_le (ppS_le h))
theorem exN_le {nm : Int32 → Int64} {st : Nat → Int32} {σ : WS} (h : σ.2.1 ≤ 64) : ∀ i, (exN nm st σ i).2.1 ≤ 64
  | 0 => h
  | i + 1 => exF_le (exN_le h i)
theorem nmA_wk (m : MM) (σ : WS) (x : Int32) : nmA (wkM m σ) x = nmA m x := by unfold nmA; rw [wk_nm]
set_option maxHeartbeats 1000000 in
theorem L_work {g : GG} {m : MM} {Q : Out → Prop} (hF : Fx m) {p t L : Nat} (hp : kdl m p = some (3, 0)) (hpt : ldR m p 0 = t) (htk : kdl m t = some (13, L)) (hL : L < 100000) (ht0 : t ≠ 160) {σ : WS} (hσ : σ.2.1 ≤ 64) (k : Q (.inl none, wkM m (exN (nmA m) (ldI m t) σ L))) : ∀ (u i : Nat) (x4 x5 x6 x7 x8 : Value), x6.category = 1 → i + u = L → Wp g mX9_work 1 0 0 20 [.ref 160, .ref p, .ref t, .int (nI i), x4, x5, x6, x7, x8] [] (wkM m (exN (nmA m) (ldI m t) σ i)) Q := by
  intro u
  induction u with
  | zero =>
    intro i x4 x5 x6 x7 x8 hx6 hi
    obtain rfl : i = L := by omega
    refine r_iload_n dX9_work_20 rfl ?_
    refine r_aload_n dX9_work_21 rfl ?_
    refine r_alen _ dX9_work_22 ⟨Nat.le_of_ble_eq_true rfl, Nat.le_of_ble_eq_true rfl⟩ (by exact htk) rfl ?_
    refine r_icmp_ge 234 dX9_work_23 rfl (fun h1 => ?_) (fun h1 => ?_)
    ·
      refine r_return dX9_work_234 rfl ?_
      exact k
    ·
      exact absurd (nI_le (Nat.le_refl _) (by omega)) h1
  | succ u ih =>
    intro i x4 x5 x6 x7 x8 hx6 hi
    have hin : i < L := by omega
    have eS : exN (nmA m) (ldI m t) σ (i + 1) = exF (nmA m) (ldI m t i) (exN (nmA m) (ldI m t) σ i) := rfl
    refine r_iload_n dX9_work_20 rfl ?_
    refine r_aload_n dX9_work_21 rfl ?_
    refine r_alen _ dX9_work_22 ⟨Nat.le_of_ble_eq_true rfl, Nat.le_of_ble_eq_true rfl⟩ (by exact htk) rfl ?_
    refine r_icmp_ge 234 dX9_work_23 rfl (fun h1 => ?_) (fun h1 => ?_)
    ·
      exact absurd h1 (nI_ge hin (by omega))
    ·
      refine r_aload_n dX9_work_26 rfl ?_
      refine r_iload_n dX9_work_27 rfl ?_
      refine r_ialoadn (i) (nI_cl i (by omega)) dX9_work_28 (by exact htk) (vin hin (by omega)) ?_
      refine r_sipush (512) dX9_work_29 rfl ?_
      refine r_irem dX9_work_32 (by decide) ?_
      refine si_4 dX9_work_33 (by first | rfl | assumption) (Nat.le_of_ble_eq_true rfl) ?_
      refine r_aload_n dX9_work_35 rfl ?_
      refine r_iload_n dX9_work_36 rfl ?_
      refine r_ialoadn (i) (nI_cl i (by omega)) dX9_work_37 (by exact htk) (vin hin (by omega)) ?_
      refine r_sipush (512) dX9_work_38 rfl ?_
      refine r_idiv dX9_work_41 (by decide) ?_
      refine si_5 dX9_work_42 (by first | rfl | assumption) (Nat.le_of_ble_eq_true rfl) ?_
      rw [wk_I m _ ht0]
      refine r_iload dX9_work_44 rfl ?_
      generalize hs : ldI m t i - ldI m t i / 512 * 512 = s
      generalize hop : ldI m t i / 512 = op at hs
      by_cases hk1 : s = 1
      ·
        subst hk1
        refine r_lookup 104 dX9_work_46 (by decide +kernel) rfl rfl ?_
        refine r_aload_n dX9_work_104 rfl ?_
        refine r_iload dX9_work_105 rfl ?_
        refine r_i2l dX9_work_107 ?_
        refine r_callV1 (ci := 9) (d1 := 0) (c1 := 0) (n1 := 0) dX9_work_108 mvX9_37 rfl ⟨(Nat.le_of_ble_eq_true rfl), rfl⟩ (Nat.le_of_ble_eq_true rfl) (by exact Nat.le_of_ble_eq_true rfl) (by exact k_160 hF) ?_
        refine S_X9_push hF (by first | exact exN_le hσ i | exact ppS_le (exN_le hσ i) | exact ppS_le (ppS_le (exN_le hσ i))) ?_
        show Wp g mX9_work _ _ _ 111 _ [] _ Q
        refine r_goto 228 dX9_work_111 rfl ?_
        refine ic_3 (1) dX9_work_228 rfl rfl (Nat.le_of_ble_eq_true rfl) ?_
        refine r_goto 20 dX9_work_231 rfl ?_
        rw [nI_1 i]
        have e9 := eS
        unfold exF at e9; rw [hop, if_pos hs] at e9
        rw [← e9]
        exact ih (i + 1) _ _ _ _ _ (by first | rfl | exact hx6) (by omega)
      by_cases hk2 : s = 2
      ·
        subst hk2
        refine r_lookup 114 dX9_work_46 (by decide +kernel) rfl rfl ?_
        refine r_aload_n dX9_work_114 rfl ?_
        refine r_aload_n dX9_work_115 rfl ?_
        refine r_iload dX9_work_116 rfl ?_
        refine r_callV1 (ci := 9) (d1 := 0) (c1 := 0) (n1 := 0) dX9_work_118 mvX9_41 rfl ⟨(Nat.le_of_ble_eq_true rfl), rfl⟩ (Nat.le_of_ble_eq_true rfl) (by exact Nat.le_of_ble_eq_true rfl) (by exact k_160 hF) ?_
        refine S_X9_nameAt (by exact hF) ?_
        rw [nmA_wk]
        show Wp g mX9_work _ _ _ 121 _ (_ :: _) _ Q
        refine r_callV1 (ci := 9) (d1 := 0) (c1 := 0) (n1 := 0) dX9_work_121 mvX9_37 rfl ⟨(Nat.le_of_ble_eq_true rfl), rfl⟩ (Nat.le_of_ble_eq_true rfl) (by exact Nat.le_of_ble_eq_true rfl) (by exact k_160 hF) ?_
        refine S_X9_push hF (by first | exact exN_le hσ i | exact ppS_le (exN_le hσ i) | exact ppS_le (ppS_le (exN_le hσ i))) ?_
        show Wp g mX9_work _ _ _ 124 _ [] _ Q
        refine r_goto 228 dX9_work_124 rfl ?_
        refine ic_3 (1) dX9_work_228 rfl rfl (Nat.le_of_ble_eq_true rfl) ?_
        refine r_goto 20 dX9_work_231 rfl ?_
        rw [nI_1 i]
        have e9 := eS
        unfold exF at e9; rw [hop, if_neg (by rw [hs]; decide), if_pos hs] at e9
        rw [← e9]
        exact ih (i + 1) _ _ _ _ _ (by first | rfl | exact hx6) (by omega)
      by_cases hk3 : s = 3
      ·
        subst hk3
        refine r_lookup 127 dX9_work_46 (by decide +kernel) rfl rfl ?_
        refine r_aload_n dX9_work_127 rfl ?_
        refine r_iload dX9_work_128 rfl ?_
        refine r_aload_n dX9_work_130 rfl ?_
        refine r_callV0 (ci := 9) (d1 := 0) (c1 := 0) (n1 := 0) dX9_work_131 mvX9_45 rfl ⟨(Nat.le_of_ble_eq_true rfl), rfl⟩ (Nat.le_of_ble_eq_true rfl) (by exact Nat.le_of_ble_eq_true rfl) (by exact k_160 hF) ?_
        refine S_X9_pop hF (by first | exact exN_le hσ i | exact ppS_le (exN_le hσ i) | exact ppS_le (ppS_le (exN_le hσ i))) ?_
        show Wp g mX9_work _ _ _ 134 _ (_ :: _) _ Q
        refine r_iconst (1) dX9_work_134 rfl ?_
        refine r_callV3 (ci := 9) (d1 := 0) (c1 := 0) (n1 := 0) dX9_work_135 mvX9_49 rfl ⟨(Nat.le_of_ble_eq_true rfl), rfl⟩ (Nat.le_of_ble_eq_true rfl) (by exact Nat.le_of_ble_eq_true rfl) (by exact k_160 hF) ?_
        refine S_X9_tell hF (by first | exact exN_le hσ i | exact ppS_le (exN_le hσ i) | exact ppS_le (ppS_le (exN_le hσ i))) ?_
        show Wp g mX9_work _ _ _ 138 _ [] _ Q
        refine r_goto 228 dX9_work_138 rfl ?_
        refine ic_3 (1) dX9_work_228 rfl rfl (Nat.le_of_ble_eq_true rfl) ?_
        refine r_goto 20 dX9_work_231 rfl ?_
        rw [nI_1 i]
        have e9 := eS
        unfold exF at e9; rw [hop, if_neg (by rw [hs]; decide), if_neg (by rw [hs]; decide), if_pos hs] at e9
        rw [← e9]
        exact ih (i + 1) _ _ _ _ _ (by first | rfl | exact hx6) (by omega)
      by_cases hk4 : s = 4
      ·
        subst hk4
        refine r_lookup 141 dX9_work_46 (by decide +kernel) rfl rfl ?_
        refine r_aload_n dX9_work_141 rfl ?_
        refine r_callV0 (ci := 9) (d1 := 0) (c1 := 0) (n1 := 0) dX9_work_142 mvX9_45 rfl ⟨(Nat.le_of_ble_eq_true rfl), rfl⟩ (Nat.le_of_ble_eq_true rfl) (by exact Nat.le_of_ble_eq_true rfl) (by exact k_160 hF) ?_
        refine S_X9_pop hF (by first | exact exN_le hσ i | exact ppS_le (exN_le hσ i) | exact ppS_le (ppS_le (exN_le hσ i))) ?_
        show Wp g mX9_work _ _ _ 145 _ (_ :: _) _ Q
        refine r_lconst (0) dX9_work_145 rfl ?_
        refine r_lcmp_eq 154 dX9_work_146 dX9_work_147 rfl (fun h2 => ?_) (fun h2 => ?_)
        ·
          refine r_iconst (0) dX9_work_154 rfl ?_
          refine si_6 dX9_work_155 (by first | rfl | assumption) (Nat.le_of_ble_eq_true rfl) ?_
          refine r_aload_n dX9_work_157 rfl ?_
          refine r_iload dX9_work_158 rfl ?_
          refine r_aload_n dX9_work_160 rfl ?_
          refine r_callV0 (ci := 9) (d1 := 0) (c1 := 0) (n1 := 0) dX9_work_161 mvX9_45 rfl ⟨(Nat.le_of_ble_eq_true rfl), rfl⟩ (Nat.le_of_ble_eq_true rfl) (by exact Nat.le_of_ble_eq_true rfl) (by exact k_160 hF) ?_
          refine S_X9_pop hF (by first | exact exN_le hσ i | exact ppS_le (exN_le hσ i) | exact ppS_le (ppS_le (exN_le hσ i))) ?_
          show Wp g mX9_work _ _ _ 164 _ (_ :: _) _ Q
          refine r_iload dX9_work_164 rfl ?_
          refine r_callV3 (ci := 9) (d1 := 0) (c1 := 0) (n1 := 0) dX9_work_166 mvX9_49 rfl ⟨(Nat.le_of_ble_eq_true rfl), rfl⟩ (Nat.le_of_ble_eq_true rfl) (by exact Nat.le_of_ble_eq_true rfl) (by exact k_160 hF) ?_
          refine S_X9_tell hF (by first | exact exN_le hσ i | exact ppS_le (exN_le hσ i) | exact ppS_le (ppS_le (exN_le hσ i))) ?_
          show Wp g mX9_work _ _ _ 169 _ [] _ Q
          refine r_goto 228 dX9_work_169 rfl ?_
          refine ic_3 (1) dX9_work_228 rfl rfl (Nat.le_of_ble_eq_true rfl) ?_
          refine r_goto 20 dX9_work_231 rfl ?_
          rw [nI_1 i]
          have e9 := eS
          unfold exF at e9; rw [hop, if_neg (by rw [hs]; decide), if_neg (by rw [hs]; decide), if_neg (by rw [hs]; decide), if_pos hs] at e9
          first | rw [if_pos h2] at e9 | rw [if_neg h2] at e9
          rw [← e9]
          exact ih (i + 1) _ _ _ _ _ (by first | rfl | exact hx6) (by omega)
        ·
          refine r_iconst (1) dX9_work_150 rfl ?_
          refine r_goto 155 dX9_work_151 rfl ?_
          refine si_6 dX9_work_155 (by first | rfl | assumption) (Nat.le_of_ble_eq_true rfl) ?_
          refine r_aload_n dX9_work_157 rfl ?_
          refine r_iload dX9_work_158 rfl ?_
          refine r_aload_n dX9_work_160 rfl ?_
          refine r_callV0 (ci := 9) (d1 := 0) (c1 := 0) (n1 := 0) dX9_work_161 mvX9_45 rfl ⟨(Nat.le_of_ble_eq_true rfl), rfl⟩ (Nat.le_of_ble_eq_true rfl) (by exact Nat.le_of_ble_eq_true rfl) (by exact k_160 hF) ?_
          refine S_X9_pop hF (by first | exact exN_le hσ i | exact ppS_le (exN_le hσ i) | exact ppS_le (ppS_le (exN_le hσ i))) ?_
          show Wp g mX9_work _ _ _ 164 _ (_ :: _) _ Q
          refine r_iload dX9_work_164 rfl ?_
          refine r_callV3 (ci := 9) (d1 := 0) (c1 := 0) (n1 := 0) dX9_work_166 mvX9_49 rfl ⟨(Nat.le_of_ble_eq_true rfl), rfl⟩ (Nat.le_of_ble_eq_true rfl) (by exact Nat.le_of_ble_eq_true rfl) (by exact k_160 hF) ?_
          refine S_X9_tell hF (by first | exact exN_le hσ i | exact ppS_le (exN_le hσ i) | exact ppS_le (ppS_le (exN_le hσ i))) ?_
          show Wp g mX9_work _ _ _ 169 _ [] _ Q
          refine r_goto 228 dX9_work_169 rfl ?_
          refine ic_3 (1) dX9_work_228 rfl rfl (Nat.le_of_ble_eq_true rfl) ?_
          refine r_goto 20 dX9_work_231 rfl ?_
          rw [nI_1 i]
          have e9 := eS
          unfold exF at e9; rw [hop, if_neg (by rw [hs]; decide), if_neg (by rw [hs]; decide), if_neg (by rw [hs]; decide), if_pos hs] at e9
          first | rw [if_pos h2] at e9 | rw [if_neg h2] at e9
          rw [← e9]
          exact ih (i + 1) _ _ _ _ _ (by first | rfl | exact hx6) (by omega)
      by_cases hk276 : s = 276
      ·
        subst hk276
        refine r_lookup 172 dX9_work_46 (by decide +kernel) rfl rfl ?_
        refine r_aload_n dX9_work_172 rfl ?_
        refine r_aload_n dX9_work_173 rfl ?_
        refine r_callV0 (ci := 9) (d1 := 0) (c1 := 0) (n1 := 0) dX9_work_174 mvX9_45 rfl ⟨(Nat.le_of_ble_eq_true rfl), rfl⟩ (Nat.le_of_ble_eq_true rfl) (by exact Nat.le_of_ble_eq_true rfl) (by exact k_160 hF) ?_
        refine S_X9_pop hF (by first | exact exN_le hσ i | exact ppS_le (exN_le hσ i) | exact ppS_le (ppS_le (exN_le hσ i))) ?_
        show Wp g mX9_work _ _ _ 177 _ (_ :: _) _ Q
        refine r_callN1 (d1 := 0) (c1 := 0) (n1 := 0) dX9_work_177 msX9_53 (Nat.le_of_ble_eq_true rfl) (by exact Nat.le_of_ble_eq_true rfl) ?_
        refine S_X11_rootOf ?_
        show Wp g mX9_work _ _ _ 180 _ (_ :: _) _ Q
        refine r_callV1 (ci := 9) (d1 := 0) (c1 := 0) (n1 := 0) dX9_work_180 mvX9_37 rfl ⟨(Nat.le_of_ble_eq_true rfl), rfl⟩ (Nat.le_of_ble_eq_true rfl) (by exact Nat.le_of_ble_eq_true rfl) (by exact k_160 hF) ?_
        refine S_X9_push hF (by first | exact exN_le hσ i | exact ppS_le (exN_le hσ i) | exact ppS_le (ppS_le (exN_le hσ i))) ?_
        show Wp g mX9_work _ _ _ 183 _ [] _ Q
        refine r_goto 228 dX9_work_183 rfl ?_
        refine ic_3 (1) dX9_work_228 rfl rfl (Nat.le_of_ble_eq_true rfl) ?_
        refine r_goto 20 dX9_work_231 rfl ?_
        rw [nI_1 i]
        have e9 := eS
        unfold exF at e9; rw [hop, if_neg (by rw [hs]; decide), if_neg (by rw [hs]; decide), if_neg (by rw [hs]; decide), if_neg (by rw [hs]; decide), if_pos hs] at e9
        rw [← e9]
        exact ih (i + 1) _ _ _ _ _ (by first | rfl | exact hx6) (by omega)
      by_cases hk280 : s = 280
      ·
        subst hk280
        refine r_lookup 186 dX9_work_46 (by decide +kernel) rfl rfl ?_
        refine r_aload_n dX9_work_186 rfl ?_
        refine r_aload_n dX9_work_187 rfl ?_
        refine r_callV0 (ci := 9) (d1 := 0) (c1 := 0) (n1 := 0) dX9_work_188 mvX9_45 rfl ⟨(Nat.le_of_ble_eq_true rfl), rfl⟩ (Nat.le_of_ble_eq_true rfl) (by exact Nat.le_of_ble_eq_true rfl) (by exact k_160 hF) ?_
        refine S_X9_pop hF (by first | exact exN_le hσ i | exact ppS_le (exN_le hσ i) | exact ppS_le (ppS_le (exN_le hσ i))) ?_
        show Wp g mX9_work _ _ _ 191 _ (_ :: _) _ Q
        refine r_lconst (0) dX9_work_191 rfl ?_
        refine r_lcmp_ne 200 dX9_work_192 dX9_work_193 rfl (fun h2 => ?_) (fun h2 => ?_)
        ·
          refine r_lconst (0) dX9_work_200 rfl ?_
          refine r_callV1 (ci := 9) (d1 := 0) (c1 := 0) (n1 := 0) dX9_work_201 mvX9_37 rfl ⟨(Nat.le_of_ble_eq_true rfl), rfl⟩ (Nat.le_of_ble_eq_true rfl) (by exact Nat.le_of_ble_eq_true rfl) (by exact k_160 hF) ?_
          refine S_X9_push hF (by first | exact exN_le hσ i | exact ppS_le (exN_le hσ i) | exact ppS_le (ppS_le (exN_le hσ i))) ?_
          show Wp g mX9_work _ _ _ 204 _ [] _ Q
          refine r_goto 228 dX9_work_204 rfl ?_
          refine ic_3 (1) dX9_work_228 rfl rfl (Nat.le_of_ble_eq_true rfl) ?_
          refine r_goto 20 dX9_work_231 rfl ?_
          rw [nI_1 i]
          have e9 := eS
          unfold exF at e9; rw [hop, if_neg (by rw [hs]; decide), if_neg (by rw [hs]; decide), if_neg (by rw [hs]; decide), if_neg (by rw [hs]; decide), if_neg (by rw [hs]; decide), if_pos hs] at e9
          first | rw [if_pos h2] at e9 | rw [if_neg h2] at e9
          rw [← e9]
          exact ih (i + 1) _ _ _ _ _ (by first | rfl | exact hx6) (by omega)
        ·
          refine r_lconst (1) dX9_work_196 rfl ?_
          refine r_goto 201 dX9_work_197 rfl ?_
          refine r_callV1 (ci := 9) (d1 := 0) (c1 := 0) (n1 := 0) dX9_work_201 mvX9_37 rfl ⟨(Nat.le_of_ble_eq_true rfl), rfl⟩ (Nat.le_of_ble_eq_true rfl) (by exact Nat.le_of_ble_eq_true rfl) (by exact k_160 hF) ?_
          refine S_X9_push hF (by first | exact exN_le hσ i | exact ppS_le (exN_le hσ i) | exact ppS_le (ppS_le (exN_le hσ i))) ?_
          show Wp g mX9_work _ _ _ 204 _ [] _ Q
          refine r_goto 228 dX9_work_204 rfl ?_
          refine ic_3 (1) dX9_work_228 rfl rfl (Nat.le_of_ble_eq_true rfl) ?_
          refine r_goto 20 dX9_work_231 rfl ?_
          rw [nI_1 i]
          have e9 := eS
          unfold exF at e9; rw [hop, if_neg (by rw [hs]; decide), if_neg (by rw [hs]; decide), if_neg (by rw [hs]; decide), if_neg (by rw [hs]; decide), if_neg (by rw [hs]; decide), if_pos hs] at e9
          first | rw [if_pos h2] at e9 | rw [if_neg h2] at e9
          rw [← e9]
          exact ih (i + 1) _ _ _ _ _ (by first | rfl | exact hx6) (by omega)
      refine r_lookup 207 dX9_work_46 (by decide +kernel) (lk_dflt _ (fun q hq => ?_)) rfl ?_
      · simp only [List.mem_cons, List.not_mem_nil, or_false] at hq
        rcases hq with rfl | rfl | rfl | rfl | rfl | rfl
        · exact i32_ne hk1
        · exact i32_ne hk2
        · exact i32_ne hk3
        · exact i32_ne hk4
        · exact i32_ne hk276
        · exact i32_ne hk280
      refine r_aload_n dX9_work_207 rfl ?_
      refine r_callV0 (ci := 9) (d1 := 0) (c1 := 0) (n1 := 0) dX9_work_208 mvX9_45 rfl ⟨(Nat.le_of_ble_eq_true rfl), rfl⟩ (Nat.le_of_ble_eq_true rfl) (by exact Nat.le_of_ble_eq_true rfl) (by exact k_160 hF) ?_
      refine S_X9_pop hF (by first | exact exN_le hσ i | exact ppS_le (exN_le hσ i) | exact ppS_le (ppS_le (exN_le hσ i))) ?_
      show Wp g mX9_work _ _ _ 211 _ (_ :: _) _ Q
      refine sl_7 dX9_work_211 (by first | rfl | assumption) (Nat.le_of_ble_eq_true rfl) ?_
      refine r_aload_n dX9_work_213 rfl ?_
      refine r_iload dX9_work_214 rfl ?_
      refine r_aload_n dX9_work_216 rfl ?_
      refine r_callV0 (ci := 9) (d1 := 0) (c1 := 0) (n1 := 0) dX9_work_217 mvX9_45 rfl ⟨(Nat.le_of_ble_eq_true rfl), rfl⟩ (Nat.le_of_ble_eq_true rfl) (by exact Nat.le_of_ble_eq_true rfl) (by exact k_160 hF) ?_
      refine S_X9_pop hF (by first | exact exN_le hσ i | exact ppS_le (exN_le hσ i) | exact ppS_le (ppS_le (exN_le hσ i))) ?_
      show Wp g mX9_work _ _ _ 220 _ (_ :: _) _ Q
      refine r_lload dX9_work_220 rfl ?_
      refine r_callS3 (d1 := 0) (c1 := 0) (n1 := 0) dX9_work_222 msX9_57 rfl (Nat.le_of_ble_eq_true rfl) (by exact Nat.le_of_ble_eq_true rfl) ?_
      refine S_X9_joined ?_
      show Wp g mX9_work _ _ _ 225 _ (_ :: _) _ Q
      refine r_callV1 (ci := 9) (d1 := 0) (c1 := 0) (n1 := 0) dX9_work_225 mvX9_37 rfl ⟨(Nat.le_of_ble_eq_true rfl), rfl⟩ (Nat.le_of_ble_eq_true rfl) (by exact Nat.le_of_ble_eq_true rfl) (by exact k_160 hF) ?_
      refine S_X9_push hF (by first | exact exN_le hσ i | exact ppS_le (exN_le hσ i) | exact ppS_le (ppS_le (exN_le hσ i))) ?_
      show Wp g mX9_work _ _ _ 228 _ [] _ Q
      refine ic_3 (1) dX9_work_228 rfl rfl (Nat.le_of_ble_eq_true rfl) ?_
      refine r_goto 20 dX9_work_231 rfl ?_
      rw [nI_1 i]
      have e9 := eS
      unfold exF at e9; rw [hop, if_neg (by rw [hs]; exact hk1), if_neg (by rw [hs]; exact hk2), if_neg (by rw [hs]; exact hk3), if_neg (by rw [hs]; exact hk4), if_neg (by rw [hs]; exact hk276), if_neg (by rw [hs]; exact hk280)] at e9
      rw [hs] at e9
      rw [← e9]
      exact ih (i + 1) _ _ _ _ _ (by first | rfl | exact hx6) (by omega)
def wk0 (m : MM) : WS := (ldL m 163, 0, fun j => if j < 8 then 0 else ldL m 162 j)
theorem S_X9_work {g : GG} {m : MM} {Q : Out → Prop} (hF : Fx m) {p t L : Nat} (hp : kdl m p = some (3, 0)) (hpt : ldR m p 0 = t) (htk : kdl m t = some (13, L)) (hL : L < 100000) (ht0 : t ≠ 160) (k : Q (.inl none, wkM m (exN (nmA m) (ldI m t) (wk0 m) L))) : Cl g 1 0 0 mX9_work [.ref 160, .ref p] m Q := by
  refine Cl.of rfl (by decide) (Nat.le_of_ble_eq_true rfl) ?_
  show Wp g mX9_work 1 0 0 0 [.ref 160, .ref p, .retAddr 0, .retAddr 0, .retAddr 0, .retAddr 0, .retAddr 0, .retAddr 0, .retAddr 0] [] m Q
  refine r_aload_n dX9_work_0 rfl ?_
  refine r_getRc dX9_work_1 fgX9_15 rfl (by exact k_160 hF) (by exact r_160_1 hF) ?_
  refine r_lconst (0) dX9_work_4 rfl ?_
  refine r_callS2 (d1 := 0) (c1 := 0) (n1 := 0) dX9_work_5 msX9_21 rfl (Nat.le_of_ble_eq_true rfl) (by exact Nat.le_of_ble_eq_true rfl) ?_
  refine S_J7_fill_d0a16 (z := 8) (by exact k_162 hF) (by omega) ?_
  show Wp g mX9_work _ _ _ 8 _ [] _ Q
  refine r_aload_n dX9_work_8 rfl ?_
  refine r_iconst (0) dX9_work_9 rfl ?_
  refine r_putI dX9_work_10 (fpX9_27 _ rfl) rfl (by exact k_160 hF) ⟨rfl, rfl⟩ ?_
  refine r_aload_n dX9_work_13 rfl ?_
  refine r_getRc dX9_work_14 fgX9_31 rfl (by exact hp) (by exact hpt) ?_
  refine sa_2 dX9_work_17 (by first | rfl | assumption) (Nat.le_of_ble_eq_true rfl) ?_
  refine r_iconst (0) dX9_work_18 rfl ?_
  refine si_3 dX9_work_19 (by first | rfl | assumption) (Nat.le_of_ble_eq_true rfl) ?_
  refine Wp_m (m' := wkM m (exN (nmA m) (ldI m t) (wk0 m) 0)) (mm_ext (fun a b => ?_) (fun a b => ?_) rfl) (L_work hF hp hpt htk hL ht0 (σ := wk0 m) (by show 0 ≤ 64; omega) k L 0 _ _ _ _ _ rfl (by omega))
  · simp only [wkM, wk0, exN, fiL, ldI_stI, ldI_stRowL]; by_cases h : a = 160 ∧ b = 3 <;> simp [h, nI_0]
  · simp only [wkM, wk0, exN, fiL, ldL_stI, ldL_stRowL]; by_cases h : a = 162 <;> by_cases h2 : a = 163 <;> simp [h, h2]
