/-! the compiled steps do what the parser's values say -/
def exL (nm : Int32 → Int64) (l : List Int32) (σ : WS) : WS := l.foldl (fun σ x => exF nm x σ) σ
theorem exL_app (nm : Int32 → Int64) (l r : List Int32) (σ : WS) : exL nm (l ++ r) σ = exL nm r (exL nm l σ) := List.foldl_append
theorem exN_take {nm : Int32 → Int64} {l : List Int32} {σ : WS} : ∀ k, k ≤ l.length → exN nm (fun j => l.getD j 0) σ k = exL nm (l.take k) σ
  | 0, _ => by rw [List.take_zero]; rfl
  | k + 1, h => by
    show exF nm (l.getD k 0) (exN nm (fun j => l.getD j 0) σ k) = _
    rw [exN_take k (by omega), List.take_succ, exL_app, List.getElem?_eq_getElem (by omega), show l.getD k 0 = l[k] from by simp [List.getD_eq_getElem?_getD, List.getElem?_eq_getElem (show k < l.length by omega)]]
    rfl
theorem exN_l {nm : Int32 → Int64} {l : List Int32} {σ : WS} : exN nm (fun j => l.getD j 0) σ l.length = exL nm l σ := by rw [exN_take _ (Nat.le_refl _), List.take_length]
def Pu (σ : WS) (x : Int64) (σ' : WS) : Prop := σ'.2.1 = σ.2.1 + 1 ∧ σ'.2.2 = σ.2.2 ∧ σ'.1 σ.2.1 = x ∧ ∀ j, j < σ.2.1 → σ'.1 j = σ.1 j
def nmV (nm : Int32 → Int64) : Nat → Int64 := cut (fun i => nm (nI i))
def Cmp (D : Nat) (l : List Int32) (v : VF) : Prop := ∀ nm σ, σ.2.1 + D ≤ 64 → Pu σ (v (nmV nm)) (exL nm l σ)
theorem Cmp.mono {D D' : Nat} {l : List Int32} {v : VF} (h : Cmp D l v) (hd : D ≤ D') : Cmp D' l v := fun nm σ hs => h nm σ (by omega)
theorem psh_pu {v : Int64} {σ : WS} (h : σ.2.1 < 64) : Pu σ v (psh v σ) := by
  unfold psh; rw [if_pos h]
  exact ⟨rfl, rfl, if_pos rfl, fun j hj => if_neg (by omega)⟩
theorem nI_div {a : Nat} (h : a < 2147483648) : nI a / 512 = nI (a / 512) := Int32.toInt_inj.mp (by
  rw [Int32.toInt_div, nI_int a h, nI_int _ (by omega)]
  show Int.bmod ((a : Int).tdiv 512) (2 ^ 32) = _
  rw [Int.tdiv_eq_ediv_of_nonneg (by omega), Int.bmod_eq_of_le (by omega) (by omega)]; omega)
theorem nI_m512 {j t : Nat} (hj : j ≤ 9999) (ht : t < 512) : nI j * 512 + nI t = nI (512 * j + t) := Int32.toInt_inj.mp (by
  rw [Int32.toInt_add, Int32.toInt_mul, nI_int _ (by omega), nI_int _ (by omega), nI_int _ (by omega)]
  show Int.bmod (Int.bmod ((j : Int) * 512) (2 ^ 32) + t) (2 ^ 32) = _
  rw [Int.bmod_eq_of_le (n := (j : Int) * 512) (by omega) (by omega), Int.bmod_eq_of_le (by omega) (by omega)]; omega)
theorem x512 {j t : Nat} (hj : j ≤ 9999) (ht : t < 512) : (nI j * 512 + nI t) / 512 = nI j ∧ (nI j * 512 + nI t) - (nI j * 512 + nI t) / 512 * 512 = nI t := by
  have e1 : (nI j * 512 + nI t) / 512 = nI j := by rw [nI_m512 hj ht, nI_div (by omega), show (512 * j + t) / 512 = j from by omega]
  refine ⟨e1, ?_⟩
  rw [e1, ← Int32.toBitVec_inj]
  simp only [Int32.toBitVec_sub, Int32.toBitVec_add, Int32.toBitVec_mul]
  rw [BitVec.add_comm, BitVec.add_sub_cancel]
theorem nI_ne2 {a b : Nat} (h : a ≠ b) (ha : a < 2147483648) (hb : b < 2147483648) : ¬ nI a = nI b := fun q => h ((nI_eq ha hb).mp q)
theorem Cmp_num {v : Nat} (h : v ≤ 9999) : Cmp 1 [nI v * 512 + 1] (fun _ => (nI v).toInt64) := fun nm σ hs => by
  have e := x512 (j := v) (t := 1) h (by omega)
  show Pu σ _ (exF nm (nI v * 512 + nI 1) σ)
  unfold exF
  rw [e.2, e.1, if_pos (show nI 1 = 1 from rfl)]
  exact psh_pu (by omega)
theorem Cmp_name {j : Nat} (h : j < 10) : Cmp 1 [nI j * 512 + 2] (fun N => N j) := fun nm σ hs => by
  have e := x512 (j := j) (t := 2) (by omega) (by omega)
  show Pu σ (nmV nm j) (exF nm (nI j * 512 + nI 2) σ)
  unfold exF
  rw [e.2, e.1, if_neg (by decide), if_pos (show nI 2 = 2 from rfl), show nmV nm j = nm (nI j) from if_pos h]
  exact psh_pu (by omega)
def isOp (t : Int32) : Prop := t - t / 512 * 512 = t ∧ ¬ t = 1 ∧ ¬ t = 2 ∧ ¬ t = 3 ∧ ¬ t = 4 ∧ ¬ t = 276 ∧ ¬ t = 280
theorem exF_op {nm : Int32 → Int64} {t : Int32} {σ : WS} (h : isOp t) : exF nm t σ = psh (jnF t (ppV (ppS σ)) (ppV σ)) (ppS (ppS σ)) := by
  obtain ⟨h0, h1, h2, h3, h4, h5, h6⟩ := h
  unfold exF
  rw [h0, if_neg h1, if_neg h2, if_neg h3, if_neg h4, if_neg h5, if_neg h6]
theorem Cmp_bin {D1 D2 D : Nat} {l1 l2 : List Int32} {v1 v2 : VF} {t : Int32} (h1 : Cmp D1 l1 v1) (h2 : Cmp D2 l2 v2) (hD1 : D1 ≤ D) (hD2 : D2 + 1 ≤ D) (ht : isOp t) : Cmp D (l1 ++ l2 ++ [t]) (fun N => jnF t (v1 N) (v2 N)) := fun nm σ hs => by
  rw [exL_app, exL_app]
  obtain ⟨a1, a2, a3, a4⟩ := h1 nm σ (by omega)
  obtain ⟨b1, b2, b3, b4⟩ := h2 nm (exL nm l1 σ) (by omega)
  show Pu σ _ (exF nm t (exL nm l2 (exL nm l1 σ)))
  rw [exF_op ht]
  generalize exL nm l2 (exL nm l1 σ) = ρ at b1 b2 b3 b4 ⊢
  generalize exL nm l1 σ = τ at a1 a2 a3 a4 b1 b2 b3 b4
  have e1 : ppV ρ = v2 (nmV nm) := by unfold ppV; rw [if_pos (by omega), show ρ.2.1 - 1 = τ.2.1 from by omega]; exact b3
  have e2 : ppV (ppS ρ) = v1 (nmV nm) := by
    unfold ppV ppS
    show (if 0 < ρ.2.1 - 1 then ρ.1 (ρ.2.1 - 1 - 1) else 0) = _
    rw [if_pos (by omega), show ρ.2.1 - 1 - 1 = σ.2.1 from by omega, b4 _ (by omega)]; exact a3
  rw [e1, e2]
  have w := psh_pu (v := jnF t (v1 (nmV nm)) (v2 (nmV nm))) (σ := ppS (ppS ρ)) (show ρ.2.1 - 1 - 1 < 64 by omega)
  obtain ⟨c1, c2, c3, c4⟩ := w
  have z : (ppS (ppS ρ)).2.1 = σ.2.1 := (show ρ.2.1 - 1 - 1 = σ.2.1 by omega)
  rw [z] at c1 c3 c4
  exact ⟨c1, c2.trans (b2.trans a2), c3, fun j hj => (c4 j hj).trans ((b4 j (by omega)).trans (a4 j hj))⟩
theorem Cmp_un {D : Nat} {l : List Int32} {v : VF} {t : Int32} {u : Int64 → Int64} (hD : 1 ≤ D) (h : Cmp D l v) (hu : ∀ nm σ, exF nm t σ = psh (u (ppV σ)) (ppS σ)) : Cmp D (l ++ [t]) (fun N => u (v N)) := fun nm σ hs => by
  rw [exL_app]
  obtain ⟨a1, a2, a3, a4⟩ := h nm σ hs
  show Pu σ _ (exF nm t (exL nm l σ))
  rw [hu]
  generalize exL nm l σ = ρ at a1 a2 a3 a4 ⊢
  have e1 : ppV ρ = v (nmV nm) := by unfold ppV; rw [if_pos (by omega), show ρ.2.1 - 1 = σ.2.1 from by omega]; exact a3
  rw [e1]
  have z : (ppS ρ).2.1 = σ.2.1 := (show ρ.2.1 - 1 = σ.2.1 by omega)
  obtain ⟨c1, c2, c3, c4⟩ := psh_pu (v := u (v (nmV nm))) (σ := ppS ρ) (by rw [z]; omega)
  rw [z] at c1 c3 c4
  exact ⟨c1, c2.trans a2, c3, fun j hj => (c4 j hj).trans (a4 j hj)⟩
theorem exF_root {nm : Int32 → Int64} {σ : WS} : exF nm 276 σ = psh (rtF (ppV σ)) (ppS σ) := by
  unfold exF
  rw [if_neg (by decide), if_neg (by decide), if_neg (by decide), if_neg (by decide), if_pos (by decide)]
theorem exF_not {nm : Int32 → Int64} {σ : WS} : exF nm 280 σ = psh (if ppV σ = 0 then 1 else 0) (ppS σ) := by
  unfold exF
  rw [if_neg (by decide), if_neg (by decide), if_neg (by decide), if_neg (by decide), if_neg (by decide), if_pos (by decide)]
section Cp
variable {b : Nat → Int32} {n : Nat}
def CpF (D : Nat) (f : Nat → Rs) : Prop := ∀ s r, f s = .inr r → Cmp D r.2.1 r.2.2
theorem chL_c {D : Nat} {q : Nat → Rs} {J : Int32 → Bool} (hq : CpF D q) (hJ : ∀ t, J t = true → isOp t) : ∀ k (a z : Ok), Cmp (D + 1) a.2.1 a.2.2 → chL b n q J k a = .inr z → Cmp (D + 1) z.2.1 z.2.2
  | 0, a, z, h, e => by cases e; exact h
  | k + 1, a, z, h, e => by
    have e : (if J (tkP b n a.1) = true then rB (q (adP b n a.1)) (fun r => chL b n q J k (r.1, a.2.1 ++ r.2.1 ++ [tkP b n a.1], fun N => jnF (tkP b n a.1) (a.2.2 N) (r.2.2 N))) else .inr a) = .inr z := e
    by_cases c : J (tkP b n a.1) = true
    · rw [if_pos c] at e
      obtain ⟨r, r1, r2⟩ := rB_ok e
      exact chL_c hq hJ k (r.1, a.2.1 ++ r.2.1 ++ [tkP b n a.1], fun N => jnF (tkP b n a.1) (a.2.2 N) (r.2.2 N)) z (Cmp_bin h (hq _ r r1) (Nat.le_refl _) (Nat.le_refl _) (hJ _ c)) r2
    · rw [if_neg c] at e; cases e; exact h
theorem chn_c {D : Nat} {q : Nat → Rs} {J : Int32 → Bool} (hq : CpF D q) (hJ : ∀ t, J t = true → isOp t) : CpF (D + 1) (chn b n q J) := fun s z h => by
  obtain ⟨r, r1, r2⟩ := rB_ok h
  exact chL_c hq hJ n r z ((hq s r r1).mono (by omega)) r2
theorem op42 : isOp 42 := by unfold isOp; decide
theorem op43 : isOp 43 := by unfold isOp; decide
theorem op45 : isOp 45 := by unfold isOp; decide
theorem op47 : isOp 47 := by unfold isOp; decide
theorem op60 : isOp 60 := by unfold isOp; decide
theorem op61 : isOp 61 := by unfold isOp; decide
theorem op62 : isOp 62 := by unfold isOp; decide
theorem op274 : isOp 274 := by unfold isOp; decide
theorem op275 : isOp 275 := by unfold isOp; decide
theorem op278 : isOp 278 := by unfold isOp; decide
theorem op279 : isOp 279 := by unfold isOp; decide
theorem J0_op (t : Int32) (h : J0 t = true) : isOp t := by rw [of_decide_eq_true h]; exact op278
theorem J1_op (t : Int32) (h : J1 t = true) : isOp t := by rw [of_decide_eq_true h]; exact op279
theorem J2_op (t : Int32) (h : J2 t = true) : isOp t := by exact (of_decide_eq_true h).elim (fun q => q ▸ op43) (fun q => q ▸ op45)
theorem J3_op (t : Int32) (h : J3 t = true) : isOp t := by exact (of_decide_eq_true h).elim (fun q => q ▸ op42) (fun q => q ▸ op47)
theorem insP_c {D : Nat} {f : Option (Nat → Rs)} (hf : ∀ F, f = some F → CpF D F) {two : Bool} {s : Nat} {z : Nat × List Int32 × VF × VF} (h : insP b n f two s = .inr z) : (two = false → Cmp D z.2.1 z.2.2.1) ∧ (two = true → ∀ t, isOp t → Cmp (D + 1) (z.2.1 ++ [t]) (fun N => jnF t (z.2.2.1 N) (z.2.2.2 N))) := by
  unfold insP at h
  obtain ⟨h40, h⟩ := if_ok h
  cases f with
  | none => cases h
  | some F =>
    have hF := hf F rfl
    obtain ⟨r, r1, h⟩ := rB_ok h
    cases two with
    | true =>
      have h : (if tkP b n r.1 = 44 then rB (F (adP b n r.1)) (fun r2 => if tkP b n r2.1 = 41 then .inr (adP b n r2.1, r.2.1 ++ r2.2.1, r.2.2, r2.2.2) else .inl (1, r2.1)) else .inl (1, r.1)) = .inr z := h
      obtain ⟨h44, h⟩ := if_ok h
      obtain ⟨r2, r3, h⟩ := rB_ok h
      obtain ⟨h41, h⟩ := if_ok h
      cases h
      exact ⟨fun q => (by cases q), fun _ t ht => Cmp_bin (hF _ r r1) (hF _ r2 r3) (by omega) (Nat.le_refl _) ht⟩
    | false =>
      have h : (if tkP b n r.1 = 41 then (Sum.inr (adP b n r.1, r.2.1, r.2.2, r.2.2) : Er ⊕ (Nat × List Int32 × VF × VF)) else .inl (1, r.1)) = .inr z := h
      obtain ⟨h41, h⟩ := if_ok h
      cases h
      exact ⟨fun _ => hF _ r r1, fun q => (by cases q)⟩
theorem tk_name {x : Int32} (h : 264 ≤ x ∧ x ≤ 273) : ∃ j, j < 10 ∧ x - 264 = nI j := by
  have a := Int32.le_iff_toInt_le.mp h.1
  have c := Int32.le_iff_toInt_le.mp h.2
  have a1 : (264 : Int32).toInt = 264 := rfl
  have a2 : (273 : Int32).toInt = 273 := rfl
  refine ⟨(x.toInt - 264).toNat, by omega, Int32.toInt_inj.mp ?_⟩
  rw [Int32.toInt_sub, nI_int _ (by omega), a1, Int.bmod_eq_of_le (by omega) (by omega)]; omega
theorem untP_c {D : Nat} {f : Option (Nat → Rs)} (hf : ∀ F, f = some F → CpF D F) : CpF (D + 1) (untP b n f) := fun s z h => by
  unfold untP at h
  by_cases c1 : tkP b n s = -2
  · rw [if_pos c1] at h
    obtain ⟨c, h⟩ := if_ok h
    cases h
    obtain ⟨v, v1, v2⟩ := nm_le (b := b) (n := n) (s := s)
    have c9 : v ≤ 9999 := by rw [v2] at c; have := Int32.le_iff_toInt_le.mp c; rw [nI_int v (by omega)] at this; have a2 : (9999 : Int32).toInt = 9999 := rfl; omega
    have z := Cmp_num c9
    rw [← v2] at z
    exact z.mono (by omega)
  · rw [if_neg c1] at h
    by_cases c2 : 264 ≤ tkP b n s ∧ tkP b n s ≤ 273
    · rw [if_pos c2] at h
      cases h
      obtain ⟨j, j1, j2⟩ := tk_name c2
      show Cmp (D + 1) [(tkP b n s - 264) * 512 + 2] (fun N => N (tkP b n s - 264).toNatClampNeg)
      rw [j2, nI_cl j (by omega)]
      exact (Cmp_name j1).mono (by omega)
    · rw [if_neg c2] at h
      by_cases c3 : tkP b n s = 40
      · rw [if_pos c3] at h
        obtain ⟨r, r1, h⟩ := rB_ok h
        cases h
        exact ((insP_c hf r1).1 rfl).mono (by omega)
      · rw [if_neg c3] at h
        by_cases c4 : tkP b n s = 276
        · rw [if_pos c4] at h
          obtain ⟨r, r1, h⟩ := rB_ok h
          cases h
          exact Cmp_un (D := D + 1) (by omega) (((insP_c hf r1).1 rfl).mono (by omega)) (fun nm σ => exF_root)
        · rw [if_neg c4] at h
          obtain ⟨c5, h⟩ := if_ok h
          obtain ⟨r, r1, h⟩ := rB_ok h
          cases h
          refine (insP_c hf r1).2 rfl _ ?_
          rcases c5 with q | q <;> rw [q]
          · exact op274
          · exact op275
theorem sumP_c : ∀ u, CpF (3 + 3 * u) (sumP b n u)
  | 0 => chn_c (chn_c (untP_c (D := 0) (fun F h => by cases h)) J3_op) J2_op
  | u + 1 => chn_c (chn_c (untP_c (D := 3 + 3 * u) (fun F h => by cases h; exact sumP_c u)) J3_op) J2_op
theorem cmpP_c {D : Nat} {f : Nat → Rs} (hf : CpF D f) : CpF (D + 1) (cmpP b n f) := fun s z h => by
  obtain ⟨r, r1, h⟩ := rB_ok h
  obtain ⟨c, h⟩ := if_ok h
  obtain ⟨r2, r3, h⟩ := rB_ok h
  cases h
  refine Cmp_bin (hf _ r r1) (hf _ r2 r3) (by omega) (Nat.le_refl _) ?_
  rcases c with q | q | q <;> rw [q]
  · exact op60
  · exact op62
  · exact op61
theorem tesP_c : ∀ u, CpF (4 + 3 * u) (tesP b n u)
  | 0 => fun s z h => by
    have h : (if tkP b n s = 280 then .inl (3, s) else if tkP b n s = 91 then .inl (3, s) else cmpP b n (sumP b n 0) s) = .inr z := h
    by_cases c1 : tkP b n s = 280
    · rw [if_pos c1] at h; cases h
    · rw [if_neg c1] at h
      by_cases c2 : tkP b n s = 91
      · rw [if_pos c2] at h; cases h
      · rw [if_neg c2] at h; exact cmpP_c (sumP_c 0) s z h
  | u + 1 => fun s z h => by
    have h : (if tkP b n s = 280 then rB (tesP b n u (adP b n s)) (fun r => .inr (r.1, r.2.1 ++ [280], fun N => if r.2.2 N = 0 then 1 else 0)) else if tkP b n s = 91 then rB (chn b n (chn b n (tesP b n u) J1) J0 (adP b n s)) (fun r => if tkP b n r.1 = 93 then .inr (adP b n r.1, r.2.1, r.2.2) else .inl (1, r.1)) else cmpP b n (sumP b n (u + 1)) s) = .inr z := h
    by_cases c1 : tkP b n s = 280
    · rw [if_pos c1] at h
      obtain ⟨r, r1, h⟩ := rB_ok h
      cases h
      exact (Cmp_un (u := fun x => if x = 0 then 1 else 0) (by omega) (tesP_c u _ r r1) (fun nm σ => exF_not)).mono (by omega)
    · rw [if_neg c1] at h
      by_cases c2 : tkP b n s = 91
      · rw [if_pos c2] at h
        obtain ⟨r, r1, h⟩ := rB_ok h
        obtain ⟨c3, h⟩ := if_ok h
        cases h
        exact (chn_c (chn_c (tesP_c u) J1_op) J0_op _ r r1).mono (by omega)
      · rw [if_neg c2] at h; exact (cmpP_c (sumP_c (u + 1)) s z h).mono (by omega)
theorem orsP_c (u : Nat) : CpF (4 + 3 * u + 1 + 1) (orsP b n u) := chn_c (chn_c (tesP_c u) J1_op) J0_op
/-- a text's steps tell what the parser says -/
def TxOK (l : List Int32) (T : TL) : Prop := ∀ nm σ, σ.2.1 = 0 → (∀ j, j < 8 → σ.2.2 j = 0) → (exL nm l σ).2.1 = 0 ∧ ∀ j, j < 8 → (exL nm l σ).2.2 j = T (nmV nm) j
theorem w_nat {w : Int32} {way : Bool} (h : if way = true then 5 ≤ w ∧ w ≤ 7 else 0 ≤ w ∧ w ≤ 4) : ∃ j, j < 8 ∧ w = nI j := by
  have q : 0 ≤ w ∧ w ≤ 7 := by
    simp only [Int32.le_iff_toInt_le] at h ⊢
    have a0 : (0 : Int32).toInt = 0 := rfl
    have a4 : (4 : Int32).toInt = 4 := rfl
    have a5 : (5 : Int32).toInt = 5 := rfl
    have a7 : (7 : Int32).toInt = 7 := rfl
    cases way
    · have h : (0 : Int32).toInt ≤ w.toInt ∧ w.toInt ≤ (4 : Int32).toInt := h
      omega
    · have h : (5 : Int32).toInt ≤ w.toInt ∧ w.toInt ≤ (7 : Int32).toInt := h
      omega
  obtain ⟨j, hj, e⟩ := i32_small 7 (by omega) q.1 q.2
  exact ⟨j, by omega, e⟩
theorem nI_in8 {j : Nat} (h : j < 8) : 0 ≤ nI j ∧ nI j < 8 := ⟨i32_nlt.mp (nI_pos (by omega)), nI_lt (b := 8) h (by omega)⟩
theorem claP_c {way : Bool} {i s : Nat} {z : Nat × List Int32 × Int32 × VF × VF} (h : claP b n way i s = .inr z) {l : List Int32} {T : TL} (hT : TxOK l T) : TxOK (l ++ z.2.1) (tlT T z.2.2.1 z.2.2.2.1 z.2.2.2.2) := fun nm σ h0 h8 => by
  unfold claP at h
  obtain ⟨c0, h⟩ := if_ok h
  obtain ⟨w, w8, we⟩ := w_nat c0
  obtain ⟨t0, t8⟩ := hT nm σ h0 h8
  rw [exL_app]
  generalize exL nm l σ = τ at t0 t8 ⊢
  by_cases c1 : 16 ≤ i
  · rw [if_pos c1] at h; cases h
  · rw [if_neg c1] at h
    obtain ⟨r, hr, h⟩ := rB_ok h
    obtain ⟨a1, a2, a3, a4⟩ := sumP_c 6 _ r hr nm τ (by omega)
    rw [t0] at a1 a3
    by_cases c2 : tkP b n r.1 = 277
    · rw [if_pos c2] at h
      obtain ⟨c, hc, h⟩ := rB_ok h
      obtain ⟨c3, h⟩ := if_ok h
      cases h
      obtain ⟨b1, b2, b3, b4⟩ := orsP_c 6 _ c hc nm (exL nm r.2.1 τ) (by omega)
      rw [a1] at b1 b3 b4
      show (exL nm (r.2.1 ++ c.2.1 ++ [wrd b n s * 512 + 4]) τ).2.1 = 0 ∧ ∀ j, j < 8 → (exL nm (r.2.1 ++ c.2.1 ++ [wrd b n s * 512 + 4]) τ).2.2 j = tlT T (wrd b n s) r.2.2 c.2.2 (nmV nm) j
      rw [exL_app, exL_app]
      generalize exL nm r.2.1 τ = ρ at a1 a2 a3 a4 b1 b2 b3 b4 ⊢
      generalize exL nm c.2.1 ρ = θ at b1 b2 b3 b4 ⊢
      show (exF nm (wrd b n s * 512 + 4) θ).2.1 = 0 ∧ ∀ j, j < 8 → (exF nm (wrd b n s * 512 + 4) θ).2.2 j = _
      have e := x512 (j := w) (t := 4) (by omega) (by omega)
      have e9 : exF nm (wrd b n s * 512 + 4) θ = tlS (nI w) (ppV (ppS θ)) (if ppV θ = 0 then 0 else 1) (ppS (ppS θ)) := by
        rw [we]
        unfold exF
        rw [show nI w * 512 + 4 = nI w * 512 + nI 4 from rfl, e.2, e.1, if_neg (by decide), if_neg (by decide), if_neg (by decide), if_pos (show nI 4 = 4 from rfl)]
      have v2 : ppV θ = c.2.2 (nmV nm) := by unfold ppV; rw [if_pos (by omega), show θ.2.1 - 1 = 0 + 1 from by omega]; exact b3
      have v1 : ppV (ppS θ) = r.2.2 (nmV nm) := by
        show (if 0 < θ.2.1 - 1 then θ.1 (θ.2.1 - 1 - 1) else 0) = _
        rw [if_pos (by omega), show θ.2.1 - 1 - 1 = 0 from by omega, b4 0 (by omega)]; exact a3
      rw [e9, v1, v2, we]
      unfold tlS tlT
      have p8 := nI_in8 w8
      by_cases q : c.2.2 (nmV nm) = 0
      · rw [if_pos q, if_neg (fun z => z.1 rfl)]
        refine ⟨show θ.2.1 - 1 - 1 = 0 by omega, fun j hj => ?_⟩
        rw [if_neg (fun z => z.2 q)]
        show θ.2.2 j = _
        rw [b2, a2]; exact t8 j hj
      · rw [if_neg q, if_pos ⟨by decide, p8⟩]
        refine ⟨show θ.2.1 - 1 - 1 = 0 by omega, fun j hj => ?_⟩
        show (if j = (nI w).toNatClampNeg then r.2.2 (nmV nm) else θ.2.2 j) = _
        by_cases q2 : j = (nI w).toNatClampNeg
        · rw [if_pos q2, if_pos ⟨q2, q⟩]
        · rw [if_neg q2, if_neg (fun z => q2 z.1), b2, a2]; exact t8 j hj
    · rw [if_neg c2] at h
      obtain ⟨c3, h⟩ := if_ok h
      cases h
      show (exL nm (r.2.1 ++ [wrd b n s * 512 + 3]) τ).2.1 = 0 ∧ ∀ j, j < 8 → (exL nm (r.2.1 ++ [wrd b n s * 512 + 3]) τ).2.2 j = tlT T (wrd b n s) r.2.2 (fun _ => 1) (nmV nm) j
      rw [exL_app]
      generalize exL nm r.2.1 τ = θ at a1 a2 a3 a4 ⊢
      show (exF nm (wrd b n s * 512 + 3) θ).2.1 = 0 ∧ ∀ j, j < 8 → (exF nm (wrd b n s * 512 + 3) θ).2.2 j = _
      have e := x512 (j := w) (t := 3) (by omega) (by omega)
      have e9 : exF nm (wrd b n s * 512 + 3) θ = tlS (nI w) (ppV θ) 1 (ppS θ) := by
        rw [we]
        unfold exF
        rw [show nI w * 512 + 3 = nI w * 512 + nI 3 from rfl, e.2, e.1, if_neg (by decide), if_neg (by decide), if_pos (show nI 3 = 3 from rfl)]
      have v1 : ppV θ = r.2.2 (nmV nm) := by unfold ppV; rw [if_pos (by omega), show θ.2.1 - 1 = 0 from by omega]; exact a3
      rw [e9, v1, we]
      unfold tlS tlT
      have p8 := nI_in8 w8
      rw [if_pos ⟨by decide, p8⟩]
      refine ⟨show θ.2.1 - 1 = 0 by omega, fun j hj => ?_⟩
      show (if j = (nI w).toNatClampNeg then r.2.2 (nmV nm) else θ.2.2 j) = _
      by_cases q2 : j = (nI w).toNatClampNeg
      · rw [if_pos q2, if_pos ⟨q2, (show ¬ (1 : Int64) = 0 by decide)⟩]
      · rw [if_neg q2, if_neg (fun z => q2 z.1), a2]; exact t8 j hj
theorem txL_c {way : Bool} : ∀ k i (a : Nat × List Int32 × TL) (z : List Int32 × TL), TxOK a.2.1 a.2.2 → txL b n way k i a = .inr z → TxOK z.1 z.2
  | 0, i, a, z, h, e => by cases e; exact h
  | k + 1, i, a, z, h, e => by
    have e : (if tkP b n a.1 = -1 then .inr a.2 else rB (claP b n way i a.1) (fun r => txL b n way k (i + 1) (r.1, a.2.1 ++ r.2.1, tlT a.2.2 r.2.2.1 r.2.2.2.1 r.2.2.2.2))) = .inr z := e
    by_cases c : tkP b n a.1 = -1
    · rw [if_pos c] at e; cases e; exact h
    · rw [if_neg c] at e
      obtain ⟨r, r1, r2⟩ := rB_ok e
      exact txL_c k (i + 1) (r.1, a.2.1 ++ r.2.1, tlT a.2.2 r.2.2.1 r.2.2.2.1 r.2.2.2.2) z (claP_c r1 h) r2
theorem texP_c {way : Bool} {z : List Int32 × TL} (h : texP b n way = .inr z) : TxOK z.1 z.2 := txL_c 17 0 (rE b n isBl 0, [], fun _ _ => 0) z (fun nm σ h0 h8 => ⟨h0, h8⟩) h
end Cp
theorem exN_congr {nm : Int32 → Int64} {st st' : Nat → Int32} {σ : WS} : ∀ k, (∀ j, j < k → st j = st' j) → exN nm st σ k = exN nm st' σ k
  | 0, _ => rfl
  | k + 1, h => by
    show exF nm (st k) (exN nm st σ k) = exF nm (st' k) (exN nm st' σ k)
    rw [h k (by omega), exN_congr k (fun j hj => h j (by omega))]
theorem PgOK_of {st : Nat → Int32} {l : List Int32} {T : TL} (h : TxOK l T) (hs : ∀ j, j < l.length → st j = l.getD j 0) : PgOK st l.length T := fun nm σ h0 h8 j hj => by
  rw [exN_congr (st' := fun j => l.getD j 0) l.length hs, exN_l]
  exact (h nm σ h0 h8).2 j hj
