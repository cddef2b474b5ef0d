def vl (p : Nat → Nat) : Nat → Nat
  | 0 => 0
  | k + 1 => 27 * vl p k + p k
theorem vl_inj {p q : Nat → Nat} : ∀ k l, (∀ i, i < k → 1 ≤ p i ∧ p i ≤ 26) → (∀ i, i < l → 1 ≤ q i ∧ q i ≤ 26) → vl p k = vl q l → k = l ∧ ∀ i, i < k → p i = q i
  | 0, 0, _, _, _ => ⟨rfl, fun i hi => absurd hi (by omega)⟩
  | 0, l + 1, _, hq, e => by have := hq l (by omega); have e : 0 = 27 * vl q l + q l := e; omega
  | k + 1, 0, hp, _, e => by have := hp k (by omega); have e : 27 * vl p k + p k = 0 := e; omega
  | k + 1, l + 1, hp, hq, e => by
    have a := hp k (by omega)
    have c := hq l (by omega)
    have e : 27 * vl p k + p k = 27 * vl q l + q l := e
    obtain ⟨r, r2⟩ := vl_inj k l (fun i hi => hp i (by omega)) (fun i hi => hq i (by omega)) (by omega)
    subst r
    refine ⟨rfl, fun i hi => ?_⟩
    by_cases z : i = k
    · subst z; omega
    · exact r2 i (by omega)
theorem vl_lt {p : Nat → Nat} : ∀ k, (∀ i, i < k → p i ≤ 26) → vl p k < 27 ^ k
  | 0, _ => Nat.zero_lt_one
  | k + 1, h => by
    have a := h k (by omega)
    have c := vl_lt k (fun i hi => h i (by omega))
    show 27 * vl p k + p k < 27 ^ k * 27
    omega
theorem vl_congr {p q : Nat → Nat} : ∀ k, (∀ i, i < k → p i = q i) → vl p k = vl q k
  | 0, _ => rfl
  | k + 1, h => by show 27 * vl p k + p k = 27 * vl q k + q k; rw [vl_congr k (fun i hi => h i (by omega)), h k (by omega)]
def lt6 (b : Nat → Int32) (s i : Nat) : Nat := (b (s + i)).toNatClampNeg - 96
def wcR (b : Nat → Int32) (n s : Nat) : Int32 := if rE b n isLt s - s ≤ 6 then nI (vl (lt6 b s) (rE b n isLt s - s)) else -1
theorem lt_nat {x : Int32} (h : isLt x = true) : x = nI x.toNatClampNeg ∧ 97 ≤ x.toNatClampNeg ∧ x.toNatClampNeg ≤ 122 := by
  have q := of_decide_eq_true h
  have w := nI_of_iv (iv_mk q.1 q.2) (by decide)
  have e := iv_mk q.1 q.2
  unfold iv at e
  have a1 : (97 : Int32).toInt = 97 := rfl
  have a2 : (122 : Int32).toInt = 122 := rfl
  exact ⟨w.1, by omega, by omega⟩
theorem wEq_iff {b : Nat → Int32} {e : Nat} : ∀ (w : List Int32) (s : Nat), wEq b w s e = true ↔ (s + w.length = e ∧ ∀ i, i < w.length → b (s + i) = w.getD i 0)
  | [], s => by simp [wEq]
  | c :: w, s => by
    show (decide (s < e) && (decide (b s = c) && wEq b w (s + 1) e)) = true ↔ _
    rw [Bool.and_eq_true, Bool.and_eq_true, wEq_iff w (s + 1)]
    rw [List.length_cons]
    constructor
    · rintro ⟨h1, h2, h3, h4⟩
      refine ⟨by omega, fun i hi => ?_⟩
      cases i with
      | zero => exact of_decide_eq_true h2
      | succ i => rw [show s + (i + 1) = s + 1 + i from by omega]; exact h4 i (by omega)
    · rintro ⟨h1, h2⟩
      refine ⟨decide_eq_true (by omega), decide_eq_true (h2 0 (by omega)), by omega, fun i hi => ?_⟩
      rw [show s + 1 + i = s + (i + 1) from by omega]; exact h2 (i + 1) (by omega)
def wlt (i j : Nat) : Nat := ((wds.getD i []).getD j 0).toNatClampNeg - 96
def cdW (i : Nat) : Nat := vl (wlt i) (wds.getD i []).length
theorem wds_ok : ∀ i, i < 25 → (wds.getD i []).length ≤ 6 ∧ 1 ≤ (wds.getD i []).length ∧ ∀ j, j < (wds.getD i []).length → isLt ((wds.getD i []).getD j 0) = true := by decide +kernel
theorem wds_ne : ∀ i, i < 25 → ∀ j, j < i → wds.getD j [] ≠ wds.getD i [] := by decide +kernel
theorem wIx_hit {b : Nat → Int32} {s e : Nat} : ∀ (ws : List (List Int32)) (i k : Nat), i < ws.length → wEq b (ws.getD i []) s e = true → (∀ j, j < i → ¬ wEq b (ws.getD j []) s e = true) → wIx b s e ws k = nI (k + i)
  | [], i, k, h, _, _ => absurd h (by simp)
  | w :: ws, 0, k, h, h1, h2 => if_pos h1
  | w :: ws, i + 1, k, h, h1, h2 => by
    show (if wEq b w s e = true then nI k else wIx b s e ws (k + 1)) = _
    rw [if_neg (show ¬ wEq b w s e = true from h2 0 (by omega)), wIx_hit ws i (k + 1) (by rw [List.length_cons] at h; omega) h1 (fun j hj => h2 (j + 1) (by omega)), show k + 1 + i = k + (i + 1) from by omega]
theorem wIx_of {b : Nat → Int32} {s e : Nat} : ∀ (ws : List (List Int32)) (i k : Nat), k + ws.length < 2147483648 → i < ws.length → wIx b s e ws k = nI (k + i) → wEq b (ws.getD i []) s e = true
  | [], i, k, _, h, _ => absurd h (by simp)
  | w :: ws, i, k, hk, h, h1 => by
    have h1 : (if wEq b w s e = true then nI k else wIx b s e ws (k + 1)) = nI (k + i) := h1
    rw [List.length_cons] at hk h
    by_cases c : wEq b w s e = true
    · rw [if_pos c] at h1
      have : i = 0 := by have := (nI_eq (by omega) (by omega)).mp h1; omega
      subst this; exact c
    · rw [if_neg c] at h1
      cases i with
      | zero =>
        exfalso
        rcases wIx_cases (b := b) (s := s) (e := e) ws (k + 1) (by omega) with z | ⟨j, j1, j2, z⟩
        · rw [z] at h1; have := congrArg Int32.toInt h1; rw [nI_int _ (by omega)] at this; have y : (-3 : Int32).toInt = -3 := rfl; omega
        · rw [z] at h1; have := (nI_eq (by omega) (by omega)).mp h1; omega
      | succ i => exact wIx_of ws i (k + 1) (by omega) (by omega) (by rw [h1, show k + 1 + i = k + (i + 1) from by omega])
theorem wEq_w {b : Nat → Int32} {n s i : Nat} (hi : i < 25) : wEq b (wds.getD i []) s (rE b n isLt s) = true ↔ wcR b n s = nI (cdW i) := by
  obtain ⟨o1, o2, o3⟩ := wds_ok i hi
  have hl : ∀ j, j < rE b n isLt s - s → 1 ≤ lt6 b s j ∧ lt6 b s j ≤ 26 := fun j hj => by
    have := lt_nat (rE_i (b := b) (n := n) (P := isLt) (p := s) (j := s + j) (by omega) (by omega)).2
    unfold lt6; omega
  have hw : ∀ j, j < (wds.getD i []).length → 1 ≤ wlt i j ∧ wlt i j ≤ 26 := fun j hj => by
    have := lt_nat (o3 j hj)
    unfold wlt; omega
  have hcd : cdW i < 2147483648 := by
    have := vl_lt (p := wlt i) _ (fun j hj => (hw j hj).2)
    have : (27 : Nat) ^ (wds.getD i []).length ≤ 27 ^ 6 := Nat.pow_le_pow_right (by omega) o1
    unfold cdW; omega
  rw [wEq_iff]
  have hr := rE_le (b := b) (n := n) (P := isLt) (p := s)
  constructor
  · rintro ⟨h1, h2⟩
    unfold wcR
    rw [if_pos (by omega), show rE b n isLt s - s = (wds.getD i []).length from by omega]
    unfold cdW
    rw [vl_congr (p := lt6 b s) (q := wlt i) _ (fun j hj => by unfold lt6 wlt; rw [h2 j hj])]
  · intro h
    unfold wcR at h
    by_cases c : rE b n isLt s - s ≤ 6
    · rw [if_pos c] at h
      have lt : vl (lt6 b s) (rE b n isLt s - s) < 2147483648 := by
        have := vl_lt (p := lt6 b s) _ (fun j hj => (hl j hj).2)
        have : (27 : Nat) ^ (rE b n isLt s - s) ≤ 27 ^ 6 := Nat.pow_le_pow_right (by omega) c
        omega
      obtain ⟨r1, r2⟩ := vl_inj _ _ hl hw ((nI_eq (b := cdW i) lt hcd).mp h)
      refine ⟨by omega, fun j hj => ?_⟩
      have e := r2 j (by omega)
      have a := lt_nat (rE_i (b := b) (n := n) (P := isLt) (p := s) (j := s + j) (by omega) (by omega)).2
      have d := lt_nat (o3 j hj)
      unfold lt6 wlt at e
      rw [a.1, d.1, show (b (s + j)).toNatClampNeg = ((wds.getD i []).getD j 0).toNatClampNeg from by omega]
    · rw [if_neg c] at h
      have := congrArg Int32.toInt h; rw [nI_int _ (by omega)] at this; have y : (-1 : Int32).toInt = -1 := rfl; omega
theorem gd_eq {l : List Int32} {k : Nat} (h : k < l.length) : l.getD k 0 = l[k] := by simp [List.getD_eq_getElem?_getD, List.getElem?_eq_getElem h]
theorem tk_w {b : Nat → Int32} {n s i : Nat} (hb : ∀ j, j < n → iv 0 255 (b j)) (hi : i < 25) : tkP b n s = nI (256 + i) ↔ wcR b n s = nI (cdW i) := by
  obtain ⟨o1, o2, o3⟩ := wds_ok i hi
  rw [← wEq_w hi]
  have hlen : wds.length = 25 := by decide
  constructor
  · intro h
    by_cases c1 : n ≤ s
    · rw [tkP_end c1] at h; have := congrArg Int32.toInt h; rw [nI_int _ (by omega)] at this; have y : (-1 : Int32).toInt = -1 := rfl; omega
    · unfold tkP at h
      rw [if_neg c1] at h
      by_cases c2 : isDg (b s) = true
      · rw [if_pos c2] at h; have := congrArg Int32.toInt h; rw [nI_int _ (by omega)] at this; have y : (-2 : Int32).toInt = -2 := rfl; omega
      · rw [if_neg c2] at h
        by_cases c3 : isLt (b s) = true
        · rw [if_pos c3] at h; exact wIx_of wds i 256 (by omega) (by omega) h
        · rw [if_neg c3] at h
          have := hb s (by omega); unfold iv at this; rw [h, nI_int _ (by omega)] at this; omega
  · intro h
    have w := (wEq_iff _ _).mp h
    have hs : s < n ∧ isLt (b s) = true := rE_i (b := b) (n := n) (P := isLt) (p := s) (j := s) (Nat.le_refl _) (by omega)
    have hd : ¬ isDg (b s) = true := fun q => by
      have a := of_decide_eq_true hs.2
      have c := of_decide_eq_true q
      simp only [Int32.le_iff_toInt_le] at a c
      have a1 : (97 : Int32).toInt = 97 := rfl
      have a2 : (57 : Int32).toInt = 57 := rfl
      omega
    unfold tkP
    rw [if_neg (by omega), if_neg hd, if_pos hs.2]
    refine wIx_hit wds i 256 (by omega) h (fun j hj q => ?_)
    have w2 := (wEq_iff _ _).mp q
    refine wds_ne i hi j hj (List.ext_getElem (by omega) (fun k h1 h2 => ?_))
    have z1 := w.2 k h2
    have z2 := w2.2 k h1
    rw [gd_eq h2] at z1
    rw [gd_eq h1] at z2
    rw [← z1, ← z2]
def wcd (a b c d e f : Int32) : Int32 :=
  let v1 := 27 * a + b
  let v2 := if c = 0 then v1 else 27 * v1 + c
  let v3 := if d = 0 then v2 else 27 * v2 + d
  let v4 := if e = 0 then v3 else 27 * v3 + e
  if f = 0 then v4 else 27 * v4 + f
theorem S_X12_word {g : GG} {m : MM} {Q : Out → Prop} {a b c d e f : Int32} (k : Q (.inl (some (.int (wcd a b c d e f))), m)) : Cl g 0 0 0 mX12_word [.int a, .int b, .int c, .int d, .int e, .int f] m Q := by
  refine Cl.of rfl (by decide) (Nat.le_of_ble_eq_true rfl) ?_
  show Wp g mX12_word 0 0 0 0 [.int a, .int b, .int c, .int d, .int e, .int f, .retAddr 0] [] m Q
  refine r_bipush (27) dX12_word_0 rfl ?_
  refine r_iload_n dX12_word_2 rfl ?_
  refine r_imul dX12_word_3 ?_
  refine r_iload_n dX12_word_4 rfl ?_
  refine r_iadd dX12_word_5 ?_
  refine si_6 dX12_word_6 rfl (Nat.le_of_ble_eq_true rfl) ?_
  refine r_iload_n dX12_word_8 rfl ?_
  refine r_if_ne 17 dX12_word_9 rfl (fun h2 => ?_) (fun h2 => ?_)
  ·
    refine r_bipush (27) dX12_word_17 rfl ?_
    refine r_iload dX12_word_19 rfl ?_
    refine r_imul dX12_word_21 ?_
    refine r_iload_n dX12_word_22 rfl ?_
    refine r_iadd dX12_word_23 ?_
    refine si_6 dX12_word_24 rfl (Nat.le_of_ble_eq_true rfl) ?_
    refine r_iload_n dX12_word_26 rfl ?_
    refine r_if_ne 35 dX12_word_27 rfl (fun h3 => ?_) (fun h3 => ?_)
    ·
      refine r_bipush (27) dX12_word_35 rfl ?_
      refine r_iload dX12_word_37 rfl ?_
      refine r_imul dX12_word_39 ?_
      refine r_iload_n dX12_word_40 rfl ?_
      refine r_iadd dX12_word_41 ?_
      refine si_6 dX12_word_42 rfl (Nat.le_of_ble_eq_true rfl) ?_
      refine r_iload dX12_word_44 rfl ?_
      refine r_if_ne 54 dX12_word_46 rfl (fun h4 => ?_) (fun h4 => ?_)
      ·
        refine r_bipush (27) dX12_word_54 rfl ?_
        refine r_iload dX12_word_56 rfl ?_
        refine r_imul dX12_word_58 ?_
        refine r_iload dX12_word_59 rfl ?_
        refine r_iadd dX12_word_61 ?_
        refine si_6 dX12_word_62 rfl (Nat.le_of_ble_eq_true rfl) ?_
        refine r_iload dX12_word_64 rfl ?_
        refine r_if_ne 74 dX12_word_66 rfl (fun h5 => ?_) (fun h5 => ?_)
        ·
          refine r_bipush (27) dX12_word_74 rfl ?_
          refine r_iload dX12_word_76 rfl ?_
          refine r_imul dX12_word_78 ?_
          refine r_iload dX12_word_79 rfl ?_
          refine r_iadd dX12_word_81 ?_
          refine r_ireturn dX12_word_82 rfl rfl ?_
          unfold wcd at k; dsimp only at k; rw [if_neg h2, if_neg h3, if_neg h4, if_neg h5] at k; exact k
        ·
          refine r_iload dX12_word_69 rfl ?_
          refine r_goto 82 dX12_word_71 rfl ?_
          refine r_ireturn dX12_word_82 rfl rfl ?_
          unfold wcd at k; dsimp only at k; rw [if_neg h2, if_neg h3, if_neg h4, if_pos h5] at k; exact k
      ·
        refine r_iload dX12_word_49 rfl ?_
        refine r_goto 62 dX12_word_51 rfl ?_
        refine si_6 dX12_word_62 rfl (Nat.le_of_ble_eq_true rfl) ?_
        refine r_iload dX12_word_64 rfl ?_
        refine r_if_ne 74 dX12_word_66 rfl (fun h5 => ?_) (fun h5 => ?_)
        ·
          refine r_bipush (27) dX12_word_74 rfl ?_
          refine r_iload dX12_word_76 rfl ?_
          refine r_imul dX12_word_78 ?_
          refine r_iload dX12_word_79 rfl ?_
          refine r_iadd dX12_word_81 ?_
          refine r_ireturn dX12_word_82 rfl rfl ?_
          unfold wcd at k; dsimp only at k; rw [if_neg h2, if_neg h3, if_pos h4, if_neg h5] at k; exact k
        ·
          refine r_iload dX12_word_69 rfl ?_
          refine r_goto 82 dX12_word_71 rfl ?_
          refine r_ireturn dX12_word_82 rfl rfl ?_
          unfold wcd at k; dsimp only at k; rw [if_neg h2, if_neg h3, if_pos h4, if_pos h5] at k; exact k
    ·
      refine r_iload dX12_word_30 rfl ?_
      refine r_goto 42 dX12_word_32 rfl ?_
      refine si_6 dX12_word_42 rfl (Nat.le_of_ble_eq_true rfl) ?_
      refine r_iload dX12_word_44 rfl ?_
      refine r_if_ne 54 dX12_word_46 rfl (fun h4 => ?_) (fun h4 => ?_)
      ·
        refine r_bipush (27) dX12_word_54 rfl ?_
        refine r_iload dX12_word_56 rfl ?_
        refine r_imul dX12_word_58 ?_
        refine r_iload dX12_word_59 rfl ?_
        refine r_iadd dX12_word_61 ?_
        refine si_6 dX12_word_62 rfl (Nat.le_of_ble_eq_true rfl) ?_
        refine r_iload dX12_word_64 rfl ?_
        refine r_if_ne 74 dX12_word_66 rfl (fun h5 => ?_) (fun h5 => ?_)
        ·
          refine r_bipush (27) dX12_word_74 rfl ?_
          refine r_iload dX12_word_76 rfl ?_
          refine r_imul dX12_word_78 ?_
          refine r_iload dX12_word_79 rfl ?_
          refine r_iadd dX12_word_81 ?_
          refine r_ireturn dX12_word_82 rfl rfl ?_
          unfold wcd at k; dsimp only at k; rw [if_neg h2, if_pos h3, if_neg h4, if_neg h5] at k; exact k
        ·
          refine r_iload dX12_word_69 rfl ?_
          refine r_goto 82 dX12_word_71 rfl ?_
          refine r_ireturn dX12_word_82 rfl rfl ?_
          unfold wcd at k; dsimp only at k; rw [if_neg h2, if_pos h3, if_neg h4, if_pos h5] at k; exact k
      ·
        refine r_iload dX12_word_49 rfl ?_
        refine r_goto 62 dX12_word_51 rfl ?_
        refine si_6 dX12_word_62 rfl (Nat.le_of_ble_eq_true rfl) ?_
        refine r_iload dX12_word_64 rfl ?_
        refine r_if_ne 74 dX12_word_66 rfl (fun h5 => ?_) (fun h5 => ?_)
        ·
          refine r_bipush (27) dX12_word_74 rfl ?_
          refine r_iload dX12_word_76 rfl ?_
          refine r_imul dX12_word_78 ?_
          refine r_iload dX12_word_79 rfl ?_
          refine r_iadd dX12_word_81 ?_
          refine r_ireturn dX12_word_82 rfl rfl ?_
          unfold wcd at k; dsimp only at k; rw [if_neg h2, if_pos h3, if_pos h4, if_neg h5] at k; exact k
        ·
          refine r_iload dX12_word_69 rfl ?_
          refine r_goto 82 dX12_word_71 rfl ?_
          refine r_ireturn dX12_word_82 rfl rfl ?_
          unfold wcd at k; dsimp only at k; rw [if_neg h2, if_pos h3, if_pos h4, if_pos h5] at k; exact k
  ·
    refine r_iload dX12_word_12 rfl ?_
    refine r_goto 24 dX12_word_14 rfl ?_
    refine si_6 dX12_word_24 rfl (Nat.le_of_ble_eq_true rfl) ?_
    refine r_iload_n dX12_word_26 rfl ?_
    refine r_if_ne 35 dX12_word_27 rfl (fun h3 => ?_) (fun h3 => ?_)
    ·
      refine r_bipush (27) dX12_word_35 rfl ?_
      refine r_iload dX12_word_37 rfl ?_
      refine r_imul dX12_word_39 ?_
      refine r_iload_n dX12_word_40 rfl ?_
      refine r_iadd dX12_word_41 ?_
      refine si_6 dX12_word_42 rfl (Nat.le_of_ble_eq_true rfl) ?_
      refine r_iload dX12_word_44 rfl ?_
      refine r_if_ne 54 dX12_word_46 rfl (fun h4 => ?_) (fun h4 => ?_)
      ·
        refine r_bipush (27) dX12_word_54 rfl ?_
        refine r_iload dX12_word_56 rfl ?_
        refine r_imul dX12_word_58 ?_
        refine r_iload dX12_word_59 rfl ?_
        refine r_iadd dX12_word_61 ?_
        refine si_6 dX12_word_62 rfl (Nat.le_of_ble_eq_true rfl) ?_
        refine r_iload dX12_word_64 rfl ?_
        refine r_if_ne 74 dX12_word_66 rfl (fun h5 => ?_) (fun h5 => ?_)
        ·
          refine r_bipush (27) dX12_word_74 rfl ?_
          refine r_iload dX12_word_76 rfl ?_
          refine r_imul dX12_word_78 ?_
          refine r_iload dX12_word_79 rfl ?_
          refine r_iadd dX12_word_81 ?_
          refine r_ireturn dX12_word_82 rfl rfl ?_
          unfold wcd at k; dsimp only at k; rw [if_pos h2, if_neg h3, if_neg h4, if_neg h5] at k; exact k
        ·
          refine r_iload dX12_word_69 rfl ?_
          refine r_goto 82 dX12_word_71 rfl ?_
          refine r_ireturn dX12_word_82 rfl rfl ?_
          unfold wcd at k; dsimp only at k; rw [if_pos h2, if_neg h3, if_neg h4, if_pos h5] at k; exact k
      ·
        refine r_iload dX12_word_49 rfl ?_
        refine r_goto 62 dX12_word_51 rfl ?_
        refine si_6 dX12_word_62 rfl (Nat.le_of_ble_eq_true rfl) ?_
        refine r_iload dX12_word_64 rfl ?_
        refine r_if_ne 74 dX12_word_66 rfl (fun h5 => ?_) (fun h5 => ?_)
        ·
          refine r_bipush (27) dX12_word_74 rfl ?_
          refine r_iload dX12_word_76 rfl ?_
          refine r_imul dX12_word_78 ?_
          refine r_iload dX12_word_79 rfl ?_
          refine r_iadd dX12_word_81 ?_
          refine r_ireturn dX12_word_82 rfl rfl ?_
          unfold wcd at k; dsimp only at k; rw [if_pos h2, if_neg h3, if_pos h4, if_neg h5] at k; exact k
        ·
          refine r_iload dX12_word_69 rfl ?_
          refine r_goto 82 dX12_word_71 rfl ?_
          refine r_ireturn dX12_word_82 rfl rfl ?_
          unfold wcd at k; dsimp only at k; rw [if_pos h2, if_neg h3, if_pos h4, if_pos h5] at k; exact k
    ·
      refine r_iload dX12_word_30 rfl ?_
      refine r_goto 42 dX12_word_32 rfl ?_
      refine si_6 dX12_word_42 rfl (Nat.le_of_ble_eq_true rfl) ?_
      refine r_iload dX12_word_44 rfl ?_
      refine r_if_ne 54 dX12_word_46 rfl (fun h4 => ?_) (fun h4 => ?_)
      ·
        refine r_bipush (27) dX12_word_54 rfl ?_
        refine r_iload dX12_word_56 rfl ?_
        refine r_imul dX12_word_58 ?_
        refine r_iload dX12_word_59 rfl ?_
        refine r_iadd dX12_word_61 ?_
        refine si_6 dX12_word_62 rfl (Nat.le_of_ble_eq_true rfl) ?_
        refine r_iload dX12_word_64 rfl ?_
        refine r_if_ne 74 dX12_word_66 rfl (fun h5 => ?_) (fun h5 => ?_)
        ·
          refine r_bipush (27) dX12_word_74 rfl ?_
          refine r_iload dX12_word_76 rfl ?_
          refine r_imul dX12_word_78 ?_
          refine r_iload dX12_word_79 rfl ?_
          refine r_iadd dX12_word_81 ?_
          refine r_ireturn dX12_word_82 rfl rfl ?_
          unfold wcd at k; dsimp only at k; rw [if_pos h2, if_pos h3, if_neg h4, if_neg h5] at k; exact k
        ·
          refine r_iload dX12_word_69 rfl ?_
          refine r_goto 82 dX12_word_71 rfl ?_
          refine r_ireturn dX12_word_82 rfl rfl ?_
          unfold wcd at k; dsimp only at k; rw [if_pos h2, if_pos h3, if_neg h4, if_pos h5] at k; exact k
      ·
        refine r_iload dX12_word_49 rfl ?_
        refine r_goto 62 dX12_word_51 rfl ?_
        refine si_6 dX12_word_62 rfl (Nat.le_of_ble_eq_true rfl) ?_
        refine r_iload dX12_word_64 rfl ?_
        refine r_if_ne 74 dX12_word_66 rfl (fun h5 => ?_) (fun h5 => ?_)
        ·
          refine r_bipush (27) dX12_word_74 rfl ?_
          refine r_iload dX12_word_76 rfl ?_
          refine r_imul dX12_word_78 ?_
          refine r_iload dX12_word_79 rfl ?_
          refine r_iadd dX12_word_81 ?_
          refine r_ireturn dX12_word_82 rfl rfl ?_
          unfold wcd at k; dsimp only at k; rw [if_pos h2, if_pos h3, if_pos h4, if_neg h5] at k; exact k
        ·
          refine r_iload dX12_word_69 rfl ?_
          refine r_goto 82 dX12_word_71 rfl ?_
          refine r_ireturn dX12_word_82 rfl rfl ?_
          unfold wcd at k; dsimp only at k; rw [if_pos h2, if_pos h3, if_pos h4, if_pos h5] at k; exact k
theorem wc_step {v d : Nat} (h : v ≤ 14348906) (h1 : 97 ≤ d) (h2 : d ≤ 122) : (27 * nI v + nI d - 97 + 1 : Int32) = nI (27 * v + (d - 96)) := Int32.toInt_inj.mp (by
  rw [Int32.toInt_add, Int32.toInt_sub, Int32.toInt_add, Int32.toInt_mul, nI_int _ (by omega), nI_int _ (by omega), nI_int _ (by omega)]
  show Int.bmod (Int.bmod (Int.bmod (Int.bmod (27 * (v : Int)) (2 ^ 32) + d) (2 ^ 32) - 97) (2 ^ 32) + 1) (2 ^ 32) = _
  rw [Int.bmod_eq_of_le (n := 27 * (v : Int)) (by omega) (by omega), Int.bmod_eq_of_le (n := 27 * (v : Int) + d) (by omega) (by omega), Int.bmod_eq_of_le (n := 27 * (v : Int) + d - 97) (by omega) (by omega), Int.bmod_eq_of_le (by omega) (by omega)]; omega)
theorem nI_ad2 {a c : Nat} (h : a + c < 2147483648) : nI a + nI c = nI (a + c) := Int32.toInt_inj.mp (by
  rw [Int32.toInt_add, nI_int _ (by omega), nI_int _ (by omega), nI_int _ (by omega)]
  rw [Int.bmod_eq_of_le (by omega) (by omega)]; omega)
theorem L_rwd {g : GG} {Q : Out → Prop} {b : Nat → Int32} {n s : Nat} {m : MM} (hT : TxB b n m) (hs : s ≤ n) (h4 : ldI m 167 4 = nI s) (k : Q (.inl (some (.int (wcR b n s))), m)) : ∀ (t i : Nat), rE b n isLt s - s = i + t → Wp g mX12_wordHere 2 0 0 8 [.ref 167, .int (nI (vl (lt6 b s) (min i 6))), .int (nI i)] [] m Q := by
  have hF := hT.1
  have hn := hT.2.1
  have hen := rE_n (b := b) (P := isLt) hs
  have hse := rE_le (b := b) (n := n) (P := isLt) (p := s)
  have hl : ∀ j, j < rE b n isLt s - s → 97 ≤ (b (s + j)).toNatClampNeg ∧ (b (s + j)).toNatClampNeg ≤ 122 ∧ b (s + j) = nI (b (s + j)).toNatClampNeg := fun j hj => by
    have := lt_nat (rE_i (b := b) (n := n) (P := isLt) (p := s) (j := s + j) (by omega) (by omega)).2
    exact ⟨this.2.1, this.2.2, this.1⟩
  intro t
  induction t with
  | zero =>
    intro i hi
    have hstop := rE_s (b := b) (n := n) (P := isLt) (p := s)
    rw [show rE b n isLt s = s + i from by omega] at hstop
    refine r_aload_n dX12_wordHere_8 rfl ?_
    refine r_aload_n dX12_wordHere_9 rfl ?_
    refine r_getIc (nI s) dX12_wordHere_10 fgX12_117 rfl (by exact k_167 hF) (by exact h4) ?_
    refine r_iload_n dX12_wordHere_13 rfl ?_
    refine r_iadd dX12_wordHere_14 ?_
    refine r_callV1 (ci := 12) (d1 := 0) (c1 := 0) (n1 := 0) dX12_wordHere_15 mvX12_120 rfl ⟨(Nat.le_of_ble_eq_true rfl), rfl⟩ (Nat.le_of_ble_eq_true rfl) (by exact Nat.le_of_ble_eq_true rfl) (by exact k_167 hF) ?_
    rw [nI_ad2 (a := s) (c := i) (by omega)]
    refine S_byteAt hT (k := s + i) (by omega) ?_
    show Wp g mX12_wordHere _ _ _ 18 _ (_ :: _) _ Q
    refine r_bipush (97) dX12_wordHere_18 rfl ?_
    refine r_icmp_lt 75 dX12_wordHere_20 rfl (fun h1 => ?_) (fun h1 => ?_)
    ·
      refine r_iload_n dX12_wordHere_75 rfl ?_
      refine r_bipush (6) dX12_wordHere_76 rfl ?_
      refine r_icmp_le 85 dX12_wordHere_78 rfl (fun hle => ?_) (fun hle => ?_)
      ·
        refine r_iload_n dX12_wordHere_85 rfl ?_
        refine r_ireturn dX12_wordHere_86 rfl rfl ?_
        have i6 : i ≤ 6 := Nat.le_of_not_lt (fun z => i32_nle.mpr (nI_lt (a := 6) (b := i) z (by omega)) hle)
        unfold wcR at k; rw [if_pos (by omega), show rE b n isLt s - s = i from by omega] at k; rw [Nat.min_eq_left i6]; exact k
      ·
        refine r_iconst (-1) dX12_wordHere_81 rfl ?_
        refine r_goto 86 dX12_wordHere_82 rfl ?_
        refine r_ireturn dX12_wordHere_86 rfl rfl ?_
        have i6 : ¬ i ≤ 6 := fun z => hle (nI_le (a := i) (b := 6) z (by omega))
        unfold wcR at k; rw [if_neg (by omega)] at k; exact k
    ·
      refine r_aload_n dX12_wordHere_23 rfl ?_
      refine r_aload_n dX12_wordHere_24 rfl ?_
      refine r_getIc (nI s) dX12_wordHere_25 fgX12_117 rfl (by exact k_167 hF) (by exact h4) ?_
      refine r_iload_n dX12_wordHere_28 rfl ?_
      refine r_iadd dX12_wordHere_29 ?_
      refine r_callV1 (ci := 12) (d1 := 0) (c1 := 0) (n1 := 0) dX12_wordHere_30 mvX12_120 rfl ⟨(Nat.le_of_ble_eq_true rfl), rfl⟩ (Nat.le_of_ble_eq_true rfl) (by exact Nat.le_of_ble_eq_true rfl) (by exact k_167 hF) ?_
      rw [nI_ad2 (a := s) (c := i) (by omega)]
      refine S_byteAt hT (k := s + i) (by omega) ?_
      show Wp g mX12_wordHere _ _ _ 33 _ (_ :: _) _ Q
      refine r_bipush (122) dX12_wordHere_33 rfl ?_
      refine r_icmp_gt 75 dX12_wordHere_35 rfl (fun h2 => ?_) (fun h2 => ?_)
      ·
        refine r_iload_n dX12_wordHere_75 rfl ?_
        refine r_bipush (6) dX12_wordHere_76 rfl ?_
        refine r_icmp_le 85 dX12_wordHere_78 rfl (fun hle => ?_) (fun hle => ?_)
        ·
          refine r_iload_n dX12_wordHere_85 rfl ?_
          refine r_ireturn dX12_wordHere_86 rfl rfl ?_
          have i6 : i ≤ 6 := Nat.le_of_not_lt (fun z => i32_nle.mpr (nI_lt (a := 6) (b := i) z (by omega)) hle)
          unfold wcR at k; rw [if_pos (by omega), show rE b n isLt s - s = i from by omega] at k; rw [Nat.min_eq_left i6]; exact k
        ·
          refine r_iconst (-1) dX12_wordHere_81 rfl ?_
          refine r_goto 86 dX12_wordHere_82 rfl ?_
          refine r_ireturn dX12_wordHere_86 rfl rfl ?_
          have i6 : ¬ i ≤ 6 := fun z => hle (nI_le (a := i) (b := 6) z (by omega))
          unfold wcR at k; rw [if_neg (by omega)] at k; exact k
      ·
        exact absurd (byB_lt.mp ⟨i32_nlt.mp h1, i32_nlt.mp h2⟩) hstop
  | succ t ih =>
    intro i hi
    have hgo := rE_i (b := b) (n := n) (P := isLt) (p := s) (j := s + i) (by omega) (by omega)
    have hb3 := byB_lt.mpr hgo
    have hbb : byB b n (s + i) = b (s + i) := if_pos hgo.1
    have w := hl i (by omega)
    refine r_aload_n dX12_wordHere_8 rfl ?_
    refine r_aload_n dX12_wordHere_9 rfl ?_
    refine r_getIc (nI s) dX12_wordHere_10 fgX12_117 rfl (by exact k_167 hF) (by exact h4) ?_
    refine r_iload_n dX12_wordHere_13 rfl ?_
    refine r_iadd dX12_wordHere_14 ?_
    refine r_callV1 (ci := 12) (d1 := 0) (c1 := 0) (n1 := 0) dX12_wordHere_15 mvX12_120 rfl ⟨(Nat.le_of_ble_eq_true rfl), rfl⟩ (Nat.le_of_ble_eq_true rfl) (by exact Nat.le_of_ble_eq_true rfl) (by exact k_167 hF) ?_
    rw [nI_ad2 (a := s) (c := i) (by omega)]
    refine S_byteAt hT (k := s + i) (by omega) ?_
    show Wp g mX12_wordHere _ _ _ 18 _ (_ :: _) _ Q
    refine r_bipush (97) dX12_wordHere_18 rfl ?_
    refine r_icmp_lt 75 dX12_wordHere_20 rfl (fun h1 => ?_) (fun h1 => ?_)
    ·
      exact absurd h1 (i32_nlt.mpr hb3.1)
    ·
      refine r_aload_n dX12_wordHere_23 rfl ?_
      refine r_aload_n dX12_wordHere_24 rfl ?_
      refine r_getIc (nI s) dX12_wordHere_25 fgX12_117 rfl (by exact k_167 hF) (by exact h4) ?_
      refine r_iload_n dX12_wordHere_28 rfl ?_
      refine r_iadd dX12_wordHere_29 ?_
      refine r_callV1 (ci := 12) (d1 := 0) (c1 := 0) (n1 := 0) dX12_wordHere_30 mvX12_120 rfl ⟨(Nat.le_of_ble_eq_true rfl), rfl⟩ (Nat.le_of_ble_eq_true rfl) (by exact Nat.le_of_ble_eq_true rfl) (by exact k_167 hF) ?_
      rw [nI_ad2 (a := s) (c := i) (by omega)]
      refine S_byteAt hT (k := s + i) (by omega) ?_
      show Wp g mX12_wordHere _ _ _ 33 _ (_ :: _) _ Q
      refine r_bipush (122) dX12_wordHere_33 rfl ?_
      refine r_icmp_gt 75 dX12_wordHere_35 rfl (fun h2 => ?_) (fun h2 => ?_)
      ·
        exact absurd h2 (i32_nlt.mpr hb3.2)
      ·
        refine r_iload_n dX12_wordHere_38 rfl ?_
        refine r_bipush (6) dX12_wordHere_39 rfl ?_
        refine r_icmp_ge 67 dX12_wordHere_41 rfl (fun h6 => ?_) (fun h6 => ?_)
        ·
          refine r_iload_n dX12_wordHere_67 rfl ?_
          refine si_1 dX12_wordHere_68 rfl (Nat.le_of_ble_eq_true rfl) ?_
          refine ic_2 (1) dX12_wordHere_69 rfl rfl (Nat.le_of_ble_eq_true rfl) ?_
          refine r_goto 8 dX12_wordHere_72 rfl ?_
          have i6 : 6 ≤ i := Nat.le_of_not_lt (fun z => absurd h6 (nI_ge (b := 6) z (by omega)))
          have k9 := ih (i + 1) (by omega)
          rw [show min (i + 1) 6 = min i 6 from by omega, ← nI_1 i] at k9; exact k9
        ·
          refine r_bipush (27) dX12_wordHere_44 rfl ?_
          refine r_iload_n dX12_wordHere_46 rfl ?_
          refine r_imul dX12_wordHere_47 ?_
          refine r_aload_n dX12_wordHere_48 rfl ?_
          refine r_aload_n dX12_wordHere_49 rfl ?_
          refine r_getIc (nI s) dX12_wordHere_50 fgX12_117 rfl (by exact k_167 hF) (by exact h4) ?_
          refine r_iload_n dX12_wordHere_53 rfl ?_
          refine r_iadd dX12_wordHere_54 ?_
          refine r_callV1 (ci := 12) (d1 := 0) (c1 := 0) (n1 := 0) dX12_wordHere_55 mvX12_120 rfl ⟨(Nat.le_of_ble_eq_true rfl), rfl⟩ (Nat.le_of_ble_eq_true rfl) (by exact Nat.le_of_ble_eq_true rfl) (by exact k_167 hF) ?_
          rw [nI_ad2 (a := s) (c := i) (by omega)]
          refine S_byteAt hT (k := s + i) (by omega) ?_
          show Wp g mX12_wordHere _ _ _ 58 _ (_ :: _) _ Q
          refine r_iadd dX12_wordHere_58 ?_
          refine r_bipush (97) dX12_wordHere_59 rfl ?_
          refine r_isub dX12_wordHere_61 ?_
          refine r_iconst (1) dX12_wordHere_62 rfl ?_
          refine r_iadd dX12_wordHere_63 ?_
          refine r_goto 68 dX12_wordHere_64 rfl ?_
          refine si_1 dX12_wordHere_68 rfl (Nat.le_of_ble_eq_true rfl) ?_
          refine ic_2 (1) dX12_wordHere_69 rfl rfl (Nat.le_of_ble_eq_true rfl) ?_
          refine r_goto 8 dX12_wordHere_72 rfl ?_
          have i6 : i < 6 := Nat.lt_of_not_le (fun z => h6 (nI_le (a := 6) (b := i) z (by omega)))
          have k9 := ih (i + 1) (by omega)
          have hv : vl (lt6 b s) i ≤ 14348906 := by have q := vl_lt (p := lt6 b s) i (fun j hj => by have := hl j (by omega); unfold lt6; omega); have : (27 : Nat) ^ i ≤ 27 ^ 5 := Nat.pow_le_pow_right (by omega) (by omega); omega
          rw [show min (i + 1) 6 = i + 1 from by omega, show vl (lt6 b s) (i + 1) = 27 * vl (lt6 b s) i + ((b (s + i)).toNatClampNeg - 96) from rfl, ← wc_step hv w.1 w.2.1, ← w.2.2, ← nI_1 i] at k9
          rw [hbb, Nat.min_eq_left (by omega)]; exact k9
theorem S_X12_wordHere {g : GG} {m : MM} {Q : Out → Prop} {b : Nat → Int32} {n a o : Nat} (h : RPa b n a o m) (k : ∀ m', Sy m m' → RPa b n (rE b n isBl a) o m' → Q (.inl (some (.int (wcR b n (rE b n isBl a)))), m')) : Cl g 2 0 0 mX12_wordHere [.ref 167] m Q := by
  refine Cl.of rfl (by decide) (Nat.le_of_ble_eq_true rfl) ?_
  show Wp g mX12_wordHere 2 0 0 0 [.ref 167, .retAddr 0, .retAddr 0] [] m Q
  have hF := h.1.1
  refine r_aload_n dX12_wordHere_0 rfl ?_
  refine r_callV0 (ci := 12) (d1 := 1) (c1 := 0) (n1 := 0) dX12_wordHere_1 mvX12_145 rfl ⟨(Nat.le_of_ble_eq_true rfl), rfl⟩ (Nat.le_of_ble_eq_true rfl) (by exact Nat.le_of_ble_eq_true rfl) (by exact k_167 hF) ?_
  refine S_blanksP h (fun m1 s1 h1 => ?_)
  have hT := h1.1
  have hF := hT.1
  show Wp g mX12_wordHere _ _ _ 4 _ [] _ Q
  refine r_iconst (0) dX12_wordHere_4 rfl ?_
  refine si_1 dX12_wordHere_5 rfl (Nat.le_of_ble_eq_true rfl) ?_
  refine r_iconst (0) dX12_wordHere_6 rfl ?_
  refine si_2 dX12_wordHere_7 rfl (Nat.le_of_ble_eq_true rfl) ?_
  exact L_rwd hT h1.2.2.1 h1.2.1 (k m1 s1 h1) _ 0 (Nat.zero_add _).symm
theorem S_isWordP {g : GG} {m : MM} {Q : Out → Prop} {b : Nat → Int32} {n a o : Nat} (h : RPa b n a o m) {x y z u v w : Int32} (k1 : wcR b n (rE b n isBl a) = wcd x y z u v w → ∀ m', Sy m m' → RPa b n (rE b n isBl a) o m' → Q (.inl (some (.int 1)), m')) (k0 : ¬ wcR b n (rE b n isBl a) = wcd x y z u v w → ∀ m', Sy m m' → RPa b n (rE b n isBl a) o m' → Q (.inl (some (.int 0)), m')) : Cl g 3 0 0 mX12_isWord [.ref 167, .int x, .int y, .int z, .int u, .int v, .int w] m Q := by
  refine Cl.of rfl (by decide) (Nat.le_of_ble_eq_true rfl) ?_
  show Wp g mX12_isWord 3 0 0 0 [.ref 167, .int x, .int y, .int z, .int u, .int v, .int w] [] m Q
  have hF := h.1.1
  refine r_aload_n dX12_isWord_0 rfl ?_
  refine r_callV0 (ci := 12) (d1 := 2) (c1 := 0) (n1 := 0) dX12_isWord_1 mvX12_148 rfl ⟨(Nat.le_of_ble_eq_true rfl), rfl⟩ (Nat.le_of_ble_eq_true rfl) (by exact Nat.le_of_ble_eq_true rfl) (by exact k_167 hF) ?_
  refine S_X12_wordHere h (fun m1 s1 h1 => ?_)
  have hF := h1.1.1
  show Wp g mX12_isWord _ _ _ 4 _ (_ :: _) _ Q
  refine r_iload_n dX12_isWord_4 rfl ?_
  refine r_iload_n dX12_isWord_5 rfl ?_
  refine r_iload_n dX12_isWord_6 rfl ?_
  refine r_iload dX12_isWord_7 rfl ?_
  refine r_iload dX12_isWord_9 rfl ?_
  refine r_iload dX12_isWord_11 rfl ?_
  refine r_callS6 (d1 := 0) (c1 := 0) (n1 := 0) dX12_isWord_13 msX12_152 rfl (Nat.le_of_ble_eq_true rfl) (by exact Nat.le_of_ble_eq_true rfl) ?_
  refine S_X12_word ?_
  show Wp g mX12_isWord _ _ _ 16 _ (_ :: _) _ Q
  refine r_icmp_ne 23 dX12_isWord_16 rfl (fun hne => ?_) (fun hne => ?_)
  ·
    refine r_iconst (0) dX12_isWord_23 rfl ?_
    refine r_ireturn dX12_isWord_24 rfl rfl ?_
    exact k0 hne m1 s1 h1
  ·
    refine r_iconst (1) dX12_isWord_19 rfl ?_
    refine r_goto 24 dX12_isWord_20 rfl ?_
    refine r_ireturn dX12_isWord_24 rfl rfl ?_
    exact k1 hne m1 s1 h1
