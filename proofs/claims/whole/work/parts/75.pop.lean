/-! how many bits -/
def dj (a b : Int32) : Prop := ∀ i, i < 32 → ¬ (bt a i = true ∧ bt b i = true)
theorem dj_add {a b : Int32} (h : dj a b) : a ||| b = a + b := by
  refine Int32.toBitVec_inj.mp ?_
  rw [Int32.toBitVec_or, Int32.toBitVec_add]
  refine (BitVec.add_eq_or_of_and_eq_zero _ _ ?_).symm
  refine BitVec.eq_of_getLsbD_eq (fun i hi => ?_)
  rw [BitVec.getLsbD_and, BitVec.getLsbD_zero]
  have z := h i hi
  unfold bt at z
  cases e1 : a.toBitVec.getLsbD i <;> cases e2 : b.toBitVec.getLsbD i <;> simp_all
theorem us_b (n : Nat) (hn : n < 32) (x : Int32) (i : Nat) : bt (us x (nI n)) i = bt x (n + i) := b_ushr n hn x i
theorem us_or (n : Nat) (hn : n < 32) (x y : Int32) : us (x ||| y) (nI n) = us x (nI n) ||| us y (nI n) := b_ext (fun i hi => by rw [us_b n hn, b_or, b_or, us_b n hn, us_b n hn])
theorem an_or (x y k : Int32) : (x ||| y) &&& k = (x &&& k) ||| (y &&& k) := b_ext (fun i hi => by rw [b_and, b_or, b_or, b_and, b_and]; cases bt x i <;> cases bt y i <;> cases bt k i <;> rfl)
theorem dj_us {n : Nat} (hn : n < 32) {x y : Int32} (h : dj x y) : dj (us x (nI n)) (us y (nI n)) := fun i hi q => by
  rw [us_b n hn, us_b n hn] at q
  by_cases c : n + i < 32
  · exact h _ c q
  · rw [b_big (by omega)] at q; exact absurd q.1 (by decide)
theorem dj_an {x y k : Int32} (h : dj x y) : dj (x &&& k) (y &&& k) := fun i hi q => by
  rw [b_and, b_and] at q
  exact h i hi ⟨(Bool.and_eq_true _ _ ▸ q.1).1, (Bool.and_eq_true _ _ ▸ q.2).1⟩
theorem i32_sub4 (a b c d : Int32) : (a + b) - (c + d) = (a - c) + (b - d) := by
  refine Int32.toBitVec_inj.mp ?_
  simp only [Int32.toBitVec_add, Int32.toBitVec_sub]
  rw [BitVec.sub_eq_add_neg, BitVec.sub_eq_add_neg, BitVec.sub_eq_add_neg, BitVec.neg_add, BitVec.sub_eq_add_neg]
  ac_rfl
theorem bc1_or {x y : Int32} (h : dj x y) : bc1 (x ||| y) = bc1 x + bc1 y := by
  unfold bc1
  rw [show us (x ||| y) 1 = us x 1 ||| us y 1 from us_or 1 (by omega) x y, an_or, dj_add h, dj_add (dj_an (show dj (us x 1) (us y 1) from dj_us (n := 1) (by omega) h)), i32_sub4]
theorem bc2_or {x y : Int32} (h : dj x y) : bc2 (x ||| y) = bc2 x + bc2 y := by
  unfold bc2
  rw [show us (x ||| y) 2 = us x 2 ||| us y 2 from us_or 2 (by omega) x y, an_or, an_or, dj_add (dj_an h), dj_add (dj_an (show dj (us x 2) (us y 2) from dj_us (n := 2) (by omega) h))]
  refine Int32.toBitVec_inj.mp ?_
  simp only [Int32.toBitVec_add]
  ac_rfl
def S1 (p : Nat → Bool) : Nat → Nat
  | 0 => 0
  | n + 1 => S1 p n + (if p n then 4 ^ (n / 2) else 0)
theorem bc1_bit : ∀ n, n < 20 → bc1 ((1 : Int32) <<< (nI n &&& 31)) = nI (4 ^ (n / 2)) := by decide +kernel
theorem p4_20 : ∀ n, n < 20 → 4 ^ (n / 2) ≤ 262144 := by decide
theorem S1_le (p : Nat → Bool) : ∀ n, n ≤ 20 → S1 p n ≤ n * 262144
  | 0, _ => Nat.le_refl 0
  | n + 1, h => by
    have a := S1_le p n (by omega)
    have b := p4_20 n (by omega)
    show S1 p n + (if p n then 4 ^ (n / 2) else 0) ≤ _
    have e : (if p n then 4 ^ (n / 2) else 0) ≤ 262144 := by
      split
      · exact b
      · exact Nat.zero_le _
    rw [Nat.succ_mul]
    exact Nat.add_le_add a e
theorem bc1_bits (p : Nat → Bool) : ∀ n, n ≤ 20 → bc1 (bitsF p n) = nI (S1 p n)
  | 0, _ => (show bc1 0 = nI 0 by decide)
  | n + 1, h => by
    have a := bc1_bits p n (by omega)
    have l := S1_le p n (by omega)
    have b := p4_20 n (by omega)
    show bc1 (if p n then bitsF p n ||| (1 <<< (nI n &&& 31)) else bitsF p n) = nI (S1 p n + (if p n then 4 ^ (n / 2) else 0))
    by_cases q : p n = true
    · rw [if_pos q, if_pos q, bc1_or, a, bc1_bit n (by omega), nI_ad2 (by omega)]
      intro i hi w
      rw [bt_bitsF p n (by omega) i hi, b_shl n (by omega) 1 hi] at w
      by_cases c : i < n
      · rw [decide_eq_false (show ¬ n ≤ i by omega), Bool.false_and] at w; exact absurd w.2 (by decide)
      · rw [decide_eq_false c, Bool.false_and] at w; exact absurd w.1 (by decide)
    · rw [if_neg q, if_neg q]; exact a
def c2 (p : Nat → Bool) (j : Nat) : Nat := (if p (2 * j) then 1 else 0) + (if p (2 * j + 1) then 1 else 0)
theorem c2_le (p : Nat → Bool) (j : Nat) : c2 p j ≤ 2 := by unfold c2; split <;> split <;> omega
def S2 (c : Nat → Nat) : Nat → Nat
  | 0 => 0
  | j + 1 => S2 c j + c j * 4 ^ j
theorem S1_S2 (p : Nat → Bool) : ∀ j, S1 p (2 * j) = S2 (c2 p) j
  | 0 => rfl
  | j + 1 => by
    have a := S1_S2 p j
    show S1 p (2 * j) + (if p (2 * j) then 4 ^ (2 * j / 2) else 0) + (if p (2 * j + 1) then 4 ^ ((2 * j + 1) / 2) else 0) = S2 (c2 p) j + c2 p j * 4 ^ j
    rw [a, show 2 * j / 2 = j from by omega, show (2 * j + 1) / 2 = j from by omega]
    unfold c2
    split <;> split <;> omega
theorem S2_lt {c : Nat → Nat} (hc : ∀ j, c j ≤ 2) : ∀ j, S2 c j < 4 ^ j
  | 0 => (show 0 < 1 by decide)
  | j + 1 => by
    have a := S2_lt hc j
    have b := Nat.mul_le_mul_right (4 ^ j) (hc j)
    show S2 c j + c j * 4 ^ j < 4 ^ j * 4
    omega
def S3 (c : Nat → Nat) : Nat → Nat
  | 0 => 0
  | j + 1 => S3 c j + c j * 16 ^ (j / 2)
theorem bc2_d : ∀ j, j < 10 → ∀ c, c < 3 → bc2 (nI (c * 4 ^ j)) = nI (c * 16 ^ (j / 2)) ∧ ∀ i, i < 2 * j → bt (nI (c * 4 ^ j)) i = false := by decide +kernel
theorem p16_10 : ∀ n, n < 10 → 16 ^ (n / 2) ≤ 65536 ∧ 4 ^ n ≤ 262144 := by decide
theorem S3_le {c : Nat → Nat} (hc : ∀ j, c j ≤ 2) : ∀ n, n ≤ 10 → S3 c n ≤ n * 131072
  | 0, _ => Nat.le_refl 0
  | n + 1, h => by
    have a := S3_le hc n (by omega)
    have b := Nat.mul_le_mul (hc n) (p16_10 n (by omega)).1
    show S3 c n + c n * 16 ^ (n / 2) ≤ _
    omega
theorem bt_nI {w k i : Nat} (h : w < 2 ^ k) (hi : k ≤ i) : bt (nI w) i = false := by
  by_cases c : i < 32
  · show (BitVec.ofNat 32 w).getLsbD i = false
    rw [BitVec.getLsbD_ofNat, Nat.testBit_lt_two_pow (Nat.lt_of_lt_of_le h (Nat.pow_le_pow_right (by omega) hi)), Bool.and_false]
  · exact b_big (by omega)
theorem bc2_S {c : Nat → Nat} (hc : ∀ j, c j ≤ 2) : ∀ n, n ≤ 10 → bc2 (nI (S2 c n)) = nI (S3 c n)
  | 0, _ => (show bc2 (nI 0) = nI 0 by decide)
  | n + 1, h => by
    have a := bc2_S hc n (by omega)
    have l := S2_lt hc n
    have l3 := S3_le hc n (by omega)
    have p := p16_10 n (by omega)
    have b1 := Nat.mul_le_mul (hc n) p.1
    have b2 := Nat.mul_le_mul (hc n) p.2
    have d := bc2_d n (by omega) (c n) (by have := hc n; omega)
    show bc2 (nI (S2 c n + c n * 4 ^ n)) = nI (S3 c n + c n * 16 ^ (n / 2))
    have e : dj (nI (S2 c n)) (nI (c n * 4 ^ n)) := fun i hi q => by
      by_cases k : i < 2 * n
      · rw [d.2 i k] at q; exact absurd q.2 (by decide)
      · rw [bt_nI (k := 2 * n) (by rw [Nat.pow_mul]; exact l) (by omega)] at q; exact absurd q.1 (by decide)
    rw [← nI_ad2 (by omega), ← dj_add e, bc2_or e, a, d.1, nI_ad2 (by omega)]
def bcT (y : Int32) : Int32 := ((bc3 y + us (bc3 y) 8) + us (bc3 y + us (bc3 y) 8) 16) &&& 63
theorem bcT_all : ∀ a, a < 5 → ∀ b, b < 5 → ∀ c, c < 5 → ∀ d, d < 5 → ∀ e, e < 5 → bcT (nI (a + 16 * b + 256 * c + 4096 * d + 65536 * e)) = nI (a + b + c + d + e) := by decide +kernel
theorem bc_20 (p : Nat → Bool) : bcV (bitsF p 20) = nI (cnt p 20) := by
  have hc := c2_le p
  show bcT (bc2 (bc1 (bitsF p 20))) = _
  rw [bc1_bits p 20 (by omega), show S1 p 20 = S2 (c2 p) 10 from S1_S2 p 10, bc2_S hc 10 (by omega)]
  have e : S3 (c2 p) 10 = (c2 p 0 + c2 p 1) + 16 * (c2 p 2 + c2 p 3) + 256 * (c2 p 4 + c2 p 5) + 4096 * (c2 p 6 + c2 p 7) + 65536 * (c2 p 8 + c2 p 9) := by
    show 0 + c2 p 0 * 1 + c2 p 1 * 1 + c2 p 2 * 16 + c2 p 3 * 16 + c2 p 4 * 256 + c2 p 5 * 256 + c2 p 6 * 4096 + c2 p 7 * 4096 + c2 p 8 * 65536 + c2 p 9 * 65536 = _
    omega
  have h0 := hc 0; have h1 := hc 1; have h2 := hc 2; have h3 := hc 3; have h4 := hc 4; have h5 := hc 5; have h6 := hc 6; have h7 := hc 7; have h8 := hc 8; have h9 := hc 9
  rw [e, bcT_all _ (by omega) _ (by omega) _ (by omega) _ (by omega) _ (by omega)]
  congr 1
  unfold c2
  simp only [cnt, Nat.reduceMul, Nat.reduceAdd]
  omega
theorem bits_cut (p : Nat → Bool) {n : Nat} : ∀ k, n ≤ k → bitsF (fun i => decide (i < n) && p i) k = bitsF p n ∧ cnt (fun i => decide (i < n) && p i) k = cnt p n := by
  have low : ∀ j, j ≤ n → bitsF (fun i => decide (i < n) && p i) j = bitsF p j ∧ cnt (fun i => decide (i < n) && p i) j = cnt p j := by
    intro j
    induction j with
    | zero => intro _; exact ⟨rfl, rfl⟩
    | succ j ih =>
      intro h
      have i := ih (by omega)
      have e : (decide (j < n) && p j) = p j := by rw [decide_eq_true (show j < n by omega), Bool.true_and]
      refine ⟨?_, ?_⟩
      · show (if (decide (j < n) && p j) = true then _ else _) = (if p j = true then _ else _)
        rw [e, i.1]
      · show _ + (if (decide (j < n) && p j) = true then 1 else 0) = _ + (if p j = true then 1 else 0)
        rw [e, i.2]
  intro k
  induction k with
  | zero => intro h; obtain rfl : n = 0 := by omega
            exact ⟨rfl, rfl⟩
  | succ k ih =>
    intro h
    by_cases c : n = k + 1
    · subst c; exact low _ (Nat.le_refl _)
    · have i := ih (by omega)
      have e : ¬ (decide (k < n) && p k) = true := by rw [decide_eq_false (show ¬ k < n by omega), Bool.false_and]; decide
      refine ⟨?_, ?_⟩
      · show (if (decide (k < n) && p k) = true then _ else _) = _
        rw [if_neg e]; exact i.1
      · show _ + (if (decide (k < n) && p k) = true then 1 else 0) = _
        rw [if_neg e]; exact i.2
theorem bc_cnt (p : Nat → Bool) {n : Nat} (h : n ≤ 20) : bcV (bitsF p n) = nI (cnt p n) := by
  have a := bits_cut p (n := n) 20 h
  have b := bc_20 (fun i => decide (i < n) && p i)
  rw [a.1, a.2] at b; exact b
theorem cnt_3 (p q : Nat → Bool) : ∀ n, n = cnt p n + cnt (fun i => !p i && q i) n + cnt (fun i => !p i && !q i) n
  | 0 => rfl
  | n + 1 => by
    have a := cnt_3 p q n
    show n + 1 = (cnt p n + (if p n then 1 else 0)) + (cnt (fun i => !p i && q i) n + (if (!p n && q n) then 1 else 0)) + (cnt (fun i => !p i && !q i) n + (if (!p n && !q n) then 1 else 0))
    cases p n <;> cases q n <;> simp <;> omega
theorem pr_eq {e a b c : Nat} (h : e = a + b + c) : nI e - nI a - nI b = nI c := by
  rw [h, pk_sub (by omega), pk_sub (by omega), show a + b + c - a - b = c from by omega]
