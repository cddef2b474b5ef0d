def isBl (x : Int32) : Bool := decide (x = 32)
def isDg (x : Int32) : Bool := decide (48 ≤ x ∧ x ≤ 57)
def isLt (x : Int32) : Bool := decide (97 ≤ x ∧ x ≤ 122)
def rnE (b : Nat → Int32) (n : Nat) (P : Int32 → Bool) : Nat → Nat → Nat
  | 0, p => p
  | k + 1, p => if p < n ∧ P (b p) = true then rnE b n P k (p + 1) else p
/-- the end of the run of P from p -/
def rE (b : Nat → Int32) (n : Nat) (P : Int32 → Bool) (p : Nat) : Nat := rnE b n P (n - p) p
section Lex
variable {b : Nat → Int32} {n : Nat} {P : Int32 → Bool}
theorem rE_t {p : Nat} (h : p < n) (h2 : P (b p) = true) : rE b n P p = rE b n P (p + 1) := by
  unfold rE
  rw [show n - p = (n - (p + 1)) + 1 from by omega]
  exact if_pos ⟨h, h2⟩
theorem rE_f {p : Nat} (h : ¬ (p < n ∧ P (b p) = true)) : rE b n P p = p := by
  unfold rE
  cases n - p with
  | zero => rfl
  | succ k => exact if_neg h
theorem rE_all : ∀ t p, n - p = t → p ≤ rE b n P p ∧ (p ≤ n → rE b n P p ≤ n) ∧ ¬ (rE b n P p < n ∧ P (b (rE b n P p)) = true) ∧ ∀ j, p ≤ j → j < rE b n P p → j < n ∧ P (b j) = true := by
  intro t
  induction t with
  | zero =>
    intro p hp
    rw [rE_f (by omega)]
    exact ⟨Nat.le_refl _, fun h => h, by omega, fun j h1 h2 => by omega⟩
  | succ t ih =>
    intro p hp
    by_cases q : p < n ∧ P (b p) = true
    · rw [rE_t q.1 q.2]
      obtain ⟨h1, h2, h3, h4⟩ := ih (p + 1) (by omega)
      refine ⟨by omega, fun _ => h2 (by omega), h3, fun j j1 j2 => ?_⟩
      by_cases e : j = p
      · subst e; exact q
      · exact h4 j (by omega) j2
    · rw [rE_f q]
      exact ⟨Nat.le_refl _, fun h => h, q, fun j h1 h2 => by omega⟩
theorem rE_le {p : Nat} : p ≤ rE b n P p := (rE_all _ p rfl).1
theorem rE_n {p : Nat} (h : p ≤ n) : rE b n P p ≤ n := (rE_all _ p rfl).2.1 h
theorem rE_s {p : Nat} : ¬ (rE b n P p < n ∧ P (b (rE b n P p)) = true) := (rE_all _ p rfl).2.2.1
theorem rE_i {p j : Nat} (h1 : p ≤ j) (h2 : j < rE b n P p) : j < n ∧ P (b j) = true := (rE_all _ p rfl).2.2.2 j h1 h2
theorem rE_id {p : Nat} : rE b n P (rE b n P p) = rE b n P p := rE_f rE_s
/-- a place inside the run has the same end -/
theorem rE_mid : ∀ t p q, q - p = t → p ≤ q → q ≤ rE b n P p → rE b n P q = rE b n P p := by
  intro t
  induction t with
  | zero => intro p q h h1 h2; rw [show q = p from by omega]
  | succ t ih =>
    intro p q h h1 h2
    have w := rE_i (b := b) (n := n) (P := P) (p := p) (j := p) (Nat.le_refl _) (by omega)
    rw [rE_t w.1 w.2] at h2 ⊢
    exact ih (p + 1) q (by omega) (by omega) h2
end Lex
/-- the number that k digits from s on spell -/
def dgV (b : Nat → Int32) (s : Nat) : Nat → Nat
  | 0 => 0
  | k + 1 => 10 * dgV b s k + ((b (s + k)).toNatClampNeg - 48)
def nmC (b : Nat → Int32) (n s : Nat) : Int32 := nI (min (dgV b s (rE b n isDg s - s)) 10000)
def wEq (b : Nat → Int32) : List Int32 → Nat → Nat → Bool
  | [], s, e => decide (s = e)
  | c :: w, s, e => decide (s < e) && (decide (b s = c) && wEq b w (s + 1) e)
def wIx (b : Nat → Int32) (s e : Nat) : List (List Int32) → Nat → Int32
  | [], _ => -3
  | w :: ws, i => if wEq b w s e = true then nI i else wIx b s e ws (i + 1)
def wds : List (List Int32) := [[115, 107, 105, 110], [119, 97, 118, 101], [101, 100, 100, 121], [115, 105, 100, 101, 115], [102, 111, 117, 108], [111, 102, 102], [97, 100, 100], [109, 111, 114, 101], [108, 101, 110, 103, 116, 104], [115, 112, 101, 101, 100], [119, 101, 116], [118, 111, 108, 117, 109, 101], [98, 101, 97, 109], [100, 114, 97, 102, 116], [102, 110], [119, 105, 114, 101], [115, 105, 100, 101], [109, 111, 110, 116, 104, 115], [108, 101, 97, 115, 116], [109, 111, 115, 116], [114, 111, 111, 116], [105, 102], [111, 114], [97, 110, 100], [110, 111, 116]]
def tkP (b : Nat → Int32) (n s : Nat) : Int32 := if n ≤ s then -1 else if isDg (b s) = true then -2 else if isLt (b s) = true then wIx b s (rE b n isLt s) wds 256 else b s
def nxP (b : Nat → Int32) (n s : Nat) : Nat := if n ≤ s then s else if isDg (b s) = true then rE b n isDg s else if isLt (b s) = true then rE b n isLt s else s + 1
def adP (b : Nat → Int32) (n s : Nat) : Nat := rE b n isBl (nxP b n s)
theorem nxP_n {b : Nat → Int32} {n s : Nat} (h : s ≤ n) : nxP b n s ≤ n := by
  unfold nxP
  split
  · exact h
  · split
    · exact rE_n h
    · split
      · exact rE_n h
      · omega
theorem nxP_lt {b : Nat → Int32} {n s : Nat} (h : s < n) : s < nxP b n s := by
  unfold nxP
  rw [if_neg (by omega)]
  split
  · rename_i q; rw [rE_t h q]; exact Nat.lt_of_lt_of_le (Nat.lt_succ_self s) rE_le
  · split
    · rename_i q; rw [rE_t h q]; exact Nat.lt_of_lt_of_le (Nat.lt_succ_self s) rE_le
    · omega
theorem adP_n {b : Nat → Int32} {n s : Nat} (h : s ≤ n) : adP b n s ≤ n := rE_n (nxP_n h)
theorem adP_lt {b : Nat → Int32} {n s : Nat} (h : s < n) : s < adP b n s := Nat.lt_of_lt_of_le (nxP_lt h) rE_le
theorem tkP_end {b : Nat → Int32} {n s : Nat} (h : n ≤ s) : tkP b n s = -1 := if_pos h
theorem tkP_lt {b : Nat → Int32} {n s : Nat} (h : ¬ tkP b n s = -1) : s < n := Nat.lt_of_not_le (fun q => h (tkP_end q))
-- the words, as wordBetween reads them
def wbR (b : Nat → Int32) (s e : Nat) : List Int32 → Nat → Nat → Bool → Int32
  | [], w, a, q => if q = true ∧ a = e then nI w else -3
  | c :: cs, w, a, q => if ¬ c = 32 then wbR b s e cs w (a + 1) (q && (decide (a < e) && decide (b a = c))) else if q = true ∧ a = e then nI w else wbR b s e cs (w + 1) s true
def prf (b : Nat → Int32) (e : Nat) : List Int32 → Nat → Bool
  | [], _ => true
  | c :: w, a => (decide (a < e) && decide (b a = c)) && prf b e w (a + 1)
theorem wEq_prf {b : Nat → Int32} {e : Nat} : ∀ w s, wEq b w s e = (prf b e w s && decide (s + w.length = e))
  | [], s => by simp [wEq, prf]
  | c :: w, s => by
    show (decide (s < e) && (decide (b s = c) && wEq b w (s + 1) e)) = (((decide (s < e) && decide (b s = c)) && prf b e w (s + 1)) && decide (s + (w.length + 1) = e))
    rw [wEq_prf w (s + 1), show s + (w.length + 1) = s + 1 + w.length from by omega]
    cases decide (s < e) <;> cases decide (b s = c) <;> rfl
theorem wbR_w {b : Nat → Int32} {s e : Nat} {r : List Int32} : ∀ (w : List Int32) (k a : Nat) (q : Bool), w.all (fun c => decide (¬ c = 32)) = true → wbR b s e (w ++ r) k a q = wbR b s e r k (a + w.length) (q && prf b e w a)
  | [], k, a, q, _ => by simp [prf]
  | c :: w, k, a, q, h => by
    rw [List.all_cons, Bool.and_eq_true] at h
    show (if ¬ c = 32 then wbR b s e (w ++ r) k (a + 1) _ else _) = _
    rw [if_pos (of_decide_eq_true h.1), wbR_w w k (a + 1) _ h.2, List.length_cons, show a + 1 + w.length = a + (w.length + 1) from by omega]
    show wbR b s e r k _ ((q && (decide (a < e) && decide (b a = c))) && prf b e w (a + 1)) = wbR b s e r k _ (q && ((decide (a < e) && decide (b a = c)) && prf b e w (a + 1)))
    rw [Bool.and_assoc]
def jnW : List (List Int32) → List Int32
  | [] => []
  | [w] => w
  | w :: ws => w ++ 32 :: jnW ws
theorem wbR_ix {b : Nat → Int32} {s e : Nat} : ∀ (ws : List (List Int32)) (k : Nat), ws ≠ [] → ws.all (fun w => w.all (fun c => decide (¬ c = 32))) = true → wbR b s e (jnW ws) k s true = wIx b s e ws k
  | [], _, h, _ => absurd rfl h
  | [w], k, _, h => by
    have h1 : w.all (fun c => decide (¬ c = 32)) = true := by simpa using h
    have z := wbR_w (b := b) (s := s) (e := e) (r := []) w k s true h1
    rw [List.append_nil] at z
    show wbR b s e w k s true = _
    rw [z]
    show (if (true && prf b e w s) = true ∧ s + w.length = e then nI k else -3) = (if wEq b w s e = true then nI k else -3)
    rw [wEq_prf]
    by_cases c1 : prf b e w s = true <;> by_cases c2 : s + w.length = e <;> simp [c1, c2]
  | w :: w2 :: ws, k, _, h => by
    rw [List.all_cons, Bool.and_eq_true] at h
    show wbR b s e (w ++ 32 :: jnW (w2 :: ws)) k s true = _
    rw [wbR_w w k s true h.1]
    show (if ¬ (32 : Int32) = 32 then _ else if (true && prf b e w s) = true ∧ s + w.length = e then nI k else wbR b s e (jnW (w2 :: ws)) (k + 1) s true) = (if wEq b w s e = true then nI k else wIx b s e (w2 :: ws) (k + 1))
    rw [if_neg (fun q => q rfl), wbR_ix (w2 :: ws) (k + 1) (by simp) h.2, wEq_prf]
    by_cases c1 : prf b e w s = true <;> by_cases c2 : s + w.length = e <;> simp [c1, c2]
theorem WB_jn : WB = jnW wds := by decide +kernel
theorem wbR_WB {b : Nat → Int32} {s e : Nat} : wbR b s e WB 256 s true = wIx b s e wds 256 := by rw [WB_jn]; exact wbR_ix wds 256 (by decide) (by decide +kernel)
