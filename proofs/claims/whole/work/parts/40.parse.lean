abbrev VF : Type := (Nat → Int64) → Int64
abbrev Er : Type := Int32 × Nat
abbrev Ok : Type := Nat × List Int32 × VF
abbrev Rs : Type := Er ⊕ Ok
def rB {α β : Type} (x : Er ⊕ α) (f : α → Er ⊕ β) : Er ⊕ β := match x with
  | .inl e => .inl e
  | .inr r => f r
theorem rB_l {α β : Type} {x : Er ⊕ α} {f : α → Er ⊕ β} {e : Er} (h : x = .inl e) : rB x f = .inl e := by rw [h]; rfl
theorem rB_r {α β : Type} {x : Er ⊕ α} {f : α → Er ⊕ β} {r : α} (h : x = .inr r) : rB x f = f r := by rw [h]; rfl
theorem rB_ok {α β : Type} {x : Er ⊕ α} {f : α → Er ⊕ β} {z : β} (h : rB x f = .inr z) : ∃ r, x = .inr r ∧ f r = .inr z := by
  cases x with
  | inl e => exact absurd h (by intro q; cases q)
  | inr r => exact ⟨r, rfl, h⟩
theorem if_ok {α : Type} {p : Prop} [Decidable p] {x : Er ⊕ α} {e : Er} {z : α} (h : (if p then x else .inl e) = .inr z) : p ∧ x = .inr z := by
  by_cases q : p
  · rw [if_pos q] at h; exact ⟨q, h⟩
  · rw [if_neg q] at h; cases h
def J0 (t : Int32) : Bool := decide (t = 278)
def J1 (t : Int32) : Bool := decide (t = 279)
def J2 (t : Int32) : Bool := decide (t = 43 ∨ t = 45)
def J3 (t : Int32) : Bool := decide (t = 42 ∨ t = 47)
section Prs
variable (b : Nat → Int32) (n : Nat)
def chL (q : Nat → Rs) (J : Int32 → Bool) : Nat → Ok → Rs
  | 0, a => .inr a
  | k + 1, a => if J (tkP b n a.1) = true then rB (q (adP b n a.1)) (fun r => chL q J k (r.1, a.2.1 ++ r.2.1 ++ [tkP b n a.1], fun N => jnF (tkP b n a.1) (a.2.2 N) (r.2.2 N))) else .inr a
def chn (q : Nat → Rs) (J : Int32 → Bool) (s : Nat) : Rs := rB (q s) (fun r => chL b n q J n r)
def insP (f : Option (Nat → Rs)) (two : Bool) (s : Nat) : Er ⊕ (Nat × List Int32 × VF × VF) :=
  if tkP b n s = 40 then (match f with
    | none => .inl (3, s)
    | some F => rB (F (adP b n s)) (fun r => if two = true then (if tkP b n r.1 = 44 then rB (F (adP b n r.1)) (fun r2 => if tkP b n r2.1 = 41 then .inr (adP b n r2.1, r.2.1 ++ r2.2.1, r.2.2, r2.2.2) else .inl (1, r2.1)) else .inl (1, r.1)) else (if tkP b n r.1 = 41 then .inr (adP b n r.1, r.2.1, r.2.2, r.2.2) else .inl (1, r.1))))
  else .inl (1, s)
def untP (f : Option (Nat → Rs)) (s : Nat) : Rs :=
  if tkP b n s = -2 then (if nmC b n s ≤ 9999 then .inr (adP b n s, [nmC b n s * 512 + 1], fun _ => (nmC b n s).toInt64) else .inl (2, s))
  else if 264 ≤ tkP b n s ∧ tkP b n s ≤ 273 then .inr (adP b n s, [(tkP b n s - 264) * 512 + 2], fun N => N (tkP b n s - 264).toNatClampNeg)
  else if tkP b n s = 40 then rB (insP b n f false s) (fun r => .inr (r.1, r.2.1, r.2.2.1))
  else if tkP b n s = 276 then rB (insP b n f false (adP b n s)) (fun r => .inr (r.1, r.2.1 ++ [276], fun N => rtF (r.2.2.1 N)))
  else if tkP b n s = 274 ∨ tkP b n s = 275 then rB (insP b n f true (adP b n s)) (fun r => .inr (r.1, r.2.1 ++ [tkP b n s], fun N => jnF (tkP b n s) (r.2.2.1 N) (r.2.2.2 N)))
  else .inl (1, s)
def sumP : Nat → Nat → Rs
  | 0 => chn b n (chn b n (untP b n none) J3) J2
  | u + 1 => chn b n (chn b n (untP b n (some (sumP u))) J3) J2
def cmpP (f : Nat → Rs) (s : Nat) : Rs := rB (f s) (fun r => if tkP b n r.1 = 60 ∨ tkP b n r.1 = 62 ∨ tkP b n r.1 = 61 then rB (f (adP b n r.1)) (fun r2 => .inr (r2.1, r.2.1 ++ r2.2.1 ++ [tkP b n r.1], fun N => jnF (tkP b n r.1) (r.2.2 N) (r2.2.2 N))) else .inl (1, r.1))
def tesP : Nat → Nat → Rs
  | 0 => fun s => if tkP b n s = 280 then .inl (3, s) else if tkP b n s = 91 then .inl (3, s) else cmpP b n (sumP b n 0) s
  | u + 1 => fun s => if tkP b n s = 280 then rB (tesP u (adP b n s)) (fun r => .inr (r.1, r.2.1 ++ [280], fun N => if r.2.2 N = 0 then 1 else 0))
      else if tkP b n s = 91 then rB (chn b n (chn b n (tesP u) J1) J0 (adP b n s)) (fun r => if tkP b n r.1 = 93 then .inr (adP b n r.1, r.2.1, r.2.2) else .inl (1, r.1))
      else cmpP b n (sumP b n (u + 1)) s
def orsP (u : Nat) : Nat → Rs := chn b n (chn b n (tesP b n u) J1) J0
def wrd (s : Nat) : Int32 := tkP b n s - 256
def claP (way : Bool) (i s : Nat) : Er ⊕ (Nat × List Int32 × Int32 × VF × VF) :=
  if (if way = true then 5 ≤ wrd b n s ∧ wrd b n s ≤ 7 else 0 ≤ wrd b n s ∧ wrd b n s ≤ 4) then (if 16 ≤ i then .inl (3, s) else rB (sumP b n 6 (adP b n s)) (fun r => if tkP b n r.1 = 277 then rB (orsP b n 6 (adP b n r.1)) (fun c => if tkP b n c.1 = 59 then .inr (adP b n c.1, r.2.1 ++ c.2.1 ++ [wrd b n s * 512 + 4], wrd b n s, r.2.2, c.2.2) else .inl (1, c.1)) else (if tkP b n r.1 = 59 then .inr (adP b n r.1, r.2.1 ++ [wrd b n s * 512 + 3], wrd b n s, r.2.2, fun _ => 1) else .inl (1, r.1)))) else .inl (1, s)
abbrev TL : Type := (Nat → Int64) → Nat → Int64
def tlT (T : TL) (w : Int32) (v c : VF) : TL := fun N j => if j = w.toNatClampNeg ∧ ¬ c N = 0 then v N else T N j
def txL (way : Bool) : Nat → Nat → Nat × List Int32 × TL → Er ⊕ (List Int32 × TL)
  | 0, _, a => .inr a.2
  | k + 1, i, a => if tkP b n a.1 = -1 then .inr a.2 else rB (claP b n way i a.1) (fun r => txL way k (i + 1) (r.1, a.2.1 ++ r.2.1, tlT a.2.2 r.2.2.1 r.2.2.2.1 r.2.2.2.2))
def texP (way : Bool) : Er ⊕ (List Int32 × TL) := txL b n way 17 0 (rE b n isBl 0, [], fun _ _ => 0)
end Prs
-- lengths
section Len
variable {b : Nat → Int32} {n : Nat}
/-- what is read is longer than the steps that it gives -/
def GdF (b : Nat → Int32) (n : Nat) (f : Nat → Rs) : Prop := ∀ s, s ≤ n → ∀ r, f s = .inr r → s + r.2.1.length ≤ r.1 ∧ r.1 ≤ n ∧ s < r.1
theorem ad_of {s : Nat} {t : Int32} (h : tkP b n s = t) (ht : ¬ t = -1) : s < n ∧ s + 1 ≤ adP b n s ∧ adP b n s ≤ n := by
  have q := tkP_lt (b := b) (n := n) (s := s) (by rw [h]; exact ht)
  exact ⟨q, adP_lt q, adP_n (by omega)⟩
theorem chL_g {q : Nat → Rs} {J : Int32 → Bool} (hq : GdF b n q) (hJ : J (-1) = false) : ∀ k (a z : Ok) s, s ≤ n → s + a.2.1.length ≤ a.1 → a.1 ≤ n → s < a.1 → chL b n q J k a = .inr z → s + z.2.1.length ≤ z.1 ∧ z.1 ≤ n ∧ s < z.1
  | 0, a, z, s, _, h1, h2, h3, h => by cases h; exact ⟨h1, h2, h3⟩
  | k + 1, a, z, s, hs, h1, h2, h3, h => by
    have h : (if J (tkP b n a.1) = true then rB (q (adP b n a.1)) (fun r => chL b n q J k (r.1, a.2.1 ++ r.2.1 ++ [tkP b n a.1], fun N => jnF (tkP b n a.1) (a.2.2 N) (r.2.2 N))) else .inr a) = .inr z := h
    by_cases c : J (tkP b n a.1) = true
    · rw [if_pos c] at h
      obtain ⟨r, r1, r2⟩ := rB_ok h
      have w := ad_of (b := b) (n := n) (s := a.1) rfl (fun e => by rw [e, hJ] at c; cases c)
      have v := hq _ w.2.2 r r1
      refine chL_g hq hJ k (r.1, a.2.1 ++ r.2.1 ++ [tkP b n a.1], fun N => jnF (tkP b n a.1) (a.2.2 N) (r.2.2 N)) z s hs ?_ v.2.1 ?_ r2
      · show s + (a.2.1 ++ r.2.1 ++ [tkP b n a.1]).length ≤ r.1
        rw [List.length_append, List.length_append, List.length_singleton]; omega
      · show s < r.1; omega
    · rw [if_neg c] at h; cases h; exact ⟨h1, h2, h3⟩
theorem chn_g {q : Nat → Rs} {J : Int32 → Bool} (hq : GdF b n q) (hJ : J (-1) = false) : GdF b n (chn b n q J) := fun s hs z h => by
  obtain ⟨r, r1, r2⟩ := rB_ok h
  have v := hq s hs r r1
  exact chL_g hq hJ n r z s hs v.1 v.2.1 v.2.2 r2
def GdO (b : Nat → Int32) (n : Nat) (f : Option (Nat → Rs)) : Prop := ∀ F, f = some F → GdF b n F
theorem insP_g {f : Option (Nat → Rs)} (hf : GdO b n f) {two : Bool} {s : Nat} (hs : s ≤ n) {z : Nat × List Int32 × VF × VF} (h : insP b n f two s = .inr z) : s + z.2.1.length + 1 ≤ z.1 ∧ z.1 ≤ n := by
  unfold insP at h
  obtain ⟨h40, h⟩ := if_ok h
  cases f with
  | none => cases h
  | some F =>
    have hF := hf F rfl
    have w := ad_of h40 (by decide)
    obtain ⟨r, r1, h⟩ := rB_ok h
    have v := hF _ w.2.2 r r1
    cases two with
    | true =>
      have h : (if tkP b n r.1 = 44 then rB (F (adP b n r.1)) (fun r2 => if tkP b n r2.1 = 41 then .inr (adP b n r2.1, r.2.1 ++ r2.2.1, r.2.2, r2.2.2) else .inl (1, r2.1)) else .inl (1, r.1)) = .inr z := h
      obtain ⟨h44, h⟩ := if_ok h
      obtain ⟨r2, r3, h⟩ := rB_ok h
      have w2 := ad_of h44 (by decide)
      have v2 := hF _ w2.2.2 r2 r3
      obtain ⟨h41, h⟩ := if_ok h
      have w3 := ad_of h41 (by decide)
      cases h
      show s + (r.2.1 ++ r2.2.1).length + 1 ≤ adP b n r2.1 ∧ adP b n r2.1 ≤ n
      rw [List.length_append]; omega
    | false =>
      have h : (if tkP b n r.1 = 41 then (Sum.inr (adP b n r.1, r.2.1, r.2.2, r.2.2) : Er ⊕ (Nat × List Int32 × VF × VF)) else .inl (1, r.1)) = .inr z := h
      obtain ⟨h41, h⟩ := if_ok h
      have w3 := ad_of h41 (by decide)
      cases h
      show s + r.2.1.length + 1 ≤ adP b n r.1 ∧ adP b n r.1 ≤ n
      omega
theorem i32_in {x : Int32} (h : 264 ≤ x ∧ x ≤ 273) : ¬ x = -1 := fun q => by rw [q] at h; exact absurd h.1 (by decide)
theorem untP_g {f : Option (Nat → Rs)} (hf : GdO b n f) : GdF b n (untP b n f) := fun s hs z h => by
  unfold untP at h
  by_cases c1 : tkP b n s = -2
  · rw [if_pos c1] at h
    obtain ⟨-, h⟩ := if_ok h
    have w := ad_of c1 (by decide)
    cases h
    show s + 1 ≤ adP b n s ∧ adP b n s ≤ n ∧ s < adP b n s
    omega
  · rw [if_neg c1] at h
    by_cases c2 : 264 ≤ tkP b n s ∧ tkP b n s ≤ 273
    · rw [if_pos c2] at h
      have w := ad_of (b := b) (n := n) (s := s) rfl (i32_in c2)
      cases h
      show s + 1 ≤ adP b n s ∧ adP b n s ≤ n ∧ s < adP b n s
      omega
    · rw [if_neg c2] at h
      by_cases c3 : tkP b n s = 40
      · rw [if_pos c3] at h
        obtain ⟨r, r1, h⟩ := rB_ok h
        have v := insP_g hf hs r1
        cases h
        show s + r.2.1.length ≤ r.1 ∧ r.1 ≤ n ∧ s < r.1
        omega
      · rw [if_neg c3] at h
        by_cases c4 : tkP b n s = 276
        · rw [if_pos c4] at h
          obtain ⟨r, r1, h⟩ := rB_ok h
          have w := ad_of c4 (by decide)
          have v := insP_g hf w.2.2 r1
          cases h
          show s + (r.2.1 ++ [276]).length ≤ r.1 ∧ r.1 ≤ n ∧ s < r.1
          rw [List.length_append, List.length_singleton]; omega
        · rw [if_neg c4] at h
          obtain ⟨c5, h⟩ := if_ok h
          obtain ⟨r, r1, h⟩ := rB_ok h
          have w := ad_of (b := b) (n := n) (s := s) rfl (fun q => by rw [q] at c5; exact absurd c5 (by decide))
          have v := insP_g hf w.2.2 r1
          cases h
          show s + (r.2.1 ++ [tkP b n s]).length ≤ r.1 ∧ r.1 ≤ n ∧ s < r.1
          rw [List.length_append, List.length_singleton]; omega
theorem sumP_g : ∀ u, GdF b n (sumP b n u)
  | 0 => chn_g (chn_g (untP_g (fun F h => by cases h)) rfl) rfl
  | u + 1 => chn_g (chn_g (untP_g (fun F h => by cases h; exact sumP_g u)) rfl) rfl
theorem cmpP_g {f : Nat → Rs} (hf : GdF b n f) : GdF b n (cmpP b n f) := fun s hs z h => by
  obtain ⟨r, r1, h⟩ := rB_ok h
  have v := hf s hs r r1
  obtain ⟨c, h⟩ := if_ok h
  obtain ⟨r2, r3, h⟩ := rB_ok h
  have w := ad_of (b := b) (n := n) (s := r.1) rfl (fun q => by rw [q] at c; exact absurd c (by decide))
  have v2 := hf _ w.2.2 r2 r3
  cases h
  show s + (r.2.1 ++ r2.2.1 ++ [tkP b n r.1]).length ≤ r2.1 ∧ r2.1 ≤ n ∧ s < r2.1
  rw [List.length_append, List.length_append, List.length_singleton]; omega
theorem tesP_g : ∀ u, GdF b n (tesP b n u)
  | 0 => fun s hs z h => by
    have h : (if tkP b n s = 280 then .inl (3, s) else if tkP b n s = 91 then .inl (3, s) else cmpP b n (sumP b n 0) s) = .inr z := h
    by_cases c1 : tkP b n s = 280
    · rw [if_pos c1] at h; cases h
    · rw [if_neg c1] at h
      by_cases c2 : tkP b n s = 91
      · rw [if_pos c2] at h; cases h
      · rw [if_neg c2] at h; exact cmpP_g (sumP_g 0) s hs z h
  | u + 1 => fun s hs z h => by
    have h : (if tkP b n s = 280 then rB (tesP b n u (adP b n s)) (fun r => .inr (r.1, r.2.1 ++ [280], fun N => if r.2.2 N = 0 then 1 else 0)) else if tkP b n s = 91 then rB (chn b n (chn b n (tesP b n u) J1) J0 (adP b n s)) (fun r => if tkP b n r.1 = 93 then .inr (adP b n r.1, r.2.1, r.2.2) else .inl (1, r.1)) else cmpP b n (sumP b n (u + 1)) s) = .inr z := h
    by_cases c1 : tkP b n s = 280
    · rw [if_pos c1] at h
      obtain ⟨r, r1, h⟩ := rB_ok h
      have w := ad_of c1 (by decide)
      have v := tesP_g u _ w.2.2 r r1
      cases h
      show s + (r.2.1 ++ [280]).length ≤ r.1 ∧ r.1 ≤ n ∧ s < r.1
      rw [List.length_append, List.length_singleton]; omega
    · rw [if_neg c1] at h
      by_cases c2 : tkP b n s = 91
      · rw [if_pos c2] at h
        obtain ⟨r, r1, h⟩ := rB_ok h
        have w := ad_of c2 (by decide)
        have v := chn_g (chn_g (tesP_g u) (J := J1) rfl) (J := J0) rfl _ w.2.2 r r1
        obtain ⟨c3, h⟩ := if_ok h
        have w2 := ad_of c3 (by decide)
        cases h
        show s + r.2.1.length ≤ adP b n r.1 ∧ adP b n r.1 ≤ n ∧ s < adP b n r.1
        omega
      · rw [if_neg c2] at h; exact cmpP_g (sumP_g (u + 1)) s hs z h
theorem orsP_g (u : Nat) : GdF b n (orsP b n u) := chn_g (chn_g (tesP_g u) (J := J1) rfl) (J := J0) rfl
end Len
