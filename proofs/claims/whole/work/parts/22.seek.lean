def upF (f : Nat → Int32) (a : Nat) (v : Int32) : Nat → Int32 := fun x => if x = a then v else f x
theorem upF_s {f : Nat → Int32} {a : Nat} {v : Int32} : upF f a v a = v := if_pos rfl
theorem upF_n {f : Nat → Int32} {a x : Nat} {v w : Int32} (h : x ≠ a) (e : f x = w) : upF f a v x = w := (if_neg h).trans e
theorem Vf.hul {f f' : Nat → Int32} (h : Vf f) (e : ∀ x, x < 73 ∨ 217 ≤ x → f' x = f x) (e2 : ∀ i, i < nH f → ∀ s, s < nS f i → iv 0 60 (f' (73 + 24 * i + s)) ∧ iv 0 60 (f' (85 + 24 * i + s))) : Vf f' := by
  obtain ⟨v1, v2, v3, v4, v5, v6, v7, v8, v9⟩ := h
  have n0 : nH f' = nH f := by unfold nH; rw [e 0 (by omega)]
  have n1 : nT f' = nT f := by unfold nT; rw [e 1 (by omega)]
  have n2 : nR f' = nR f := by unfold nR; rw [e 2 (by omega)]
  have n3 : nE f' = nE f := by unfold nE; rw [e 3 (by omega)]
  have n4 : nM f' = nM f := by unfold nM; rw [e 4 (by omega)]
  have n5 : nFo f' = nFo f := by unfold nFo; rw [e 5 (by omega)]
  have nS' : ∀ i, i < 6 → nS f' i = nS f i := fun i hi => by unfold nS; rw [e (13 + i) (by omega)]
  have h6 := v1.1.2
  refine ⟨?_, ?_, ?_, ?_, ?_, ?_, ?_, ?_, ?_⟩
  · unfold VC; rw [n0, n1, n2, n3, n4, n5, e 0 (by omega), e 1 (by omega), e 2 (by omega), e 3 (by omega), e 4 (by omega), e 5 (by omega)]; exact v1
  · intro i hi
    rw [n0] at hi
    unfold VH
    rw [nS' i (by omega), e (7 + i) (by omega), e (13 + i) (by omega)]
    obtain ⟨a, b, c, d, -⟩ := v2 i hi
    exact ⟨a, b, c, d, fun s hs => e2 i hi s hs⟩
  · intro j hj; rw [n1] at hj; have := v1.2.1.2; rw [e (19 + j) (by omega), e (23 + j) (by omega)]; exact v3 j hj
  · rw [n0, n1, e 27 (by omega), e 28 (by omega), e 29 (by omega), e 30 (by omega), e 31 (by omega), e 32 (by omega)]; exact v4
  · intro r hr; rw [n2] at hr
    have q : rn f' r = rn f r := funext fun j => e _ (by omega)
    unfold VR; rw [q, n0, n1]; exact v5 r hr
  · intro j hj; rw [n3] at hj; have := v1.2.2.2.1.2; rw [e (33 + j) (by omega), e (53 + j) (by omega)]; exact v6 j hj
  · intro j hj; rw [n4] at hj; rw [e (637 + 2 * j) (by omega), e (638 + 2 * j) (by omega)]; exact v7 j hj
  · intro j hj; rw [n5] at hj; rw [e (649 + 2 * j) (by omega), e (650 + 2 * j) (by omega)]; exact v8 j hj
  · intro j hj; rw [n5] at hj; rw [e (649 + 2 * j) (by omega), e (651 + 2 * j) (by omega)]; exact v9 j hj
theorem Wd.hul {f f' : Nat → Int32} {m m' : MM} (h : Wd f 5 m) (h6 : nH f ≤ 6) (hR : VC f) (e : ∀ x, x < 73 ∨ 217 ≤ x → f' x = f x) (em : ∀ a, a < 8 ∨ 24 < a ∨ a % 3 = 1 → ∀ k, ldI m' a k = ldI m a k) (e2 : ∀ i, i < nH f → ∀ s, s < nS f i → ldI m' (8 + 3 * i) s = f' (73 + 24 * i + s) ∧ ldI m' (9 + 3 * i) s = f' (85 + 24 * i + s)) : Wd f' 5 m' := by
  have n0 : nH f' = nH f := by unfold nH; rw [e 0 (by omega)]
  have n1 : nT f' = nT f := by unfold nT; rw [e 1 (by omega)]
  have n2 : nR f' = nR f := by unfold nR; rw [e 2 (by omega)]
  have n3 : nE f' = nE f := by unfold nE; rw [e 3 (by omega)]
  have n4 : nM f' = nM f := by unfold nM; rw [e 4 (by omega)]
  have n5 : nFo f' = nFo f := by unfold nFo; rw [e 5 (by omega)]
  have nS' : ∀ i, i < 6 → nS f' i = nS f i := fun i hi => by unfold nS; rw [e (13 + i) (by omega)]
  obtain ⟨-, ⟨-, b2⟩, -, ⟨-, b4⟩, -⟩ := hR
  unfold Wd
  rw [n0, n1, n2, n3, n4, n5, e 0 (by omega), e 1 (by omega), e 3 (by omega), e 4 (by omega), e 5 (by omega), e 6 (by omega), em 5 (by omega), em 5 (by omega), em (5 + 20) (by omega), em (5 + 22) (by omega), em (5 + 25) (by omega), em (5 + 28) (by omega), em (5 + 30) (by omega), em (5 + 32) (by omega), em (5 + 34) (by omega)]
  obtain ⟨w1, w2, ⟨w3, w4, w5⟩, w6, ⟨w7, w8⟩, ⟨w9, w10⟩, ⟨w11, w12⟩, w13, w14, w15⟩ := h
  refine ⟨w1, fun i hi => ?_, ⟨w3, w4, fun j hj => ?_⟩, fun j hj => ?_, ⟨w7, fun j hj => ?_⟩, ⟨w9, fun j hj => ?_⟩, ⟨w11, fun j hj => ?_⟩, w13, w14, fun j hj => ?_⟩
  · rw [em (5 + 2 + 3 * i) (by omega), em (5 + 2 + 3 * i) (by omega), e (7 + i) (by omega), e (13 + i) (by omega), nS' i (by omega)]
    exact ⟨(w2 i hi).1, (w2 i hi).2.1, fun s hs => by have q := e2 i hi s hs; rw [show 8 + 3 * i = 5 + 3 + 3 * i from by omega, show 9 + 3 * i = 5 + 4 + 3 * i from by omega] at q; exact q⟩
  · rw [em (5 + 21) (by omega), em (5 + 23) (by omega), e (19 + j) (by omega), e (23 + j) (by omega)]; exact w5 j hj
  · rw [em (5 + 24) (by omega), e (27 + j) (by omega)]; exact w6 j hj
  · rw [em (5 + 26) (by omega), e (217 + j) (by omega)]; exact w8 j hj
  · rw [em (5 + 29) (by omega), e (33 + j) (by omega), e (53 + j) (by omega)]; exact w10 j hj
  · rw [em (5 + 31) (by omega), e (637 + 2 * j) (by omega), e (638 + 2 * j) (by omega)]; exact w12 j hj
  · rw [em (5 + 33) (by omega), em (5 + 35) (by omega), e (649 + 2 * j) (by omega), e (650 + 2 * j) (by omega)]; exact w15 j hj
def xf (f : Nat → Int32) (b i j : Nat) : Nat → Int32 := upF (upF f (b + i) (f (b + i) - 1)) (b + j) (f (b + j) + 1)
def XF (f : Nat → Int32) (b i j : Nat) : Prop := i ≠ j ∧ 0 < f (b + i) ∧ f (b + j) < 60
theorem iv_dec {x : Int32} (h : iv 0 60 x) (h2 : 0 < x) : iv 0 60 (x - 1) := by
  unfold iv at *
  rw [Int32.lt_iff_toInt_lt] at h2
  have : (0 : Int32).toInt = 0 := rfl
  have e : (x - 1).toInt = x.toInt - 1 := by
    rw [Int32.toInt_sub]; show Int.bmod (x.toInt - 1) (2 ^ 32) = _
    rw [Int.bmod_eq_of_le (by omega) (by omega)]
  omega
theorem iv_inc {x : Int32} (h : iv 0 60 x) (h2 : x < 60) : iv 0 60 (x + 1) := by
  unfold iv at *
  rw [Int32.lt_iff_toInt_lt] at h2
  have : (60 : Int32).toInt = 60 := rfl
  have e : (x + 1).toInt = x.toInt + 1 := by
    rw [Int32.toInt_add]; show Int.bmod (x.toInt + 1) (2 ^ 32) = _
    rw [Int.bmod_eq_of_le (by omega) (by omega)]
  omega
theorem xf_iv {f : Nat → Int32} {b i j : Nat} (hx : XF f b i j) (h1 : iv 0 60 (f (b + i))) (h2 : iv 0 60 (f (b + j))) {x : Nat} (h : iv 0 60 (f x)) : iv 0 60 (xf f b i j x) := by
  unfold xf upF
  by_cases q : x = b + j
  · rw [if_pos q]; exact iv_inc h2 hx.2.2
  · rw [if_neg q]
    by_cases q2 : x = b + i
    · rw [if_pos q2]; exact iv_dec h1 hx.2.1
    · rw [if_neg q2]; exact h
theorem xf_o {f : Nat → Int32} {b i j x : Nat} (h1 : x ≠ b + i) (h2 : x ≠ b + j) : xf f b i j x = f x := upF_n h2 (upF_n h1 rfl)
theorem xf_i {f : Nat → Int32} {b i j : Nat} (h : i ≠ j) : xf f b i j (b + i) = f (b + i) - 1 := upF_n (by omega) upF_s
theorem xf_j {f : Nat → Int32} {b i j : Nat} : xf f b i j (b + j) = f (b + j) + 1 := upF_s
theorem xc_o {m : MM} {r i j a k : Nat} (h : a ≠ r ∨ (k ≠ i ∧ k ≠ j)) : ldI (xcM m r i j) a k = ldI m a k := ld_n (by omega) (ld_n (by omega) rfl)
theorem xc_i {m : MM} {r i j : Nat} (h : i ≠ j) : ldI (xcM m r i j) r i = ldI m r i - 1 := ld_n (by omega) ld_s
theorem xc_j {m : MM} {r i j : Nat} : ldI (xcM m r i j) r j = ldI m r j + 1 := ld_s
theorem Vf_xf0 {f : Nat → Int32} {h i j : Nat} (hV : Vf f) (hh : h < nH f) (hi : i < nS f h) (hj : j < nS f h) (hx : XF f (73 + 24 * h) i j) : Vf (xf f (73 + 24 * h) i j) := by
  have h6 := hV.1.1.2
  have h12 := (hV.2.1 h hh).2.2.2.1
  have u := (hV.2.1 h hh).2.2.2.2
  refine hV.hul (fun x hx => xf_o (by omega) (by omega)) (fun a ha s hs => ?_)
  have w := (hV.2.1 a ha).2.2.2.2 s hs
  exact ⟨xf_iv hx (u i hi).1 (u j hj).1 w.1, xf_iv hx (u i hi).1 (u j hj).1 w.2⟩
theorem Wd_xf0 {f : Nat → Int32} {m : MM} {h i j : Nat} (hV : Vf f) (hW : Wd f 5 m) (hh : h < nH f) (hi : i < nS f h) (hj : j < nS f h) (hij : i ≠ j) : Wd (xf f (73 + 24 * h) i j) 5 (xcM m (8 + 3 * h) i j) := by
  have h6 := hV.1.1.2
  have h12 := (hV.2.1 h hh).2.2.2.1
  refine hW.hul h6 hV.1 (fun x hx => xf_o (by omega) (by omega)) (fun a ha k => xc_o (by omega)) (fun a ha s hs => ?_)
  have w := (hW.2.1 a ha).2.2 s hs
  have s12 := (hV.2.1 a ha).2.2.2.1
  have w1 : ldI m (8 + 3 * a) s = f (73 + 24 * a + s) := w.1
  have w2 : ldI m (9 + 3 * a) s = f (85 + 24 * a + s) := w.2
  have oth : ldI (xcM m (8 + 3 * h) i j) (9 + 3 * a) s = xf f (73 + 24 * h) i j (85 + 24 * a + s) := by
    rw [xc_o (by omega), xf_o (by omega) (by omega)]; exact w2
  have own : ldI (xcM m (8 + 3 * h) i j) (8 + 3 * a) s = xf f (73 + 24 * h) i j (73 + 24 * a + s) := by
    by_cases q : a = h
    · subst q
      by_cases q1 : s = j
      · subst q1; rw [xc_j, xf_j, w1]
      · by_cases q2 : s = i
        · subst q2; rw [xc_i hij, xf_i hij, w1]
        · rw [xc_o (by omega), xf_o (by omega) (by omega)]; exact w1
    · rw [xc_o (by omega), xf_o (by omega) (by omega)]; exact w1
  exact ⟨own, oth⟩
theorem Vf_xf1 {f : Nat → Int32} {h i j : Nat} (hV : Vf f) (hh : h < nH f) (hi : i < nS f h) (hj : j < nS f h) (hx : XF f (85 + 24 * h) i j) : Vf (xf f (85 + 24 * h) i j) := by
  have h6 := hV.1.1.2
  have h12 := (hV.2.1 h hh).2.2.2.1
  have u := (hV.2.1 h hh).2.2.2.2
  refine hV.hul (fun x hx => xf_o (by omega) (by omega)) (fun a ha s hs => ?_)
  have w := (hV.2.1 a ha).2.2.2.2 s hs
  exact ⟨xf_iv hx (u i hi).2 (u j hj).2 w.1, xf_iv hx (u i hi).2 (u j hj).2 w.2⟩
theorem Wd_xf1 {f : Nat → Int32} {m : MM} {h i j : Nat} (hV : Vf f) (hW : Wd f 5 m) (hh : h < nH f) (hi : i < nS f h) (hj : j < nS f h) (hij : i ≠ j) : Wd (xf f (85 + 24 * h) i j) 5 (xcM m (9 + 3 * h) i j) := by
  have h6 := hV.1.1.2
  have h12 := (hV.2.1 h hh).2.2.2.1
  refine hW.hul h6 hV.1 (fun x hx => xf_o (by omega) (by omega)) (fun a ha k => xc_o (by omega)) (fun a ha s hs => ?_)
  have w := (hW.2.1 a ha).2.2 s hs
  have s12 := (hV.2.1 a ha).2.2.2.1
  have w1 : ldI m (8 + 3 * a) s = f (73 + 24 * a + s) := w.1
  have w2 : ldI m (9 + 3 * a) s = f (85 + 24 * a + s) := w.2
  have oth : ldI (xcM m (9 + 3 * h) i j) (8 + 3 * a) s = xf f (85 + 24 * h) i j (73 + 24 * a + s) := by
    rw [xc_o (by omega), xf_o (by omega) (by omega)]; exact w1
  have own : ldI (xcM m (9 + 3 * h) i j) (9 + 3 * a) s = xf f (85 + 24 * h) i j (85 + 24 * a + s) := by
    by_cases q : a = h
    · subst q
      by_cases q1 : s = j
      · subst q1; rw [xc_j, xf_j, w2]
      · by_cases q2 : s = i
        · subst q2; rw [xc_i hij, xf_i hij, w2]
        · rw [xc_o (by omega), xf_o (by omega) (by omega)]; exact w2
    · rw [xc_o (by omega), xf_o (by omega) (by omega)]; exact w2
  exact ⟨oth, own⟩
def sbT (f : Nat → Int32) (h : Nat) (T : (Nat → Int64) → Nat → Int64) (vol : Int32) (b : Nat) (K : Int32) (i j : Nat) (s : Int64 × Int32 × Int32 × Int32) : Int64 × Int32 × Int32 × Int32 :=
  if i ≠ j ∧ 0 < f (b + i) ∧ f (b + j) < 60 then (if vol ≤ mdH (xf f b i j) h 1 2 ∧ PvV (xf f b i j) h T (hd (xf f b i j)) < s.1 then (PvV (xf f b i j) h T (hd (xf f b i j)), K, nI i, nI j) else s) else s
def BtR (m : MM) (s : Int64 × Int32 × Int32 × Int32) : Prop := ldL m 159 5 = s.1 ∧ ldI m 159 6 = s.2.1 ∧ (s.2.1 = -1 ∨ (ldI m 159 7 = s.2.2.1 ∧ ldI m 159 8 = s.2.2.2))
theorem BtR.off {m m' : MM} {s : Int64 × Int32 × Int32 × Int32} {lo hi : Nat} (h : BtR m s) (o : Off lo hi m m') (hl : 159 < lo ∨ hi < 159) : BtR m' s := by
  obtain ⟨h1, h2, h3⟩ := h
  have q := o.2 159 (by omega)
  exact ⟨(q.2 5).trans h1, (q.1 6).trans h2, h3.imp id (fun z => ⟨(q.1 7).trans z.1, (q.1 8).trans z.2⟩)⟩
theorem BtR.wg {m : MM} {s : Int64 × Int32 × Int32 × Int32} {P : Int64} {x y z : Int32} (h : BtR m s) : BtR (wgM m P x y z) (if P < s.1 then (P, x, y, z) else s) := by
  unfold wgM
  rw [h.1]
  by_cases q : P < s.1
  · rw [if_pos q, if_pos q]
    exact ⟨show (if 159 = 159 ∧ 5 = 5 then P else ldL m 159 5) = P from if_pos ⟨rfl, rfl⟩, ld_n (by decide) (ld_n (by decide) ld_s), Or.inr ⟨ld_n (by decide) ld_s, ld_s⟩⟩
  · rw [if_neg q, if_neg q]; exact h
theorem wgM_off {m : MM} {P : Int64} {x y z : Int32} : Off 159 159 m (wgM m P x y z) := by
  unfold wgM
  by_cases q : P < ldL m 159 5
  · rw [if_pos q]; exact (((Off.rf.stL (by omega) (by omega)).stI (by omega) (by omega)).stI (by omega) (by omega)).stI (by omega) (by omega)
  · rw [if_neg q]; exact Off.rf
theorem i32_m1p1 (x : Int32) : x - 1 + 1 = x := by rw [← Int32.toBitVec_inj]; simp
theorem i32_p1m1 (x : Int32) : x + 1 - 1 = x := by rw [← Int32.toBitVec_inj]; simp
theorem ite_and_l {p q : Prop} [Decidable p] [Decidable q] {α : Type} {a b : α} (h : p) : (if p ∧ q then a else b) = if q then a else b := by
  by_cases z : q
  · rw [if_pos ⟨h, z⟩, if_pos z]
  · rw [if_neg (fun w => z w.2), if_neg z]
theorem iv_inc0 {x : Int32} (h : iv 0 60 x) (h2 : x < 60) : 0 < x + 1 := by
  have := iv_inc h h2
  unfold iv at *
  rw [Int32.lt_iff_toInt_lt] at *
  have q : (60 : Int32).toInt = 60 := rfl
  have e : (x + 1).toInt = x.toInt + 1 := by
    rw [Int32.toInt_add]; show Int.bmod (x.toInt + 1) (2 ^ 32) = _
    rw [Int.bmod_eq_of_le (by omega) (by omega)]
  have q0 : (0 : Int32).toInt = 0 := rfl
  omega
theorem iv_dec60 {x : Int32} (h : iv 0 60 x) (h2 : 0 < x) : x - 1 < 60 := by
  unfold iv at *
  rw [Int32.lt_iff_toInt_lt] at *
  have q : (60 : Int32).toInt = 60 := rfl
  have q0 : (0 : Int32).toInt = 0 := rfl
  have e : (x - 1).toInt = x.toInt - 1 := by
    rw [Int32.toInt_sub]; show Int.bmod (x.toInt - 1) (2 ^ 32) = _
    rw [Int.bmod_eq_of_le (by omega) (by omega)]
  omega
theorem BtR.xc {m : MM} {s : Int64 × Int32 × Int32 × Int32} {r i j : Nat} (h : BtR m s) (hr : r ≠ 159) : BtR (xcM m r i j) s := by
  obtain ⟨h1, h2, h3⟩ := h
  exact ⟨h1, (xc_o (by omega)).trans h2, h3.imp id (fun z => ⟨(xc_o (by omega)).trans z.1, (xc_o (by omega)).trans z.2⟩)⟩
theorem Off_back {m M : MM} {r i j : Nat} (hij : i ≠ j) (hr : r < 159) (o : Off 159 166 (xcM m r i j) M) : Off 159 166 m (xcM M r j i) := by
  refine ⟨o.1, fun a ha => ⟨fun k => ?_, fun k => (o.2 a ha).2 k⟩⟩
  by_cases q : a = r
  · subst q
    by_cases q1 : k = i
    · subst q1; rw [xc_j, (o.2 a ha).1 k, xc_i hij, i32_m1p1]
    · by_cases q2 : k = j
      · subst q2; rw [xc_i (Ne.symm hij), (o.2 a ha).1 k, xc_j, i32_p1m1]
      · rw [xc_o (by omega), (o.2 a ha).1 k, xc_o (by omega)]
  · rw [xc_o (by omega), (o.2 a ha).1 k, xc_o (by omega)]
theorem XF_of0 {f : Nat → Int32} {m : MM} {h i j : Nat} (hW : Wd f 5 m) (hh : h < nH f) (hi : i < nS f h) (hj : j < nS f h) : (XC m (8 + 3 * h) i j) = (XF f (73 + 24 * h) i j) := by
  have w := (hW.2.1 h hh).2.2
  unfold XC XF
  rw [show ldI m (8 + 3 * h) i = f (73 + 24 * h + i) from (w i hi).1, show ldI m (8 + 3 * h) j = f (73 + 24 * h + j) from (w j hj).1]
theorem T_back0 {g : GG} {m : MM} {Q : Out → Prop} (hF : Fx m) {f : Nat → Int32} (hV : Vf f) (hW : Wd f 5 m) {h : Nat} (hh0 : f 27 = nI h) (hh : h < nH f) {p : Nat} {T : (Nat → Int64) → Nat → Int64} (hp : Pr T p m) {i j : Nat} (hi : i < nS f h) (hj : j < nS f h) (hx : XC m (8 + 3 * h) i j) {vol : Int32} {M : MM} (o : Off 159 166 (xcM m (8 + 3 * h) i j) M) (k : Wp g mX0_seekBetter 5 0 0 146 [.ref 159, .ref p, .ref (7 + 3 * h), .int vol, .int 0, .int (nI i), .int (nI j)] [] (xcM M (8 + 3 * h) j i) Q) : Wp g mX0_seekBetter 5 0 0 136 [.ref 159, .ref p, .ref (7 + 3 * h), .int vol, .int 0, .int (nI i), .int (nI j)] [] M Q := by
  have hn6 := hV.1.1.2
  have hX : XF f (73 + 24 * h) i j := (XF_of0 hW hh hi hj).mp hx
  have hV1 := Vf_xf0 hV hh hi hj hX
  have hW1 := Wd_xf0 hV hW hh hi hj hX.1
  have h12 := (hV.2.1 h hh).2.2.2.1
  have nHe : nH (xf f (73 + 24 * h) i j) = nH f := by unfold nH; rw [xf_o (by omega) (by omega)]
  have nSe : nS (xf f (73 + 24 * h) i j) h = nS f h := by unfold nS; rw [xf_o (by omega) (by omega)]
  have hh1 : h < nH (xf f (73 + 24 * h) i j) := by rw [nHe]; exact hh
  have hi1 : i < nS (xf f (73 + 24 * h) i j) h := by rw [nSe]; exact hi
  have hj1 : j < nS (xf f (73 + 24 * h) i j) h := by rw [nSe]; exact hj
  have hFM : Fx M := Fx_of o.1 hF
  have hWM : Wd (xf f (73 + 24 * h) i j) 5 M := hW1.off o (by omega) (by rw [nHe]; exact hn6)
  have u := (hV.2.1 h hh).2.2.2.2
  have w := (hW.2.1 h hh).2.2
  have hxM : XC M (8 + 3 * h) j i := by
    refine ⟨Ne.symm hX.1, ?_, ?_⟩
    · rw [(o.2 _ (by omega)).1 j, xc_j, show ldI m (8 + 3 * h) j = f (73 + 24 * h + j) from (w j hj).1]; exact iv_inc0 (u j hj).1 hX.2.2
    · rw [(o.2 _ (by omega)).1 i, xc_i hX.1, show ldI m (8 + 3 * h) i = f (73 + 24 * h + i) from (w i hi).1]; exact iv_dec60 (u i hi).1 hX.2.1
  refine r_aload_n dX0_seekBetter_136 rfl ?_
  refine r_iload dX0_seekBetter_137 rfl ?_
  refine r_iload dX0_seekBetter_139 rfl ?_
  refine r_iload dX0_seekBetter_141 rfl ?_
  refine r_callV3 (ci := 1) (d1 := 2) (c1 := 0) (n1 := 0) dX0_seekBetter_143 mvX0_262 rfl ⟨(Nat.le_of_ble_eq_true rfl), rfl⟩ (Nat.le_of_ble_eq_true rfl) (by exact Nat.le_of_ble_eq_true rfl) (by exact hu0_k hFM (by omega)) ?_
  refine S_exch0 (i := j) (j := i) (by exact hu0_k hFM (by omega)) (by exact hb0_r hFM (by omega)) (by exact hb0_k hFM (by omega)) (by exact hd0_r hFM (by omega)) (by exact hd0_k hFM (by omega)) (by exact (hWM.2.1 h hh1).2.1.trans (hV1.2.1 h hh1).2.1) (hV1.2.1 h hh1).2.2.2.1 hj1 hi1 hxM ?_
  show Wp g mX0_seekBetter _ _ _ 146 _ [] _ Q
  exact k
theorem XF_of1 {f : Nat → Int32} {m : MM} {h i j : Nat} (hW : Wd f 5 m) (hh : h < nH f) (hi : i < nS f h) (hj : j < nS f h) : (XC m (9 + 3 * h) i j) = (XF f (85 + 24 * h) i j) := by
  have w := (hW.2.1 h hh).2.2
  unfold XC XF
  rw [show ldI m (9 + 3 * h) i = f (85 + 24 * h + i) from (w i hi).2, show ldI m (9 + 3 * h) j = f (85 + 24 * h + j) from (w j hj).2]
theorem T_back1 {g : GG} {m : MM} {Q : Out → Prop} (hF : Fx m) {f : Nat → Int32} (hV : Vf f) (hW : Wd f 5 m) {h : Nat} (hh0 : f 27 = nI h) (hh : h < nH f) {p : Nat} {T : (Nat → Int64) → Nat → Int64} (hp : Pr T p m) {i j : Nat} (hi : i < nS f h) (hj : j < nS f h) (hx : XC m (9 + 3 * h) i j) {vol : Int32} {M : MM} (o : Off 159 166 (xcM m (9 + 3 * h) i j) M) (k : Wp g mX0_seekBetter 5 0 0 146 [.ref 159, .ref p, .ref (7 + 3 * h), .int vol, .int 1, .int (nI i), .int (nI j)] [] (xcM M (9 + 3 * h) j i) Q) : Wp g mX0_seekBetter 5 0 0 136 [.ref 159, .ref p, .ref (7 + 3 * h), .int vol, .int 1, .int (nI i), .int (nI j)] [] M Q := by
  have hn6 := hV.1.1.2
  have hX : XF f (85 + 24 * h) i j := (XF_of1 hW hh hi hj).mp hx
  have hV1 := Vf_xf1 hV hh hi hj hX
  have hW1 := Wd_xf1 hV hW hh hi hj hX.1
  have h12 := (hV.2.1 h hh).2.2.2.1
  have nHe : nH (xf f (85 + 24 * h) i j) = nH f := by unfold nH; rw [xf_o (by omega) (by omega)]
  have nSe : nS (xf f (85 + 24 * h) i j) h = nS f h := by unfold nS; rw [xf_o (by omega) (by omega)]
  have hh1 : h < nH (xf f (85 + 24 * h) i j) := by rw [nHe]; exact hh
  have hi1 : i < nS (xf f (85 + 24 * h) i j) h := by rw [nSe]; exact hi
  have hj1 : j < nS (xf f (85 + 24 * h) i j) h := by rw [nSe]; exact hj
  have hFM : Fx M := Fx_of o.1 hF
  have hWM : Wd (xf f (85 + 24 * h) i j) 5 M := hW1.off o (by omega) (by rw [nHe]; exact hn6)
  have u := (hV.2.1 h hh).2.2.2.2
  have w := (hW.2.1 h hh).2.2
  have hxM : XC M (9 + 3 * h) j i := by
    refine ⟨Ne.symm hX.1, ?_, ?_⟩
    · rw [(o.2 _ (by omega)).1 j, xc_j, show ldI m (9 + 3 * h) j = f (85 + 24 * h + j) from (w j hj).2]; exact iv_inc0 (u j hj).2 hX.2.2
    · rw [(o.2 _ (by omega)).1 i, xc_i hX.1, show ldI m (9 + 3 * h) i = f (85 + 24 * h + i) from (w i hi).2]; exact iv_dec60 (u i hi).2 hX.2.1
  refine r_aload_n dX0_seekBetter_136 rfl ?_
  refine r_iload dX0_seekBetter_137 rfl ?_
  refine r_iload dX0_seekBetter_139 rfl ?_
  refine r_iload dX0_seekBetter_141 rfl ?_
  refine r_callV3 (ci := 1) (d1 := 2) (c1 := 0) (n1 := 0) dX0_seekBetter_143 mvX0_262 rfl ⟨(Nat.le_of_ble_eq_true rfl), rfl⟩ (Nat.le_of_ble_eq_true rfl) (by exact Nat.le_of_ble_eq_true rfl) (by exact hu0_k hFM (by omega)) ?_
  refine S_exch1 (i := j) (j := i) (by exact hu0_k hFM (by omega)) (by exact hb0_r hFM (by omega)) (by exact hb0_k hFM (by omega)) (by exact hd0_r hFM (by omega)) (by exact hd0_k hFM (by omega)) (by exact (hWM.2.1 h hh1).2.1.trans (hV1.2.1 h hh1).2.1) (hV1.2.1 h hh1).2.2.2.1 hj1 hi1 hxM ?_
  show Wp g mX0_seekBetter _ _ _ 146 _ [] _ Q
  exact k
theorem T_try0 {g : GG} {m : MM} {Q : Out → Prop} (hF : Fx m) {f : Nat → Int32} (hV : Vf f) (hW : Wd f 5 m) {h : Nat} (hh0 : f 27 = nI h) (hh : h < nH f) {p : Nat} {T : (Nat → Int64) → Nat → Int64} (hp : Pr T p m) {i j : Nat} (hi : i < nS f h) (hj : j < nS f h) (hx : XC m (8 + 3 * h) i j) {vol : Int32} {s : Int64 × Int32 × Int32 × Int32} (hB : BtR m s) (k : ∀ m2, Off 159 166 m m2 → BtR m2 (sbT f h T vol (73 + 24 * h) 0 i j s) → Wp g mX0_seekBetter 5 0 0 146 [.ref 159, .ref p, .ref (7 + 3 * h), .int vol, .int 0, .int (nI i), .int (nI j)] [] m2 Q) : Wp g mX0_seekBetter 5 0 0 99 [.ref 159, .ref p, .ref (7 + 3 * h), .int vol, .int 0, .int (nI i), .int (nI j)] [] m Q := by
  have hn6 := hV.1.1.2
  have hX : XF f (73 + 24 * h) i j := (XF_of0 hW hh hi hj).mp hx
  have hV1 := Vf_xf0 hV hh hi hj hX
  have hW1 := Wd_xf0 hV hW hh hi hj hX.1
  have h12 := (hV.2.1 h hh).2.2.2.1
  have nHe : nH (xf f (73 + 24 * h) i j) = nH f := by unfold nH; rw [xf_o (by omega) (by omega)]
  have hh1 : h < nH (xf f (73 + 24 * h) i j) := by rw [nHe]; exact hh
  have hh01 : xf f (73 + 24 * h) i j 27 = nI h := by rw [xf_o (by omega) (by omega)]; exact hh0
  have hF1 : Fx (xcM m (8 + 3 * h) i j) := hF
  have hp1 : Pr T p (xcM m (8 + 3 * h) i j) := hp.off (lo := 0) (hi := 100) ⟨rfl, fun a ha => ⟨fun k => xc_o (by omega), fun _ => rfl⟩⟩ (by omega)
  refine r_aload_n dX0_seekBetter_99 rfl ?_
  refine r_iload dX0_seekBetter_100 rfl ?_
  refine r_iload dX0_seekBetter_102 rfl ?_
  refine r_iload dX0_seekBetter_104 rfl ?_
  refine r_callV3 (ci := 1) (d1 := 2) (c1 := 0) (n1 := 0) dX0_seekBetter_106 mvX0_262 rfl ⟨(Nat.le_of_ble_eq_true rfl), rfl⟩ (Nat.le_of_ble_eq_true rfl) (by exact Nat.le_of_ble_eq_true rfl) (by exact hu0_k hF (by omega)) ?_
  refine S_exch0 (by exact hu0_k hF (by omega)) (by exact hb0_r hF (by omega)) (by exact hb0_k hF (by omega)) (by exact hd0_r hF (by omega)) (by exact hd0_k hF (by omega)) (by exact (hW.2.1 h hh).2.1.trans (hV.2.1 h hh).2.1) (hV.2.1 h hh).2.2.2.1 hi hj hx ?_
  show Wp g mX0_seekBetter _ _ _ 109 _ [] _ Q
  refine r_aload_n dX0_seekBetter_109 rfl ?_
  refine r_aload_n dX0_seekBetter_110 rfl ?_
  refine r_aload_n dX0_seekBetter_111 rfl ?_
  refine r_aload_n dX0_seekBetter_112 rfl ?_
  refine r_iconst (1) dX0_seekBetter_113 rfl ?_
  refine r_iconst (2) dX0_seekBetter_114 rfl ?_
  refine r_callV3 (ci := 0) (d1 := 2) (c1 := 0) (n1 := 0) dX0_seekBetter_115 mvX0_198 rfl ⟨(Nat.le_of_ble_eq_true rfl), rfl⟩ (Nat.le_of_ble_eq_true rfl) (by exact Nat.le_of_ble_eq_true rfl) (by exact k_159 hF) ?_
  refine S_modelPart2 hF1 hV1 hW1 hh1 (fun m2 q2 => ?_)
  have hF2 := Fx_of q2.1 hF1
  have hW2 := hW1.off q2 (by omega) (by rw [nHe]; exact hn6)
  show Wp g mX0_seekBetter _ _ _ 118 _ (_ :: _) _ Q
  refine r_iload_n dX0_seekBetter_118 rfl ?_
  refine r_icmp_lt 126 dX0_seekBetter_119 rfl (fun h1 => ?_) (fun h1 => ?_)
  ·
    refine r_iconst (0) dX0_seekBetter_126 rfl ?_
    refine r_iload dX0_seekBetter_127 rfl ?_
    refine r_iload dX0_seekBetter_129 rfl ?_
    refine r_iload dX0_seekBetter_131 rfl ?_
    refine r_callV5 (ci := 0) (d1 := 4) (c1 := 0) (n1 := 0) dX0_seekBetter_133 mvX0_266 rfl ⟨(Nat.le_of_ble_eq_true rfl), rfl⟩ (Nat.le_of_ble_eq_true rfl) (by exact Nat.le_of_ble_eq_true rfl) (by exact k_159 hF2) ?_
    refine S_weigh0 ?_
    show Wp g mX0_seekBetter _ _ _ 136 _ [] _ Q
    refine T_back0 hF hV hW hh0 hh hp hi hj hx (M := m2) (q2.wd (by omega) (by omega)) (k _ (Off_back hX.1 (by omega) (q2.wd (by omega) (by omega))) ?_)
    have hb9 := ((hB.xc (r := (8 + 3 * h)) (i := i) (j := j) (by omega)).off q2 (by omega)).xc (r := (8 + 3 * h)) (i := j) (j := i) (by omega)
    rw [sbT, if_pos (show i ≠ j ∧ 0 < f (73 + 24 * h + i) ∧ f (73 + 24 * h + j) < 60 from hX), if_neg (fun q => i32_nle.mpr h1 q.1)]; exact hb9
  ·
    refine r_iconst (1) dX0_seekBetter_122 rfl ?_
    refine r_goto 127 dX0_seekBetter_123 rfl ?_
    refine r_iload dX0_seekBetter_127 rfl ?_
    refine r_iload dX0_seekBetter_129 rfl ?_
    refine r_iload dX0_seekBetter_131 rfl ?_
    refine r_callV5 (ci := 0) (d1 := 4) (c1 := 0) (n1 := 0) dX0_seekBetter_133 mvX0_266 rfl ⟨(Nat.le_of_ble_eq_true rfl), rfl⟩ (Nat.le_of_ble_eq_true rfl) (by exact Nat.le_of_ble_eq_true rfl) (by exact k_159 hF2) ?_
    refine S_weigh1 hF2 hV1 hW2 hh01 hh1 (hp1.off q2 (by omega)) (fun m3 q3 => ?_)
    show Wp g mX0_seekBetter _ _ _ 136 _ [] _ Q
    have q9 := ((q2.tr q3).wd (lo2 := 159) (hi2 := 166) (by omega) (by omega)).tr ((wgM_off (m := m3) (P := PvV (xf f (73 + 24 * h) i j) h T (hd (xf f (73 + 24 * h) i j))) (x := 0) (y := nI i) (z := nI j)).wd (by omega) (by omega))
    refine T_back0 hF hV hW hh0 hh hp hi hj hx q9 (k _ (Off_back hX.1 (by omega) q9) ?_)
    have hb9 := ((((hB.xc (r := (8 + 3 * h)) (i := i) (j := j) (by omega)).off q2 (by omega)).off q3 (by omega)).wg (P := PvV (xf f (73 + 24 * h) i j) h T (hd (xf f (73 + 24 * h) i j))) (x := 0) (y := nI i) (z := nI j)).xc (r := (8 + 3 * h)) (i := j) (j := i) (by omega)
    rw [sbT, if_pos (show i ≠ j ∧ 0 < f (73 + 24 * h + i) ∧ f (73 + 24 * h + j) < 60 from hX), ite_and_l (i32_nlt.mp h1)]; exact hb9
theorem T_try1 {g : GG} {m : MM} {Q : Out → Prop} (hF : Fx m) {f : Nat → Int32} (hV : Vf f) (hW : Wd f 5 m) {h : Nat} (hh0 : f 27 = nI h) (hh : h < nH f) {p : Nat} {T : (Nat → Int64) → Nat → Int64} (hp : Pr T p m) {i j : Nat} (hi : i < nS f h) (hj : j < nS f h) (hx : XC m (9 + 3 * h) i j) {vol : Int32} {s : Int64 × Int32 × Int32 × Int32} (hB : BtR m s) (k : ∀ m2, Off 159 166 m m2 → BtR m2 (sbT f h T vol (85 + 24 * h) 1 i j s) → Wp g mX0_seekBetter 5 0 0 146 [.ref 159, .ref p, .ref (7 + 3 * h), .int vol, .int 1, .int (nI i), .int (nI j)] [] m2 Q) : Wp g mX0_seekBetter 5 0 0 99 [.ref 159, .ref p, .ref (7 + 3 * h), .int vol, .int 1, .int (nI i), .int (nI j)] [] m Q := by
  have hn6 := hV.1.1.2
  have hX : XF f (85 + 24 * h) i j := (XF_of1 hW hh hi hj).mp hx
  have hV1 := Vf_xf1 hV hh hi hj hX
  have hW1 := Wd_xf1 hV hW hh hi hj hX.1
  have h12 := (hV.2.1 h hh).2.2.2.1
  have nHe : nH (xf f (85 + 24 * h) i j) = nH f := by unfold nH; rw [xf_o (by omega) (by omega)]
  have hh1 : h < nH (xf f (85 + 24 * h) i j) := by rw [nHe]; exact hh
  have hh01 : xf f (85 + 24 * h) i j 27 = nI h := by rw [xf_o (by omega) (by omega)]; exact hh0
  have hF1 : Fx (xcM m (9 + 3 * h) i j) := hF
  have hp1 : Pr T p (xcM m (9 + 3 * h) i j) := hp.off (lo := 0) (hi := 100) ⟨rfl, fun a ha => ⟨fun k => xc_o (by omega), fun _ => rfl⟩⟩ (by omega)
  refine r_aload_n dX0_seekBetter_99 rfl ?_
  refine r_iload dX0_seekBetter_100 rfl ?_
  refine r_iload dX0_seekBetter_102 rfl ?_
  refine r_iload dX0_seekBetter_104 rfl ?_
  refine r_callV3 (ci := 1) (d1 := 2) (c1 := 0) (n1 := 0) dX0_seekBetter_106 mvX0_262 rfl ⟨(Nat.le_of_ble_eq_true rfl), rfl⟩ (Nat.le_of_ble_eq_true rfl) (by exact Nat.le_of_ble_eq_true rfl) (by exact hu0_k hF (by omega)) ?_
  refine S_exch1 (by exact hu0_k hF (by omega)) (by exact hb0_r hF (by omega)) (by exact hb0_k hF (by omega)) (by exact hd0_r hF (by omega)) (by exact hd0_k hF (by omega)) (by exact (hW.2.1 h hh).2.1.trans (hV.2.1 h hh).2.1) (hV.2.1 h hh).2.2.2.1 hi hj hx ?_
  show Wp g mX0_seekBetter _ _ _ 109 _ [] _ Q
  refine r_aload_n dX0_seekBetter_109 rfl ?_
  refine r_aload_n dX0_seekBetter_110 rfl ?_
  refine r_aload_n dX0_seekBetter_111 rfl ?_
  refine r_aload_n dX0_seekBetter_112 rfl ?_
  refine r_iconst (1) dX0_seekBetter_113 rfl ?_
  refine r_iconst (2) dX0_seekBetter_114 rfl ?_
  refine r_callV3 (ci := 0) (d1 := 2) (c1 := 0) (n1 := 0) dX0_seekBetter_115 mvX0_198 rfl ⟨(Nat.le_of_ble_eq_true rfl), rfl⟩ (Nat.le_of_ble_eq_true rfl) (by exact Nat.le_of_ble_eq_true rfl) (by exact k_159 hF) ?_
  refine S_modelPart2 hF1 hV1 hW1 hh1 (fun m2 q2 => ?_)
  have hF2 := Fx_of q2.1 hF1
  have hW2 := hW1.off q2 (by omega) (by rw [nHe]; exact hn6)
  show Wp g mX0_seekBetter _ _ _ 118 _ (_ :: _) _ Q
  refine r_iload_n dX0_seekBetter_118 rfl ?_
  refine r_icmp_lt 126 dX0_seekBetter_119 rfl (fun h1 => ?_) (fun h1 => ?_)
  ·
    refine r_iconst (0) dX0_seekBetter_126 rfl ?_
    refine r_iload dX0_seekBetter_127 rfl ?_
    refine r_iload dX0_seekBetter_129 rfl ?_
    refine r_iload dX0_seekBetter_131 rfl ?_
    refine r_callV5 (ci := 0) (d1 := 4) (c1 := 0) (n1 := 0) dX0_seekBetter_133 mvX0_266 rfl ⟨(Nat.le_of_ble_eq_true rfl), rfl⟩ (Nat.le_of_ble_eq_true rfl) (by exact Nat.le_of_ble_eq_true rfl) (by exact k_159 hF2) ?_
    refine S_weigh0 ?_
    show Wp g mX0_seekBetter _ _ _ 136 _ [] _ Q
    refine T_back1 hF hV hW hh0 hh hp hi hj hx (M := m2) (q2.wd (by omega) (by omega)) (k _ (Off_back hX.1 (by omega) (q2.wd (by omega) (by omega))) ?_)
    have hb9 := ((hB.xc (r := (9 + 3 * h)) (i := i) (j := j) (by omega)).off q2 (by omega)).xc (r := (9 + 3 * h)) (i := j) (j := i) (by omega)
    rw [sbT, if_pos (show i ≠ j ∧ 0 < f (85 + 24 * h + i) ∧ f (85 + 24 * h + j) < 60 from hX), if_neg (fun q => i32_nle.mpr h1 q.1)]; exact hb9
  ·
    refine r_iconst (1) dX0_seekBetter_122 rfl ?_
    refine r_goto 127 dX0_seekBetter_123 rfl ?_
    refine r_iload dX0_seekBetter_127 rfl ?_
    refine r_iload dX0_seekBetter_129 rfl ?_
    refine r_iload dX0_seekBetter_131 rfl ?_
    refine r_callV5 (ci := 0) (d1 := 4) (c1 := 0) (n1 := 0) dX0_seekBetter_133 mvX0_266 rfl ⟨(Nat.le_of_ble_eq_true rfl), rfl⟩ (Nat.le_of_ble_eq_true rfl) (by exact Nat.le_of_ble_eq_true rfl) (by exact k_159 hF2) ?_
    refine S_weigh1 hF2 hV1 hW2 hh01 hh1 (hp1.off q2 (by omega)) (fun m3 q3 => ?_)
    show Wp g mX0_seekBetter _ _ _ 136 _ [] _ Q
    have q9 := ((q2.tr q3).wd (lo2 := 159) (hi2 := 166) (by omega) (by omega)).tr ((wgM_off (m := m3) (P := PvV (xf f (85 + 24 * h) i j) h T (hd (xf f (85 + 24 * h) i j))) (x := 1) (y := nI i) (z := nI j)).wd (by omega) (by omega))
    refine T_back1 hF hV hW hh0 hh hp hi hj hx q9 (k _ (Off_back hX.1 (by omega) q9) ?_)
    have hb9 := ((((hB.xc (r := (9 + 3 * h)) (i := i) (j := j) (by omega)).off q2 (by omega)).off q3 (by omega)).wg (P := PvV (xf f (85 + 24 * h) i j) h T (hd (xf f (85 + 24 * h) i j))) (x := 1) (y := nI i) (z := nI j)).xc (r := (9 + 3 * h)) (i := j) (j := i) (by omega)
    rw [sbT, if_pos (show i ≠ j ∧ 0 < f (85 + 24 * h + i) ∧ f (85 + 24 * h + j) < 60 from hX), ite_and_l (i32_nlt.mp h1)]; exact hb9
def sbF (f : Nat → Int32) (h : Nat) (T : (Nat → Int64) → Nat → Int64) (vol : Int32) (n : Nat) (s0 : Int64 × Int32 × Int32 × Int32) : Nat → Int64 × Int32 × Int32 × Int32
  | 0 => s0
  | v + 1 => sbT f h T vol (if v / (n * n) = 0 then 73 + 24 * h else 85 + 24 * h) (nI (v / (n * n))) (v / n % n) (v % n) (sbF f h T vol n s0 v)
theorem sb_ix {K n i j : Nat} (hi : i < n) (hj : j < n) : (K * (n * n) + i * n + j) / (n * n) = K ∧ (K * (n * n) + i * n + j) / n % n = i ∧ (K * (n * n) + i * n + j) % n = j := by
  have hn : 0 < n := by omega
  have e : K * (n * n) + i * n + j = n * (n * K + i) + j := by
    rw [Nat.mul_add, ← Nat.mul_assoc n n K, Nat.mul_comm K (n * n), Nat.mul_comm i n]
  have e1 : (K * (n * n) + i * n + j) / n = n * K + i := by rw [e, Nat.mul_add_div hn, Nat.div_eq_of_lt hj, Nat.add_zero]
  refine ⟨?_, ?_, ?_⟩
  · rw [← Nat.div_div_eq_div_mul, e1, Nat.mul_add_div hn, Nat.div_eq_of_lt hi, Nat.add_zero]
  · rw [e1, Nat.mul_add_mod, Nat.mod_eq_of_lt hi]
  · rw [e, Nat.mul_add_mod, Nat.mod_eq_of_lt hj]
theorem sb_step0 {f : Nat → Int32} {h : Nat} {T : (Nat → Int64) → Nat → Int64} {vol : Int32} {n : Nat} {s0 : Int64 × Int32 × Int32 × Int32} {i j : Nat} (hi : i < n) (hj : j < n) : sbF f h T vol n s0 (0 * (n * n) + i * n + j + 1) = sbT f h T vol (73 + 24 * h) 0 i j (sbF f h T vol n s0 (0 * (n * n) + i * n + j)) := by
  obtain ⟨e1, e2, e3⟩ := sb_ix (K := 0) hi hj
  show sbT f h T vol (if _ = 0 then _ else _) (nI _) _ _ _ = _
  rw [e1, e2, e3]; rfl
theorem L_sj0 {g : GG} {m : MM} {Q : Out → Prop} (hF : Fx m) {f : Nat → Int32} (hV : Vf f) (hW : Wd f 5 m) {h : Nat} (hh0 : f 27 = nI h) (hh : h < nH f) {p : Nat} {T : (Nat → Int64) → Nat → Int64} (hp : Pr T p m) {vol : Int32} {s0 : Int64 × Int32 × Int32 × Int32} {gi : Nat} (hgi : gi < nS f h)  (kx : ∀ (m1 : MM), (Off 159 166 m m1 ∧ BtR m1 (sbF f h T vol (nS f h) s0 (0 * (nS f h * nS f h) + gi * nS f h + (nS f h)))) → Wp g mX0_seekBetter 5 0 0 152 [.ref 159, .ref p, .ref (7 + 3 * h), .int vol, .int 0, .int (nI gi), .int (nI (nS f h))] [] (m1) Q) : ∀ (t i : Nat) (m1 : MM), i + t = (nS f h) → (Off 159 166 m m1 ∧ BtR m1 (sbF f h T vol (nS f h) s0 (0 * (nS f h * nS f h) + gi * nS f h + i))) → Wp g mX0_seekBetter 5 0 0 77 [.ref 159, .ref p, .ref (7 + 3 * h), .int vol, .int 0, .int (nI gi), .int (nI i)] [] (m1) Q := by
  intro t
  induction t with
  | zero =>
    intro i m1 hi hI
    have hi : i = (nS f h) := by omega
    subst hi
    have hn6 := hV.1.1.2
    have h12 := (hV.2.1 h hh).2.2.2.1
    have hF1 := Fx_of hI.1.1 hF
    have hW1 := hW.off hI.1 (by omega) hn6
    refine r_iload dX0_seekBetter_77 rfl ?_
    refine r_aload_n dX0_seekBetter_79 rfl ?_
    refine r_getIc (nI (nS f h)) dX0_seekBetter_80 fgX0_253 rfl (by exact hu0_k hF1 (by omega)) (by exact (hW1.2.1 h hh).2.1.trans (hV.2.1 h hh).2.1) ?_
    refine r_icmp_ge 152 dX0_seekBetter_83 rfl (fun h1 => ?_) (fun h1 => ?_)
    ·
      exact kx _ hI
    ·
      exact absurd (nI_le (Nat.le_refl _) (by omega)) h1
  | succ t ih =>
    intro i m1 hi hI
    have hin : i < (nS f h) := by omega
    have hn6 := hV.1.1.2
    have h12 := (hV.2.1 h hh).2.2.2.1
    have hF1 := Fx_of hI.1.1 hF
    have hW1 := hW.off hI.1 (by omega) hn6
    refine r_iload dX0_seekBetter_77 rfl ?_
    refine r_aload_n dX0_seekBetter_79 rfl ?_
    refine r_getIc (nI (nS f h)) dX0_seekBetter_80 fgX0_253 rfl (by exact hu0_k hF1 (by omega)) (by exact (hW1.2.1 h hh).2.1.trans (hV.2.1 h hh).2.1) ?_
    refine r_icmp_ge 152 dX0_seekBetter_83 rfl (fun h1 => ?_) (fun h1 => ?_)
    ·
      exact absurd h1 (nI_ge hin (by omega))
    ·
      refine r_aload_n dX0_seekBetter_86 rfl ?_
      refine r_iload dX0_seekBetter_87 rfl ?_
      refine r_iload dX0_seekBetter_89 rfl ?_
      refine r_iload dX0_seekBetter_91 rfl ?_
      refine r_callV3 (ci := 1) (d1 := 1) (c1 := 0) (n1 := 0) dX0_seekBetter_93 mvX0_258 rfl ⟨(Nat.le_of_ble_eq_true rfl), rfl⟩ (Nat.le_of_ble_eq_true rfl) (by exact Nat.le_of_ble_eq_true rfl) (by exact hu0_k hF1 (by omega)) ?_
      refine S_can0 (by exact hu0_k hF1 (by omega)) (by exact hb0_r hF1 (by omega)) (by exact hb0_k hF1 (by omega)) (by exact hd0_r hF1 (by omega)) (by exact hd0_k hF1 (by omega)) (by exact (hW1.2.1 h hh).2.1.trans (hV.2.1 h hh).2.1) (hV.2.1 h hh).2.2.2.1 hgi hin (fun hx => ?_) (fun hx => ?_)
      ·
        show Wp g mX0_seekBetter _ _ _ 96 _ (_ :: _) _ Q
        refine r_if_eq 146 dX0_seekBetter_96 rfl (fun hz => absurd hz (by decide)) (fun _ => ?_)
        refine T_try0 hF1 hV hW1 hh0 hh (hp.off hI.1 (by omega)) hgi hin hx hI.2 (fun m2 q2 hb2 => ?_)
        refine ic_6 (1) dX0_seekBetter_146 rfl rfl (Nat.le_of_ble_eq_true rfl) ?_
        refine r_goto 77 dX0_seekBetter_149 rfl ?_
        rw [nI_1 i]
        exact ih (i + 1) m2 (by omega) ⟨hI.1.tr q2, by rw [← Nat.add_assoc, sb_step0 hgi hin]; exact hb2⟩
      ·
        show Wp g mX0_seekBetter _ _ _ 96 _ (_ :: _) _ Q
        refine r_if_eq 146 dX0_seekBetter_96 rfl (fun _ => ?_) (fun hz => absurd hz (by decide))
        refine ic_6 (1) dX0_seekBetter_146 rfl rfl (Nat.le_of_ble_eq_true rfl) ?_
        refine r_goto 77 dX0_seekBetter_149 rfl ?_
        rw [nI_1 i]
        exact ih (i + 1) m1 (by omega) ⟨hI.1, by rw [← Nat.add_assoc, sb_step0 hgi hin, sbT, if_neg (show ¬ (gi ≠ i ∧ 0 < f (73 + 24 * h + gi) ∧ f (73 + 24 * h + i) < 60) from fun q => hx ((XF_of0 hW1 hh hgi hin).mpr q))]; exact hI.2⟩
theorem L_si0 {g : GG} {m : MM} {Q : Out → Prop} (hF : Fx m) {f : Nat → Int32} (hV : Vf f) (hW : Wd f 5 m) {h : Nat} (hh0 : f 27 = nI h) (hh : h < nH f) {p : Nat} {T : (Nat → Int64) → Nat → Int64} (hp : Pr T p m) {vol : Int32} {s0 : Int64 × Int32 × Int32 × Int32}  (kx : ∀ (x6 : Value) (m1 : MM), (Off 159 166 m m1 ∧ BtR m1 (sbF f h T vol (nS f h) s0 (0 * (nS f h * nS f h) + (nS f h) * nS f h + 0))) → Wp g mX0_seekBetter 5 0 0 158 [.ref 159, .ref p, .ref (7 + 3 * h), .int vol, .int 0, .int (nI (nS f h)), x6] [] (m1) Q) : ∀ (t i : Nat) (x6 : Value) (m1 : MM), i + t = (nS f h) → (Off 159 166 m m1 ∧ BtR m1 (sbF f h T vol (nS f h) s0 (0 * (nS f h * nS f h) + i * nS f h + 0))) → Wp g mX0_seekBetter 5 0 0 65 [.ref 159, .ref p, .ref (7 + 3 * h), .int vol, .int 0, .int (nI i), x6] [] (m1) Q := by
  intro t
  induction t with
  | zero =>
    intro i x6 m1 hi hI
    have hi : i = (nS f h) := by omega
    subst hi
    have hn6 := hV.1.1.2
    have h12 := (hV.2.1 h hh).2.2.2.1
    have hF1 := Fx_of hI.1.1 hF
    have hW1 := hW.off hI.1 (by omega) hn6
    refine r_iload dX0_seekBetter_65 rfl ?_
    refine r_aload_n dX0_seekBetter_67 rfl ?_
    refine r_getIc (nI (nS f h)) dX0_seekBetter_68 fgX0_253 rfl (by exact hu0_k hF1 (by omega)) (by exact (hW1.2.1 h hh).2.1.trans (hV.2.1 h hh).2.1) ?_
    refine r_icmp_ge 158 dX0_seekBetter_71 rfl (fun h1 => ?_) (fun h1 => ?_)
    ·
      exact kx _ _ hI
    ·
      exact absurd (nI_le (Nat.le_refl _) (by omega)) h1
  | succ t ih =>
    intro i x6 m1 hi hI
    have hin : i < (nS f h) := by omega
    have hn6 := hV.1.1.2
    have h12 := (hV.2.1 h hh).2.2.2.1
    have hF1 := Fx_of hI.1.1 hF
    have hW1 := hW.off hI.1 (by omega) hn6
    refine r_iload dX0_seekBetter_65 rfl ?_
    refine r_aload_n dX0_seekBetter_67 rfl ?_
    refine r_getIc (nI (nS f h)) dX0_seekBetter_68 fgX0_253 rfl (by exact hu0_k hF1 (by omega)) (by exact (hW1.2.1 h hh).2.1.trans (hV.2.1 h hh).2.1) ?_
    refine r_icmp_ge 158 dX0_seekBetter_71 rfl (fun h1 => ?_) (fun h1 => ?_)
    ·
      exact absurd h1 (nI_ge hin (by omega))
    ·
      refine r_iconst (0) dX0_seekBetter_74 rfl ?_
      refine si_6 dX0_seekBetter_75 rfl (Nat.le_of_ble_eq_true rfl) ?_
      refine L_sj0 hF hV hW hh0 hh hp (s0 := s0) hin (fun m2 hI2 => ?_) (nS f h) 0 m1 (by omega) hI
      refine ic_5 (1) dX0_seekBetter_152 rfl rfl (Nat.le_of_ble_eq_true rfl) ?_
      refine r_goto 65 dX0_seekBetter_155 rfl ?_
      rw [nI_1 i]
      exact ih (i + 1) _ m2 (by omega) ⟨hI2.1, by rw [Nat.succ_mul i (nS f h), ← Nat.add_assoc, Nat.add_zero]; exact hI2.2⟩
theorem sb_step1 {f : Nat → Int32} {h : Nat} {T : (Nat → Int64) → Nat → Int64} {vol : Int32} {n : Nat} {s0 : Int64 × Int32 × Int32 × Int32} {i j : Nat} (hi : i < n) (hj : j < n) : sbF f h T vol n s0 (1 * (n * n) + i * n + j + 1) = sbT f h T vol (85 + 24 * h) 1 i j (sbF f h T vol n s0 (1 * (n * n) + i * n + j)) := by
  obtain ⟨e1, e2, e3⟩ := sb_ix (K := 1) hi hj
  show sbT f h T vol (if _ = 0 then _ else _) (nI _) _ _ _ = _
  rw [e1, e2, e3]; rfl
theorem L_sj1 {g : GG} {m : MM} {Q : Out → Prop} (hF : Fx m) {f : Nat → Int32} (hV : Vf f) (hW : Wd f 5 m) {h : Nat} (hh0 : f 27 = nI h) (hh : h < nH f) {p : Nat} {T : (Nat → Int64) → Nat → Int64} (hp : Pr T p m) {vol : Int32} {s0 : Int64 × Int32 × Int32 × Int32} {gi : Nat} (hgi : gi < nS f h)  (kx : ∀ (m1 : MM), (Off 159 166 m m1 ∧ BtR m1 (sbF f h T vol (nS f h) s0 (1 * (nS f h * nS f h) + gi * nS f h + (nS f h)))) → Wp g mX0_seekBetter 5 0 0 152 [.ref 159, .ref p, .ref (7 + 3 * h), .int vol, .int 1, .int (nI gi), .int (nI (nS f h))] [] (m1) Q) : ∀ (t i : Nat) (m1 : MM), i + t = (nS f h) → (Off 159 166 m m1 ∧ BtR m1 (sbF f h T vol (nS f h) s0 (1 * (nS f h * nS f h) + gi * nS f h + i))) → Wp g mX0_seekBetter 5 0 0 77 [.ref 159, .ref p, .ref (7 + 3 * h), .int vol, .int 1, .int (nI gi), .int (nI i)] [] (m1) Q := by
  intro t
  induction t with
  | zero =>
    intro i m1 hi hI
    have hi : i = (nS f h) := by omega
    subst hi
    have hn6 := hV.1.1.2
    have h12 := (hV.2.1 h hh).2.2.2.1
    have hF1 := Fx_of hI.1.1 hF
    have hW1 := hW.off hI.1 (by omega) hn6
    refine r_iload dX0_seekBetter_77 rfl ?_
    refine r_aload_n dX0_seekBetter_79 rfl ?_
    refine r_getIc (nI (nS f h)) dX0_seekBetter_80 fgX0_253 rfl (by exact hu0_k hF1 (by omega)) (by exact (hW1.2.1 h hh).2.1.trans (hV.2.1 h hh).2.1) ?_
    refine r_icmp_ge 152 dX0_seekBetter_83 rfl (fun h1 => ?_) (fun h1 => ?_)
    ·
      exact kx _ hI
    ·
      exact absurd (nI_le (Nat.le_refl _) (by omega)) h1
  | succ t ih =>
    intro i m1 hi hI
    have hin : i < (nS f h) := by omega
    have hn6 := hV.1.1.2
    have h12 := (hV.2.1 h hh).2.2.2.1
    have hF1 := Fx_of hI.1.1 hF
    have hW1 := hW.off hI.1 (by omega) hn6
    refine r_iload dX0_seekBetter_77 rfl ?_
    refine r_aload_n dX0_seekBetter_79 rfl ?_
    refine r_getIc (nI (nS f h)) dX0_seekBetter_80 fgX0_253 rfl (by exact hu0_k hF1 (by omega)) (by exact (hW1.2.1 h hh).2.1.trans (hV.2.1 h hh).2.1) ?_
    refine r_icmp_ge 152 dX0_seekBetter_83 rfl (fun h1 => ?_) (fun h1 => ?_)
    ·
      exact absurd h1 (nI_ge hin (by omega))
    ·
      refine r_aload_n dX0_seekBetter_86 rfl ?_
      refine r_iload dX0_seekBetter_87 rfl ?_
      refine r_iload dX0_seekBetter_89 rfl ?_
      refine r_iload dX0_seekBetter_91 rfl ?_
      refine r_callV3 (ci := 1) (d1 := 1) (c1 := 0) (n1 := 0) dX0_seekBetter_93 mvX0_258 rfl ⟨(Nat.le_of_ble_eq_true rfl), rfl⟩ (Nat.le_of_ble_eq_true rfl) (by exact Nat.le_of_ble_eq_true rfl) (by exact hu0_k hF1 (by omega)) ?_
      refine S_can1 (by exact hu0_k hF1 (by omega)) (by exact hb0_r hF1 (by omega)) (by exact hb0_k hF1 (by omega)) (by exact hd0_r hF1 (by omega)) (by exact hd0_k hF1 (by omega)) (by exact (hW1.2.1 h hh).2.1.trans (hV.2.1 h hh).2.1) (hV.2.1 h hh).2.2.2.1 hgi hin (fun hx => ?_) (fun hx => ?_)
      ·
        show Wp g mX0_seekBetter _ _ _ 96 _ (_ :: _) _ Q
        refine r_if_eq 146 dX0_seekBetter_96 rfl (fun hz => absurd hz (by decide)) (fun _ => ?_)
        refine T_try1 hF1 hV hW1 hh0 hh (hp.off hI.1 (by omega)) hgi hin hx hI.2 (fun m2 q2 hb2 => ?_)
        refine ic_6 (1) dX0_seekBetter_146 rfl rfl (Nat.le_of_ble_eq_true rfl) ?_
        refine r_goto 77 dX0_seekBetter_149 rfl ?_
        rw [nI_1 i]
        exact ih (i + 1) m2 (by omega) ⟨hI.1.tr q2, by rw [← Nat.add_assoc, sb_step1 hgi hin]; exact hb2⟩
      ·
        show Wp g mX0_seekBetter _ _ _ 96 _ (_ :: _) _ Q
        refine r_if_eq 146 dX0_seekBetter_96 rfl (fun _ => ?_) (fun hz => absurd hz (by decide))
        refine ic_6 (1) dX0_seekBetter_146 rfl rfl (Nat.le_of_ble_eq_true rfl) ?_
        refine r_goto 77 dX0_seekBetter_149 rfl ?_
        rw [nI_1 i]
        exact ih (i + 1) m1 (by omega) ⟨hI.1, by rw [← Nat.add_assoc, sb_step1 hgi hin, sbT, if_neg (show ¬ (gi ≠ i ∧ 0 < f (85 + 24 * h + gi) ∧ f (85 + 24 * h + i) < 60) from fun q => hx ((XF_of1 hW1 hh hgi hin).mpr q))]; exact hI.2⟩
theorem L_si1 {g : GG} {m : MM} {Q : Out → Prop} (hF : Fx m) {f : Nat → Int32} (hV : Vf f) (hW : Wd f 5 m) {h : Nat} (hh0 : f 27 = nI h) (hh : h < nH f) {p : Nat} {T : (Nat → Int64) → Nat → Int64} (hp : Pr T p m) {vol : Int32} {s0 : Int64 × Int32 × Int32 × Int32}  (kx : ∀ (x6 : Value) (m1 : MM), (Off 159 166 m m1 ∧ BtR m1 (sbF f h T vol (nS f h) s0 (1 * (nS f h * nS f h) + (nS f h) * nS f h + 0))) → Wp g mX0_seekBetter 5 0 0 158 [.ref 159, .ref p, .ref (7 + 3 * h), .int vol, .int 1, .int (nI (nS f h)), x6] [] (m1) Q) : ∀ (t i : Nat) (x6 : Value) (m1 : MM), i + t = (nS f h) → (Off 159 166 m m1 ∧ BtR m1 (sbF f h T vol (nS f h) s0 (1 * (nS f h * nS f h) + i * nS f h + 0))) → Wp g mX0_seekBetter 5 0 0 65 [.ref 159, .ref p, .ref (7 + 3 * h), .int vol, .int 1, .int (nI i), x6] [] (m1) Q := by
  intro t
  induction t with
  | zero =>
    intro i x6 m1 hi hI
    have hi : i = (nS f h) := by omega
    subst hi
    have hn6 := hV.1.1.2
    have h12 := (hV.2.1 h hh).2.2.2.1
    have hF1 := Fx_of hI.1.1 hF
    have hW1 := hW.off hI.1 (by omega) hn6
    refine r_iload dX0_seekBetter_65 rfl ?_
    refine r_aload_n dX0_seekBetter_67 rfl ?_
    refine r_getIc (nI (nS f h)) dX0_seekBetter_68 fgX0_253 rfl (by exact hu0_k hF1 (by omega)) (by exact (hW1.2.1 h hh).2.1.trans (hV.2.1 h hh).2.1) ?_
    refine r_icmp_ge 158 dX0_seekBetter_71 rfl (fun h1 => ?_) (fun h1 => ?_)
    ·
      exact kx _ _ hI
    ·
      exact absurd (nI_le (Nat.le_refl _) (by omega)) h1
  | succ t ih =>
    intro i x6 m1 hi hI
    have hin : i < (nS f h) := by omega
    have hn6 := hV.1.1.2
    have h12 := (hV.2.1 h hh).2.2.2.1
    have hF1 := Fx_of hI.1.1 hF
    have hW1 := hW.off hI.1 (by omega) hn6
    refine r_iload dX0_seekBetter_65 rfl ?_
    refine r_aload_n dX0_seekBetter_67 rfl ?_
    refine r_getIc (nI (nS f h)) dX0_seekBetter_68 fgX0_253 rfl (by exact hu0_k hF1 (by omega)) (by exact (hW1.2.1 h hh).2.1.trans (hV.2.1 h hh).2.1) ?_
    refine r_icmp_ge 158 dX0_seekBetter_71 rfl (fun h1 => ?_) (fun h1 => ?_)
    ·
      exact absurd h1 (nI_ge hin (by omega))
    ·
      refine r_iconst (0) dX0_seekBetter_74 rfl ?_
      refine si_6 dX0_seekBetter_75 rfl (Nat.le_of_ble_eq_true rfl) ?_
      refine L_sj1 hF hV hW hh0 hh hp (s0 := s0) hin (fun m2 hI2 => ?_) (nS f h) 0 m1 (by omega) hI
      refine ic_5 (1) dX0_seekBetter_152 rfl rfl (Nat.le_of_ble_eq_true rfl) ?_
      refine r_goto 65 dX0_seekBetter_155 rfl ?_
      rw [nI_1 i]
      exact ih (i + 1) _ m2 (by omega) ⟨hI2.1, by rw [Nat.succ_mul i (nS f h), ← Nat.add_assoc, Nat.add_zero]; exact hI2.2⟩
theorem S_X0_seekBetter {g : GG} {m : MM} {Q : Out → Prop} (hF : Fx m) {f : Nat → Int32} (hV : Vf f) (hW : Wd f 5 m) {h : Nat} (hh0 : f 27 = nI h) (hh : h < nH f) {p : Nat} {T : (Nat → Int64) → Nat → Int64} (hp : Pr T p m) (k1 : ∀ m', Off 159 166 m m' → BtR m' (sbF f h T (mdH f h 1 2) (nS f h) (PvV f h T (hd f), -1, 0, 0) (2 * (nS f h * nS f h))) → ¬ (sbF f h T (mdH f h 1 2) (nS f h) (PvV f h T (hd f), -1, 0, 0) (2 * (nS f h * nS f h))).2.1 = -1 → Q (.inl (some (.int 1)), m')) (k0 : ∀ m', Off 159 166 m m' → (sbF f h T (mdH f h 1 2) (nS f h) (PvV f h T (hd f), -1, 0, 0) (2 * (nS f h * nS f h))).2.1 = -1 → Q (.inl (some (.int 0)), m')) : Cl g 5 0 0 mX0_seekBetter [.ref 159, .ref p] m Q := by
  refine Cl.of rfl (by decide) (Nat.le_of_ble_eq_true rfl) ?_
  show Wp g mX0_seekBetter 5 0 0 0 [.ref 159, .ref p, .retAddr 0, .retAddr 0, .retAddr 0, .retAddr 0, .retAddr 0] [] m Q
  have hn6 := hV.1.1.2
  refine r_aload_n dX0_seekBetter_0 rfl ?_
  refine r_getRc dX0_seekBetter_1 fgX0_9 rfl (by exact k_159 hF) (by exact r_159_0 hF) ?_
  refine r_aload_n dX0_seekBetter_4 rfl ?_
  refine r_getRc dX0_seekBetter_5 fgX0_9 rfl (by exact k_159 hF) (by exact r_159_0 hF) ?_
  refine r_getRc dX0_seekBetter_8 fgX0_47 rfl (by exact k_5 hF) (by exact r_5_4 hF) ?_
  refine r_getIc (f 27) dX0_seekBetter_11 fgX0_60 rfl (by exact k_29 hF) (by exact hW.2.2.2.1 0 (by omega)) ?_
  refine r_callV1 (ci := 10) (d1 := 0) (c1 := 0) (n1 := 0) dX0_seekBetter_14 mvX0_64 rfl ⟨(Nat.le_of_ble_eq_true rfl), rfl⟩ (Nat.le_of_ble_eq_true rfl) (by exact Nat.le_of_ble_eq_true rfl) (by exact k_5 hF) ?_
  refine S_X10_hullAt (n := nH f) hF (by exact hW.1.1.trans hV.1.1.1) hV.1.1.2 (fun j hj hjn => ?_) (fun h9 => (nI_spec hh0 hh (by omega) h9).elim)
  obtain rfl := (nI_eq (by omega) (by omega)).mp (hh0.symm.trans hj)
  show Wp g mX0_seekBetter _ _ _ 17 _ (_ :: _) _ Q
  refine sa_2 dX0_seekBetter_17 rfl (Nat.le_of_ble_eq_true rfl) ?_
  refine r_aload_n dX0_seekBetter_18 rfl ?_
  refine r_ifnonnull 24 dX0_seekBetter_19 rfl (fun hnull => ?_) (fun hnull => ?_)
  ·
    refine r_aload_n dX0_seekBetter_24 rfl ?_
    refine r_aload_n dX0_seekBetter_25 rfl ?_
    refine r_iconst (1) dX0_seekBetter_26 rfl ?_
    refine r_iconst (2) dX0_seekBetter_27 rfl ?_
    refine r_callV3 (ci := 0) (d1 := 2) (c1 := 0) (n1 := 0) dX0_seekBetter_28 mvX0_198 rfl ⟨(Nat.le_of_ble_eq_true rfl), rfl⟩ (Nat.le_of_ble_eq_true rfl) (by exact Nat.le_of_ble_eq_true rfl) (by exact k_159 hF) ?_
    refine S_modelPart2 hF hV hW hh (fun m1 q1 => ?_)
    have o1 := (Off.rf (lo := 159) (hi := 166) (m := m)).tr ((q1).wd (by omega) (by omega))
    have hF1 := Fx_of o1.1 hF
    have hW1 := hW.off o1 (by omega) hn6
    show Wp g mX0_seekBetter _ _ _ 31 _ (_ :: _) _ Q
    refine si_3 dX0_seekBetter_31 rfl (Nat.le_of_ble_eq_true rfl) ?_
    refine r_aload_n dX0_seekBetter_32 rfl ?_
    refine r_aload_n dX0_seekBetter_33 rfl ?_
    refine r_aload_n dX0_seekBetter_34 rfl ?_
    refine r_aload_n dX0_seekBetter_35 rfl ?_
    refine r_getRc dX0_seekBetter_36 fgX0_9 rfl (by exact k_159 hF1) (by exact r_159_0 hF1) ?_
    refine r_getRc dX0_seekBetter_39 fgX0_47 rfl (by exact k_5 hF1) (by exact r_5_4 hF1) ?_
    refine r_callV2 (ci := 0) (d1 := 3) (c1 := 0) (n1 := 0) dX0_seekBetter_42 mvX0_149 rfl ⟨(Nat.le_of_ble_eq_true rfl), rfl⟩ (Nat.le_of_ble_eq_true rfl) (by exact Nat.le_of_ble_eq_true rfl) (by exact k_159 hF1) ?_
    refine S_X0_pullOf hF1 hV hW1 (r := 29) (h := h) (rv := hd f) (by exact k_29 hF1) (by omega) (fun j hj => hW1.2.2.2.1 j hj) hh0 hh (hp.off o1 (by omega)) (fun m2 q2 hT2 hs2 ha2 => ?_)
    have o2 := (o1).tr ((q2).wd (by omega) (by omega))
    have hF2 := Fx_of o2.1 hF
    have hW2 := hW.off o2 (by omega) hn6
    show Wp g mX0_seekBetter _ _ _ 45 _ (_ :: _) _ Q
    refine r_putL dX0_seekBetter_45 (fpX0_247 _ rfl) rfl (by exact k_159 hF2) ?_
    refine r_aload_n dX0_seekBetter_48 rfl ?_
    refine r_iconst (-1) dX0_seekBetter_49 rfl ?_
    refine r_putI dX0_seekBetter_50 (fpX0_250 _ rfl) rfl (by exact k_159 hF2) ⟨rfl, rfl⟩ ?_
    refine r_iconst (0) dX0_seekBetter_53 rfl ?_
    refine si_4 dX0_seekBetter_54 rfl (Nat.le_of_ble_eq_true rfl) ?_
    refine r_iload dX0_seekBetter_56 rfl ?_
    refine r_iconst (2) dX0_seekBetter_58 rfl ?_
    refine r_icmp_ge 164 dX0_seekBetter_59 rfl (fun hz => absurd hz (by decide)) (fun _ => ?_)
    refine r_iconst (0) dX0_seekBetter_62 rfl ?_
    refine si_5 dX0_seekBetter_63 rfl (Nat.le_of_ble_eq_true rfl) ?_
    have hb0 : BtR (stI (stL m2 159 5 (PvV f h T (hd f))) 159 6 (-1)) (PvV f h T (hd f), -1, 0, 0) := ⟨show (if 159 = 159 ∧ 5 = 5 then PvV f h T (hd f) else ldL m2 159 5) = PvV f h T (hd f) from if_pos ⟨rfl, rfl⟩, ld_s, Or.inl rfl⟩
    have ob0 : Off 159 166 m (stI (stL m2 159 5 (PvV f h T (hd f))) 159 6 (-1)) := (o2.stL (by omega) (by omega)).stI (by omega) (by omega)
    refine L_si0 hF hV hW hh0 hh hp (vol := mdH f h 1 2) (s0 := (PvV f h T (hd f), -1, 0, 0)) (fun x6 m5 hI5 => ?_) (nS f h) 0 _ _ (by omega) ⟨ob0, by rw [Nat.zero_mul, Nat.zero_mul]; exact hb0⟩
    refine ic_4 (1) dX0_seekBetter_158 rfl rfl (Nat.le_of_ble_eq_true rfl) ?_
    refine r_goto 56 dX0_seekBetter_161 rfl ?_
    refine r_iload dX0_seekBetter_56 rfl ?_
    refine r_iconst (2) dX0_seekBetter_58 rfl ?_
    refine r_icmp_ge 164 dX0_seekBetter_59 rfl (fun hz => absurd hz (by decide)) (fun _ => ?_)
    refine r_iconst (0) dX0_seekBetter_62 rfl ?_
    refine si_5 dX0_seekBetter_63 rfl (Nat.le_of_ble_eq_true rfl) ?_
    refine L_si1 hF hV hW hh0 hh hp (vol := mdH f h 1 2) (s0 := (PvV f h T (hd f), -1, 0, 0)) (fun x7 m6 hI6 => ?_) (nS f h) 0 _ _ (by omega) ⟨hI5.1, by rw [Nat.zero_mul, Nat.one_mul, Nat.add_zero]; have z := hI5.2; rw [Nat.zero_mul, Nat.zero_add, Nat.add_zero] at z; exact z⟩
    have hJ : Off 159 166 m m6 ∧ BtR m6 (sbF f h T (mdH f h 1 2) (nS f h) (PvV f h T (hd f), -1, 0, 0) (2 * (nS f h * nS f h))) := ⟨hI6.1, by have z := hI6.2; rw [Nat.add_zero, Nat.one_mul, ← Nat.two_mul] at z; exact z⟩
    have hF6 := Fx_of hJ.1.1 hF
    refine ic_4 (1) dX0_seekBetter_158 rfl rfl (Nat.le_of_ble_eq_true rfl) ?_
    refine r_goto 56 dX0_seekBetter_161 rfl ?_
    refine r_iload dX0_seekBetter_56 rfl ?_
    refine r_iconst (2) dX0_seekBetter_58 rfl ?_
    refine r_icmp_ge 164 dX0_seekBetter_59 rfl (fun _ => ?_) (fun hz => absurd hz (by decide))
    refine r_aload_n dX0_seekBetter_164 rfl ?_
    refine r_getIc ((sbF f h T (mdH f h 1 2) (nS f h) (PvV f h T (hd f), -1, 0, 0) (2 * (nS f h * nS f h))).2.1) dX0_seekBetter_165 fgX0_250 rfl (by exact k_159 hF6) (by exact hJ.2.2.1) ?_
    refine r_iconst (-1) dX0_seekBetter_168 rfl ?_
    refine r_icmp_eq 176 dX0_seekBetter_169 rfl (fun h9 => ?_) (fun h9 => ?_)
    ·
      refine r_iconst (0) dX0_seekBetter_176 rfl ?_
      refine r_ireturn dX0_seekBetter_177 rfl rfl ?_
      first | exact k1 m6 hJ.1 hJ.2 h9 | exact k0 m6 hJ.1 h9
    ·
      refine r_iconst (1) dX0_seekBetter_172 rfl ?_
      refine r_goto 177 dX0_seekBetter_173 rfl ?_
      refine r_ireturn dX0_seekBetter_177 rfl rfl ?_
      first | exact k1 m6 hJ.1 hJ.2 h9 | exact k0 m6 hJ.1 h9
  ·
    exact absurd hnull (by omega)
