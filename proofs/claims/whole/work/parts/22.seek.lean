def upF (f : Nat → Int32) (a : Nat) (v : Int32) : Nat → Int32 := fun x => if x = a then v else f x
theorem upF_s {f : Nat → Int32} {a : Nat} {v : Int32} : upF f a v a = v := if_pos rfl
theorem upF_n {f : Nat → Int32} {a x : Nat} {v w : Int32} (h : x ≠ a) (e : f x = w) : upF f a v x = w := (if_neg h).trans e
theorem Vf.hul {f f' : Nat → Int32} (h : Vf f) (e : ∀ x, x < 73 ∨ 217 ≤ x → f' x = f x) (e2 : ∀ i, i < nH f → ∀ s, s < nS f i → iv 0 60 (f' (73 + 24 * i + s)) ∧ iv 0 60 (f' (85 + 24 * i + s))) : Vf f' := by
  obtain ⟨v1, v2, v3, v4, v5, v6, v7, v8, v9⟩ := h
  have n0 : nH f' = nH f := by unfold nH; rw [e 0 (by omega)]
  have n1 : nT f' = nT f := by unfold nT; rw [e 1 (by omega)]
  have n2 : nR f' = nR f := by unfold nR; rw [e 2 (by omega)]
  have n3 : nE f' = nE f := by unfold nE; rw [e 3 (by omega)]
  have n4 : nM f' = nM f := by unfold nM; rw [e 4 (by omega)]
  have n5 : nFo f' = nFo f := by unfold nFo; rw [e 5 (by omega)]
  have nS' : ∀ i, i < 6 → nS f' i = nS f i := fun i hi => by unfold nS; rw [e (13 + i) (by omega)]
  have h6 := v1.1.2
  refine ⟨?_, ?_, ?_, ?_, ?_, ?_, ?_, ?_, ?_⟩
  · unfold VC; rw [n0, n1, n2, n3, n4, n5, e 0 (by omega), e 1 (by omega), e 2 (by omega), e 3 (by omega), e 4 (by omega), e 5 (by omega)]; exact v1
  · intro i hi
    rw [n0] at hi
    unfold VH
    rw [nS' i (by omega), e (7 + i) (by omega), e (13 + i) (by omega)]
    obtain ⟨a, b, c, d, -⟩ := v2 i hi
    exact ⟨a, b, c, d, fun s hs => e2 i hi s hs⟩
  · intro j hj; rw [n1] at hj; have := v1.2.1.2; rw [e (19 + j) (by omega), e (23 + j) (by omega)]; exact v3 j hj
  · rw [n0, n1, e 27 (by omega), e 28 (by omega), e 29 (by omega), e 30 (by omega), e 31 (by omega), e 32 (by omega)]; exact v4
  · intro r hr; rw [n2] at hr
    have q : rn f' r = rn f r := funext fun j => e _ (by omega)
    unfold VR; rw [q, n0, n1]; exact v5 r hr
  · intro j hj; rw [n3] at hj; have := v1.2.2.2.1.2; rw [e (33 + j) (by omega), e (53 + j) (by omega)]; exact v6 j hj
  · intro j hj; rw [n4] at hj; rw [e (637 + 2 * j) (by omega), e (638 + 2 * j) (by omega)]; exact v7 j hj
  · intro j hj; rw [n5] at hj; rw [e (649 + 2 * j) (by omega), e (650 + 2 * j) (by omega)]; exact v8 j hj
  · intro j hj; rw [n5] at hj; rw [e (649 + 2 * j) (by omega), e (651 + 2 * j) (by omega)]; exact v9 j hj
theorem Wd.hul {f f' : Nat → Int32} {m m' : MM} (h : Wd f 5 m) (h6 : nH f ≤ 6) (hR : VC f) (e : ∀ x, x < 73 ∨ 217 ≤ x → f' x = f x) (em : ∀ a, a < 8 ∨ 24 < a ∨ a % 3 = 1 → ∀ k, ldI m' a k = ldI m a k) (e2 : ∀ i, i < nH f → ∀ s, s < nS f i → ldI m' (8 + 3 * i) s = f' (73 + 24 * i + s) ∧ ldI m' (9 + 3 * i) s = f' (85 + 24 * i + s)) : Wd f' 5 m' := by
  have n0 : nH f' = nH f := by unfold nH; rw [e 0 (by omega)]
  have n1 : nT f' = nT f := by unfold nT; rw [e 1 (by omega)]
  have n2 : nR f' = nR f := by unfold nR; rw [e 2 (by omega)]
  have n3 : nE f' = nE f := by unfold nE; rw [e 3 (by omega)]
  have n4 : nM f' = nM f := by unfold nM; rw [e 4 (by omega)]
  have n5 : nFo f' = nFo f := by unfold nFo; rw [e 5 (by omega)]
  have nS' : ∀ i, i < 6 → nS f' i = nS f i := fun i hi => by unfold nS; rw [e (13 + i) (by omega)]
  obtain ⟨-, ⟨-, b2⟩, -, ⟨-, b4⟩, -⟩ := hR
  unfold Wd
  rw [n0, n1, n2, n3, n4, n5, e 0 (by omega), e 1 (by omega), e 3 (by omega), e 4 (by omega), e 5 (by omega), e 6 (by omega), em 5 (by omega), em 5 (by omega), em (5 + 20) (by omega), em (5 + 22) (by omega), em (5 + 25) (by omega), em (5 + 28) (by omega), em (5 + 30) (by omega), em (5 + 32) (by omega), em (5 + 34) (by omega)]
  obtain ⟨w1, w2, ⟨w3, w4, w5⟩, w6, ⟨w7, w8⟩, ⟨w9, w10⟩, ⟨w11, w12⟩, w13, w14, w15⟩ := h
  refine ⟨w1, fun i hi => ?_, ⟨w3, w4, fun j hj => ?_⟩, fun j hj => ?_, ⟨w7, fun j hj => ?_⟩, ⟨w9, fun j hj => ?_⟩, ⟨w11, fun j hj => ?_⟩, w13, w14, fun j hj => ?_⟩
  · rw [em (5 + 2 + 3 * i) (by omega), em (5 + 2 + 3 * i) (by omega), e (7 + i) (by omega), e (13 + i) (by omega), nS' i (by omega)]
    exact ⟨(w2 i hi).1, (w2 i hi).2.1, fun s hs => by have q := e2 i hi s hs; rw [show 8 + 3 * i = 5 + 3 + 3 * i from by omega, show 9 + 3 * i = 5 + 4 + 3 * i from by omega] at q; exact q⟩
  · rw [em (5 + 21) (by omega), em (5 + 23) (by omega), e (19 + j) (by omega), e (23 + j) (by omega)]; exact w5 j hj
  · rw [em (5 + 24) (by omega), e (27 + j) (by omega)]; exact w6 j hj
  · rw [em (5 + 26) (by omega), e (217 + j) (by omega)]; exact w8 j hj
  · rw [em (5 + 29) (by omega), e (33 + j) (by omega), e (53 + j) (by omega)]; exact w10 j hj
  · rw [em (5 + 31) (by omega), e (637 + 2 * j) (by omega), e (638 + 2 * j) (by omega)]; exact w12 j hj
  · rw [em (5 + 33) (by omega), em (5 + 35) (by omega), e (649 + 2 * j) (by omega), e (650 + 2 * j) (by omega)]; exact w15 j hj
def xf (f : Nat → Int32) (b i j : Nat) : Nat → Int32 := upF (upF f (b + i) (f (b + i) - 1)) (b + j) (f (b + j) + 1)
def XF (f : Nat → Int32) (b i j : Nat) : Prop := i ≠ j ∧ 0 < f (b + i) ∧ f (b + j) < 60
theorem iv_dec {x : Int32} (h : iv 0 60 x) (h2 : 0 < x) : iv 0 60 (x - 1) := by
  unfold iv at *
  rw [Int32.lt_iff_toInt_lt] at h2
  have : (0 : Int32).toInt = 0 := rfl
  have e : (x - 1).toInt = x.toInt - 1 := by
    rw [Int32.toInt_sub]; show Int.bmod (x.toInt - 1) (2 ^ 32) = _
    rw [Int.bmod_eq_of_le (by omega) (by omega)]
  omega
theorem iv_inc {x : Int32} (h : iv 0 60 x) (h2 : x < 60) : iv 0 60 (x + 1) := by
  unfold iv at *
  rw [Int32.lt_iff_toInt_lt] at h2
  have : (60 : Int32).toInt = 60 := rfl
  have e : (x + 1).toInt = x.toInt + 1 := by
    rw [Int32.toInt_add]; show Int.bmod (x.toInt + 1) (2 ^ 32) = _
    rw [Int.bmod_eq_of_le (by omega) (by omega)]
  omega
theorem xf_iv {f : Nat → Int32} {b i j : Nat} (hx : XF f b i j) (h1 : iv 0 60 (f (b + i))) (h2 : iv 0 60 (f (b + j))) {x : Nat} (h : iv 0 60 (f x)) : iv 0 60 (xf f b i j x) := by
  unfold xf upF
  by_cases q : x = b + j
  · rw [if_pos q]; exact iv_inc h2 hx.2.2
  · rw [if_neg q]
    by_cases q2 : x = b + i
    · rw [if_pos q2]; exact iv_dec h1 hx.2.1
    · rw [if_neg q2]; exact h
theorem xf_o {f : Nat → Int32} {b i j x : Nat} (h1 : x ≠ b + i) (h2 : x ≠ b + j) : xf f b i j x = f x := upF_n h2 (upF_n h1 rfl)
theorem xf_i {f : Nat → Int32} {b i j : Nat} (h : i ≠ j) : xf f b i j (b + i) = f (b + i) - 1 := upF_n (by omega) upF_s
theorem xf_j {f : Nat → Int32} {b i j : Nat} : xf f b i j (b + j) = f (b + j) + 1 := upF_s
theorem xc_o {m : MM} {r i j a k : Nat} (h : a ≠ r ∨ (k ≠ i ∧ k ≠ j)) : ldI (xcM m r i j) a k = ldI m a k := ld_n (by omega) (ld_n (by omega) rfl)
theorem xc_i {m : MM} {r i j : Nat} (h : i ≠ j) : ldI (xcM m r i j) r i = ldI m r i - 1 := ld_n (by omega) ld_s
theorem xc_j {m : MM} {r i j : Nat} : ldI (xcM m r i j) r j = ldI m r j + 1 := ld_s
theorem Vf_xf0 {f : Nat → Int32} {h i j : Nat} (hV : Vf f) (hh : h < nH f) (hi : i < nS f h) (hj : j < nS f h) (hx : XF f (73 + 24 * h) i j) : Vf (xf f (73 + 24 * h) i j) := by
  have h6 := hV.1.1.2
  have h12 := (hV.2.1 h hh).2.2.2.1
  have u := (hV.2.1 h hh).2.2.2.2
  refine hV.hul (fun x hx => xf_o (by omega) (by omega)) (fun a ha s hs => ?_)
  have w := (hV.2.1 a ha).2.2.2.2 s hs
  exact ⟨xf_iv hx (u i hi).1 (u j hj).1 w.1, xf_iv hx (u i hi).1 (u j hj).1 w.2⟩
theorem Wd_xf0 {f : Nat → Int32} {m : MM} {h i j : Nat} (hV : Vf f) (hW : Wd f 5 m) (hh : h < nH f) (hi : i < nS f h) (hj : j < nS f h) (hij : i ≠ j) : Wd (xf f (73 + 24 * h) i j) 5 (xcM m (8 + 3 * h) i j) := by
  have h6 := hV.1.1.2
  have h12 := (hV.2.1 h hh).2.2.2.1
  refine hW.hul h6 hV.1 (fun x hx => xf_o (by omega) (by omega)) (fun a ha k => xc_o (by omega)) (fun a ha s hs => ?_)
  have w := (hW.2.1 a ha).2.2 s hs
  have s12 := (hV.2.1 a ha).2.2.2.1
  have w1 : ldI m (8 + 3 * a) s = f (73 + 24 * a + s) := w.1
  have w2 : ldI m (9 + 3 * a) s = f (85 + 24 * a + s) := w.2
  have oth : ldI (xcM m (8 + 3 * h) i j) (9 + 3 * a) s = xf f (73 + 24 * h) i j (85 + 24 * a + s) := by
    rw [xc_o (by omega), xf_o (by omega) (by omega)]; exact w2
  have own : ldI (xcM m (8 + 3 * h) i j) (8 + 3 * a) s = xf f (73 + 24 * h) i j (73 + 24 * a + s) := by
    by_cases q : a = h
    · subst q
      by_cases q1 : s = j
      · subst q1; rw [xc_j, xf_j, w1]
      · by_cases q2 : s = i
        · subst q2; rw [xc_i hij, xf_i hij, w1]
        · rw [xc_o (by omega), xf_o (by omega) (by omega)]; exact w1
    · rw [xc_o (by omega), xf_o (by omega) (by omega)]; exact w1
  exact ⟨own, oth⟩
theorem Vf_xf1 {f : Nat → Int32} {h i j : Nat} (hV : Vf f) (hh : h < nH f) (hi : i < nS f h) (hj : j < nS f h) (hx : XF f (85 + 24 * h) i j) : Vf (xf f (85 + 24 * h) i j) := by
  have h6 := hV.1.1.2
  have h12 := (hV.2.1 h hh).2.2.2.1
  have u := (hV.2.1 h hh).2.2.2.2
  refine hV.hul (fun x hx => xf_o (by omega) (by omega)) (fun a ha s hs => ?_)
  have w := (hV.2.1 a ha).2.2.2.2 s hs
  exact ⟨xf_iv hx (u i hi).2 (u j hj).2 w.1, xf_iv hx (u i hi).2 (u j hj).2 w.2⟩
theorem Wd_xf1 {f : Nat → Int32} {m : MM} {h i j : Nat} (hV : Vf f) (hW : Wd f 5 m) (hh : h < nH f) (hi : i < nS f h) (hj : j < nS f h) (hij : i ≠ j) : Wd (xf f (85 + 24 * h) i j) 5 (xcM m (9 + 3 * h) i j) := by
  have h6 := hV.1.1.2
  have h12 := (hV.2.1 h hh).2.2.2.1
  refine hW.hul h6 hV.1 (fun x hx => xf_o (by omega) (by omega)) (fun a ha k => xc_o (by omega)) (fun a ha s hs => ?_)
  have w := (hW.2.1 a ha).2.2 s hs
  have s12 := (hV.2.1 a ha).2.2.2.1
  have w1 : ldI m (8 + 3 * a) s = f (73 + 24 * a + s) := w.1
  have w2 : ldI m (9 + 3 * a) s = f (85 + 24 * a + s) := w.2
  have oth : ldI (xcM m (9 + 3 * h) i j) (8 + 3 * a) s = xf f (85 + 24 * h) i j (73 + 24 * a + s) := by
    rw [xc_o (by omega), xf_o (by omega) (by omega)]; exact w1
  have own : ldI (xcM m (9 + 3 * h) i j) (9 + 3 * a) s = xf f (85 + 24 * h) i j (85 + 24 * a + s) := by
    by_cases q : a = h
    · subst q
      by_cases q1 : s = j
      · subst q1; rw [xc_j, xf_j, w2]
      · by_cases q2 : s = i
        · subst q2; rw [xc_i hij, xf_i hij, w2]
        · rw [xc_o (by omega), xf_o (by omega) (by omega)]; exact w2
    · rw [xc_o (by omega), xf_o (by omega) (by omega)]; exact w2
  exact ⟨oth, own⟩
def sbT (f : Nat → Int32) (h : Nat) (T : (Nat → Int64) → Nat → Int64) (vol : Int32) (b : Nat) (K : Int32) (i j : Nat) (s : Int64 × Int32 × Int32 × Int32) : Int64 × Int32 × Int32 × Int32 :=
  if i ≠ j ∧ 0 < f (b + i) ∧ f (b + j) < 60 then (if vol ≤ mdH (xf f b i j) h 1 2 ∧ PvV (xf f b i j) h T (hd (xf f b i j)) < s.1 then (PvV (xf f b i j) h T (hd (xf f b i j)), K, nI i, nI j) else s) else s
def BtR (m : MM) (s : Int64 × Int32 × Int32 × Int32) : Prop := ldL m 159 5 = s.1 ∧ ldI m 159 6 = s.2.1 ∧ (s.2.1 = -1 ∨ (ldI m 159 7 = s.2.2.1 ∧ ldI m 159 8 = s.2.2.2))
theorem BtR.off {m m' : MM} {s : Int64 × Int32 × Int32 × Int32} {lo hi : Nat} (h : BtR m s) (o : Off lo hi m m') (hl : 159 < lo ∨ hi < 159) : BtR m' s := by
  obtain ⟨h1, h2, h3⟩ := h
  have q := o.2 159 (by omega)
  exact ⟨(q.2 5).trans h1, (q.1 6).trans h2, h3.imp id (fun z => ⟨(q.1 7).trans z.1, (q.1 8).trans z.2⟩)⟩
theorem BtR.wg {m : MM} {s : Int64 × Int32 × Int32 × Int32} {P : Int64} {x y z : Int32} (h : BtR m s) : BtR (wgM m P x y z) (if P < s.1 then (P, x, y, z) else s) := by
  unfold wgM
  rw [h.1]
  by_cases q : P < s.1
  · rw [if_pos q, if_pos q]
    exact ⟨show (if 159 = 159 ∧ 5 = 5 then P else ldL m 159 5) = P from if_pos ⟨rfl, rfl⟩, ld_n (by decide) (ld_n (by decide) ld_s), Or.inr ⟨ld_n (by decide) ld_s, ld_s⟩⟩
  · rw [if_neg q, if_neg q]; exact h
theorem wgM_off {m : MM} {P : Int64} {x y z : Int32} : Off 159 159 m (wgM m P x y z) := by
  unfold wgM
  by_cases q : P < ldL m 159 5
  · rw [if_pos q]; exact (((Off.rf.stL (by omega) (by omega)).stI (by omega) (by omega)).stI (by omega) (by omega)).stI (by omega) (by omega)
  · rw [if_neg q]; exact Off.rf
theorem i32_m1p1 (x : Int32) : x - 1 + 1 = x := by rw [← Int32.toBitVec_inj]; simp
theorem i32_p1m1 (x : Int32) : x + 1 - 1 = x := by rw [← Int32.toBitVec_inj]; simp
theorem iv_inc0 {x : Int32} (h : iv 0 60 x) (h2 : x < 60) : 0 < x + 1 := by
  have := iv_inc h h2
  unfold iv at *
  rw [Int32.lt_iff_toInt_lt] at *
  have q : (60 : Int32).toInt = 60 := rfl
  have e : (x + 1).toInt = x.toInt + 1 := by
    rw [Int32.toInt_add]; show Int.bmod (x.toInt + 1) (2 ^ 32) = _
    rw [Int.bmod_eq_of_le (by omega) (by omega)]
  have q0 : (0 : Int32).toInt = 0 := rfl
  omega
theorem iv_dec60 {x : Int32} (h : iv 0 60 x) (h2 : 0 < x) : x - 1 < 60 := by
  unfold iv at *
  rw [Int32.lt_iff_toInt_lt] at *
  have q : (60 : Int32).toInt = 60 := rfl
  have q0 : (0 : Int32).toInt = 0 := rfl
  have e : (x - 1).toInt = x.toInt - 1 := by
    rw [Int32.toInt_sub]; show Int.bmod (x.toInt - 1) (2 ^ 32) = _
    rw [Int.bmod_eq_of_le (by omega) (by omega)]
  omega
theorem BtR.xc {m : MM} {s : Int64 × Int32 × Int32 × Int32} {r i j : Nat} (h : BtR m s) (hr : r ≠ 159) : BtR (xcM m r i j) s := by
  obtain ⟨h1, h2, h3⟩ := h
  exact ⟨h1, (xc_o (by omega)).trans h2, h3.imp id (fun z => ⟨(xc_o (by omega)).trans z.1, (xc_o (by omega)).trans z.2⟩)⟩
theorem Off_back {m M : MM} {r i j : Nat} (hij : i ≠ j) (hr : r < 159) (o : Off 159 166 (xcM m r i j) M) : Off 159 166 m (xcM M r j i) := by
  refine ⟨o.1, fun a ha => ⟨fun k => ?_, fun k => (o.2 a ha).2 k⟩⟩
  by_cases q : a = r
  · subst q
    by_cases q1 : k = i
    · subst q1; rw [xc_j, (o.2 a ha).1 k, xc_i hij, i32_m1p1]
    · by_cases q2 : k = j
      · subst q2; rw [xc_i (Ne.symm hij), (o.2 a ha).1 k, xc_j, i32_p1m1]
      · rw [xc_o (by omega), (o.2 a ha).1 k, xc_o (by omega)]
  · rw [xc_o (by omega), (o.2 a ha).1 k, xc_o (by omega)]
theorem XF_of0 {f : Nat → Int32} {m : MM} {h i j : Nat} (hW : Wd f 5 m) (hh : h < nH f) (hi : i < nS f h) (hj : j < nS f h) : (XC m (8 + 3 * h) i j) = (XF f (73 + 24 * h) i j) := by
  have w := (hW.2.1 h hh).2.2
  unfold XC XF
  rw [show ldI m (8 + 3 * h) i = f (73 + 24 * h + i) from (w i hi).1, show ldI m (8 + 3 * h) j = f (73 + 24 * h + j) from (w j hj).1]
theorem T_back0 {g : GG} {m : MM} {Q : Out → Prop} (hF : Fx m) {f : Nat → Int32} (hV : Vf f) (hW : Wd f 5 m) {h : Nat} (hh0 : f 27 = nI h) (hh : h < nH f) {p : Nat} {T : (Nat → Int64) → Nat → Int64} (hp : Pr T p m) {i j : Nat} (hi : i < nS f h) (hj : j < nS f h) (hx : XC m (8 + 3 * h) i j) {vol : Int32} {M : MM} (o : Off 159 166 (xcM m (8 + 3 * h) i j) M) (k : Wp g mX0_seekBetter 5 0 0 146 [.ref 159, .ref p, .ref (7 + 3 * h), .int vol, .int 0, .int (nI i), .int (nI j)] [] (xcM M (8 + 3 * h) j i) Q) : Wp g mX0_seekBetter 5 0 0 136 [.ref 159, .ref p, .ref (7 + 3 * h), .int vol, .int 0, .int (nI i), .int (nI j)] [] M Q := by
  have hn6 := hV.1.1.2
  have hX : XF f (73 + 24 * h) i j := (XF_of0 hW hh hi hj).mp hx
  have hV1 := Vf_xf0 hV hh hi hj hX
  have hW1 := Wd_xf0 hV hW hh hi hj hX.1
  have h12 := (hV.2.1 h hh).2.2.2.1
  have nHe : nH (xf f (73 + 24 * h) i j) = nH f := by unfold nH; rw [xf_o (by omega) (by omega)]
  have nSe : nS (xf f (73 + 24 * h) i j) h = nS f h := by unfold nS; rw [xf_o (by omega) (by omega)]
  have hh1 : h < nH (xf f (73 + 24 * h) i j) := by rw [nHe]; exact hh
  have hi1 : i < nS (xf f (73 + 24 * h) i j) h := by rw [nSe]; exact hi
  have hj1 : j < nS (xf f (73 + 24 * h) i j) h := by rw [nSe]; exact hj
  have hFM : Fx M := Fx_of o.1 hF
  have hWM : Wd (xf f (73 + 24 * h) i j) 5 M := hW1.off o (by omega) (by rw [nHe]; exact hn6)
  have u := (hV.2.1 h hh).2.2.2.2
  have w := (hW.2.1 h hh).2.2
  have hxM : XC M (8 + 3 * h) j i := by
    refine ⟨Ne.symm hX.1, ?_, ?_⟩
    · rw [(o.2 _ (by omega)).1 j, xc_j, show ldI m (8 + 3 * h) j = f (73 + 24 * h + j) from (w j hj).1]; exact iv_inc0 (u j hj).1 hX.2.2
    · rw [(o.2 _ (by omega)).1 i, xc_i hX.1, show ldI m (8 + 3 * h) i = f (73 + 24 * h + i) from (w i hi).1]; exact iv_dec60 (u i hi).1 hX.2.1
  refine r_aload_n dX0_seekBetter_136 rfl ?_
  refine r_iload dX0_seekBetter_137 rfl ?_
  refine r_iload dX0_seekBetter_139 rfl ?_
  refine r_iload dX0_seekBetter_141 rfl ?_
  refine r_callV3 (ci := 1) (d1 := 2) (c1 := 0) (n1 := 0) dX0_seekBetter_143 mvX0_262 rfl ⟨(Nat.le_of_ble_eq_true rfl), rfl⟩ (Nat.le_of_ble_eq_true rfl) (by exact Nat.le_of_ble_eq_true rfl) (by exact hu0_k hFM (by omega)) ?_
  refine S_exch0 (i := j) (j := i) (by exact hu0_k hFM (by omega)) (by exact hb0_r hFM (by omega)) (by exact hb0_k hFM (by omega)) (by exact hd0_r hFM (by omega)) (by exact hd0_k hFM (by omega)) (by exact (hWM.2.1 h hh1).2.1.trans (hV1.2.1 h hh1).2.1) (hV1.2.1 h hh1).2.2.2.1 hj1 hi1 hxM ?_
  show Wp g mX0_seekBetter _ _ _ 146 _ [] _ Q
  exact k
theorem XF_of1 {f : Nat → Int32} {m : MM} {h i j : Nat} (hW : Wd f 5 m) (hh : h < nH f) (hi : i < nS f h) (hj : j < nS f h) : (XC m (9 + 3 * h) i j) = (XF f (85 + 24 * h) i j) := by
  have w := (hW.2.1 h hh).2.2
  unfold XC XF
  rw [show ldI m (9 + 3 * h) i = f (85 + 24 * h + i) from (w i hi).2, show ldI m (9 + 3 * h) j = f (85 + 24 * h + j) from (w j hj).2]
theorem T_back1 {g : GG} {m : MM} {Q : Out → Prop} (hF : Fx m) {f : Nat → Int32} (hV : Vf f) (hW : Wd f 5 m) {h : Nat} (hh0 : f 27 = nI h) (hh : h < nH f) {p : Nat} {T : (Nat → Int64) → Nat → Int64} (hp : Pr T p m) {i j : Nat} (hi : i < nS f h) (hj : j < nS f h) (hx : XC m (9 + 3 * h) i j) {vol : Int32} {M : MM} (o : Off 159 166 (xcM m (9 + 3 * h) i j) M) (k : Wp g mX0_seekBetter 5 0 0 146 [.ref 159, .ref p, .ref (7 + 3 * h), .int vol, .int 1, .int (nI i), .int (nI j)] [] (xcM M (9 + 3 * h) j i) Q) : Wp g mX0_seekBetter 5 0 0 136 [.ref 159, .ref p, .ref (7 + 3 * h), .int vol, .int 1, .int (nI i), .int (nI j)] [] M Q := by
  have hn6 := hV.1.1.2
  have hX : XF f (85 + 24 * h) i j := (XF_of1 hW hh hi hj).mp hx
  have hV1 := Vf_xf1 hV hh hi hj hX
  have hW1 := Wd_xf1 hV hW hh hi hj hX.1
  have h12 := (hV.2.1 h hh).2.2.2.1
  have nHe : nH (xf f (85 + 24 * h) i j) = nH f := by unfold nH; rw [xf_o (by omega) (by omega)]
  have nSe : nS (xf f (85 + 24 * h) i j) h = nS f h := by unfold nS; rw [xf_o (by omega) (by omega)]
  have hh1 : h < nH (xf f (85 + 24 * h) i j) := by rw [nHe]; exact hh
  have hi1 : i < nS (xf f (85 + 24 * h) i j) h := by rw [nSe]; exact hi
  have hj1 : j < nS (xf f (85 + 24 * h) i j) h := by rw [nSe]; exact hj
  have hFM : Fx M := Fx_of o.1 hF
  have hWM : Wd (xf f (85 + 24 * h) i j) 5 M := hW1.off o (by omega) (by rw [nHe]; exact hn6)
  have u := (hV.2.1 h hh).2.2.2.2
  have w := (hW.2.1 h hh).2.2
  have hxM : XC M (9 + 3 * h) j i := by
    refine ⟨Ne.symm hX.1, ?_, ?_⟩
    · rw [(o.2 _ (by omega)).1 j, xc_j, show ldI m (9 + 3 * h) j = f (85 + 24 * h + j) from (w j hj).2]; exact iv_inc0 (u j hj).2 hX.2.2
    · rw [(o.2 _ (by omega)).1 i, xc_i hX.1, show ldI m (9 + 3 * h) i = f (85 + 24 * h + i) from (w i hi).2]; exact iv_dec60 (u i hi).2 hX.2.1
  refine r_aload_n dX0_seekBetter_136 rfl ?_
  refine r_iload dX0_seekBetter_137 rfl ?_
  refine r_iload dX0_seekBetter_139 rfl ?_
  refine r_iload dX0_seekBetter_141 rfl ?_
  refine r_callV3 (ci := 1) (d1 := 2) (c1 := 0) (n1 := 0) dX0_seekBetter_143 mvX0_262 rfl ⟨(Nat.le_of_ble_eq_true rfl), rfl⟩ (Nat.le_of_ble_eq_true rfl) (by exact Nat.le_of_ble_eq_true rfl) (by exact hu0_k hFM (by omega)) ?_
  refine S_exch1 (i := j) (j := i) (by exact hu0_k hFM (by omega)) (by exact hb0_r hFM (by omega)) (by exact hb0_k hFM (by omega)) (by exact hd0_r hFM (by omega)) (by exact hd0_k hFM (by omega)) (by exact (hWM.2.1 h hh1).2.1.trans (hV1.2.1 h hh1).2.1) (hV1.2.1 h hh1).2.2.2.1 hj1 hi1 hxM ?_
  show Wp g mX0_seekBetter _ _ _ 146 _ [] _ Q
  exact k
