theorem Vf_H {f f' : Nat → Int32} (h : Vf f) (e : ∀ z, (z ≠ 0 ∧ z < 7 ∨ 18 < z ∧ z < 73 ∨ 216 < z) → f' z = f z) (c : f' 0 = nI (nH f') ∧ nH f' ≤ 6) (mo : nH f ≤ nH f') (own : (∀ h, h < nH f' → VH f' h)) : Vf f' := by
  obtain ⟨v1, v2, v3, v4, v5, v6, v7, v8, v9⟩ := h
  obtain ⟨⟨c1, d1⟩, ⟨c2, d2⟩, ⟨c3, d3⟩, ⟨c4, d4⟩, ⟨c5, d5⟩, ⟨c6, d6⟩⟩ := v1
  have nTq : nT f' = nT f := by unfold nT; rw [e 1 (by omega)]
  have nRq : nR f' = nR f := by unfold nR; rw [e 2 (by omega)]
  have nEq : nE f' = nE f := by unfold nE; rw [e 3 (by omega)]
  have nMq : nM f' = nM f := by unfold nM; rw [e 4 (by omega)]
  have nFq : nFo f' = nFo f := by unfold nFo; rw [e 5 (by omega)]
  refine ⟨⟨c, ⟨by rw [nTq, e 1 (by omega)]; exact c2, by rw [nTq]; exact d2⟩, ⟨by rw [nRq, e 2 (by omega)]; exact c3, by rw [nRq]; exact d3⟩, ⟨by rw [nEq, e 3 (by omega)]; exact c4, by rw [nEq]; exact d4⟩, ⟨by rw [nMq, e 4 (by omega)]; exact c5, by rw [nMq]; exact d5⟩, ⟨by rw [nFq, e 5 (by omega)]; exact c6, by rw [nFq]; exact d6⟩⟩, ?_, ?_, ?_, ?_, ?_, ?_, ?_, ?_⟩
  · exact own
  · intro j hj; rw [nTq] at hj; rw [e (19 + j) (by omega), e (23 + j) (by omega)]; exact v3 j hj
  · rw [e 27 (by omega), e 28 (by omega), e 29 (by omega), e 30 (by omega), e 31 (by omega), e 32 (by omega)]
    obtain ⟨⟨q, q1, q2⟩, r1, r2, r3, r4, r5⟩ := v4
    exact ⟨⟨q, q1, q2.imp (fun z => by omega) id⟩, r1, r2, r3.imp id (fun ⟨t, t1, t2⟩ => ⟨t, t1, by omega⟩), r4, r5⟩
  · intro r hr; rw [nRq] at hr
    have q : ∀ j, j < 7 → rn f' r j = rn f r j := fun j hj => e _ (by omega)
    obtain ⟨⟨⟨w, w1, w2⟩, r1, r2, r3, r4, r5⟩, r6⟩ := v5 r hr
    unfold VR; rw [q 0 (by omega), q 1 (by omega), q 2 (by omega), q 3 (by omega), q 4 (by omega), q 5 (by omega), q 6 (by omega)]
    exact ⟨⟨⟨w, w1, by omega⟩, r1, r2, r3.imp id (fun ⟨t, t1, t2⟩ => ⟨t, t1, by omega⟩), r4, r5⟩, r6⟩
  · intro j hj; rw [nEq] at hj; rw [e (33 + j) (by omega), e (53 + j) (by omega)]; exact v6 j hj
  · intro j hj; rw [nMq] at hj; rw [e (637 + 2 * j) (by omega), e (638 + 2 * j) (by omega)]; exact v7 j hj
  · intro j hj; rw [nFq] at hj; rw [e (649 + 2 * j) (by omega), e (650 + 2 * j) (by omega)]; exact v8 j hj
  · intro j hj; rw [nFq] at hj; rw [e (649 + 2 * j) (by omega), e (651 + 2 * j) (by omega)]; exact v9 j hj
theorem Wd_H {f f' : Nat → Int32} {m m' : MM} (hV : Vf f) (h : Wd f 5 m) (e : ∀ z, (z ≠ 0 ∧ z < 7 ∨ 18 < z ∧ z < 73 ∨ 216 < z) → f' z = f z) (e510 : ldI m' 5 10 = ldI m 5 10) (em : ∀ a, (a = 6 ∨ 24 < a) → 5 < a → a ≤ 40 → ∀ k, ldI m' a k = ldI m a k) (own : (ldI m' 5 1 = f' 0 ∧ ∀ i, i < nH f' → ldI m' (5 + 2 + 3 * i) 0 = f' (7 + i) ∧ ldI m' (5 + 2 + 3 * i) 1 = f' (13 + i) ∧ ∀ s, s < nS f' i → ldI m' (5 + 3 + 3 * i) s = f' (73 + 24 * i + s) ∧ ldI m' (5 + 4 + 3 * i) s = f' (85 + 24 * i + s))) : Wd f' 5 m' := by
  obtain ⟨⟨w0, w1⟩, w2, ⟨w3, w4, w5⟩, w6, ⟨w7, w8⟩, ⟨w9, w10⟩, ⟨w11, w12⟩, w13, w14, w15⟩ := h
  obtain ⟨⟨c1, d1⟩, ⟨c2, d2⟩, ⟨c3, d3⟩, ⟨c4, d4⟩, ⟨c5, d5⟩, ⟨c6, d6⟩⟩ := hV.1
  have nTq : nT f' = nT f := by unfold nT; rw [e 1 (by omega)]
  have nRq : nR f' = nR f := by unfold nR; rw [e 2 (by omega)]
  have nEq : nE f' = nE f := by unfold nE; rw [e 3 (by omega)]
  have nMq : nM f' = nM f := by unfold nM; rw [e 4 (by omega)]
  have nFq : nFo f' = nFo f := by unfold nFo; rw [e 5 (by omega)]
  refine ⟨⟨?_, ?_⟩, ?_, ?_, ?_, ?_, ?_, ?_, ?_⟩
  · exact own.1
  · exact by rw [e510, e 6 (by omega)]; exact w1
  · exact own.2
  · exact ⟨by rw [em (5 + 20) (by omega) (by omega) (by omega), e 1 (by omega)]; exact w3, by rw [em (5 + 22) (by omega) (by omega) (by omega), e 1 (by omega)]; exact w4, fun j hj => by rw [nTq] at hj; rw [em (5 + 21) (by omega) (by omega) (by omega), em (5 + 23) (by omega) (by omega) (by omega), e (19 + j) (by omega), e (23 + j) (by omega)]; exact w5 j hj⟩
  · exact fun j hj => by rw [em (5 + 24) (by omega) (by omega) (by omega), e (27 + j) (by omega)]; exact w6 j hj
  · exact ⟨by rw [em (5 + 25) (by omega) (by omega) (by omega), nRq]; exact w7, fun j hj => by rw [nRq] at hj; rw [em (5 + 26) (by omega) (by omega) (by omega), e (217 + j) (by omega)]; exact w8 j hj⟩
  · exact ⟨by rw [em (5 + 28) (by omega) (by omega) (by omega), e 3 (by omega)]; exact w9, fun j hj => by rw [nEq] at hj; rw [em (5 + 29) (by omega) (by omega) (by omega), e (33 + j) (by omega), e (53 + j) (by omega)]; exact w10 j hj⟩
  · exact ⟨by rw [em (5 + 30) (by omega) (by omega) (by omega), e 4 (by omega)]; exact w11, fun j hj => by rw [nMq] at hj; rw [em (5 + 31) (by omega) (by omega) (by omega), e (637 + 2 * j) (by omega), e (638 + 2 * j) (by omega)]; exact w12 j hj⟩
  · exact ⟨by rw [em (5 + 32) (by omega) (by omega) (by omega), e 5 (by omega)]; exact w13, by rw [em (5 + 34) (by omega) (by omega) (by omega), e 5 (by omega)]; exact w14, fun j hj => by rw [nFq] at hj; rw [em (5 + 33) (by omega) (by omega) (by omega), em (5 + 35) (by omega) (by omega) (by omega), e (649 + 2 * j) (by omega), e (650 + 2 * j) (by omega)]; exact w15 j hj⟩
theorem Vf_T {f f' : Nat → Int32} (h : Vf f) (e : ∀ z, (z ≠ 1 ∧ z < 19 ∨ 26 < z) → f' z = f z) (c : f' 1 = nI (nT f') ∧ nT f' ≤ 4) (mo : nT f ≤ nT f') (own : (∀ j, j < nT f' → iv 1 200 (f' (19 + j)) ∧ iv 1 200 (f' (23 + j)))) : Vf f' := by
  obtain ⟨v1, v2, v3, v4, v5, v6, v7, v8, v9⟩ := h
  obtain ⟨⟨c1, d1⟩, ⟨c2, d2⟩, ⟨c3, d3⟩, ⟨c4, d4⟩, ⟨c5, d5⟩, ⟨c6, d6⟩⟩ := v1
  have nHq : nH f' = nH f := by unfold nH; rw [e 0 (by omega)]
  have nRq : nR f' = nR f := by unfold nR; rw [e 2 (by omega)]
  have nEq : nE f' = nE f := by unfold nE; rw [e 3 (by omega)]
  have nMq : nM f' = nM f := by unfold nM; rw [e 4 (by omega)]
  have nFq : nFo f' = nFo f := by unfold nFo; rw [e 5 (by omega)]
  refine ⟨⟨⟨by rw [nHq, e 0 (by omega)]; exact c1, by rw [nHq]; exact d1⟩, c, ⟨by rw [nRq, e 2 (by omega)]; exact c3, by rw [nRq]; exact d3⟩, ⟨by rw [nEq, e 3 (by omega)]; exact c4, by rw [nEq]; exact d4⟩, ⟨by rw [nMq, e 4 (by omega)]; exact c5, by rw [nMq]; exact d5⟩, ⟨by rw [nFq, e 5 (by omega)]; exact c6, by rw [nFq]; exact d6⟩⟩, ?_, ?_, ?_, ?_, ?_, ?_, ?_, ?_⟩
  · intro i hi; rw [nHq] at hi; have s12 := (v2 i hi).2.2.2.1
    have nS' : nS f' i = nS f i := by unfold nS; rw [e (13 + i) (by omega)]
    unfold VH; rw [nS', e (7 + i) (by omega), e (13 + i) (by omega)]
    obtain ⟨a, b, c, d, q⟩ := v2 i hi
    exact ⟨a, b, c, d, fun s hs => by rw [e (73 + 24 * i + s) (by omega), e (85 + 24 * i + s) (by omega)]; exact q s hs⟩
  · exact own
  · rw [e 27 (by omega), e 28 (by omega), e 29 (by omega), e 30 (by omega), e 31 (by omega), e 32 (by omega)]
    obtain ⟨⟨q, q1, q2⟩, r1, r2, r3, r4, r5⟩ := v4
    exact ⟨⟨q, q1, q2.imp (fun z => by omega) id⟩, r1, r2, r3.imp id (fun ⟨t, t1, t2⟩ => ⟨t, t1, by omega⟩), r4, r5⟩
  · intro r hr; rw [nRq] at hr
    have q : ∀ j, j < 7 → rn f' r j = rn f r j := fun j hj => e _ (by omega)
    obtain ⟨⟨⟨w, w1, w2⟩, r1, r2, r3, r4, r5⟩, r6⟩ := v5 r hr
    unfold VR; rw [q 0 (by omega), q 1 (by omega), q 2 (by omega), q 3 (by omega), q 4 (by omega), q 5 (by omega), q 6 (by omega)]
    exact ⟨⟨⟨w, w1, by omega⟩, r1, r2, r3.imp id (fun ⟨t, t1, t2⟩ => ⟨t, t1, by omega⟩), r4, r5⟩, r6⟩
  · intro j hj; rw [nEq] at hj; rw [e (33 + j) (by omega), e (53 + j) (by omega)]; exact v6 j hj
  · intro j hj; rw [nMq] at hj; rw [e (637 + 2 * j) (by omega), e (638 + 2 * j) (by omega)]; exact v7 j hj
  · intro j hj; rw [nFq] at hj; rw [e (649 + 2 * j) (by omega), e (650 + 2 * j) (by omega)]; exact v8 j hj
  · intro j hj; rw [nFq] at hj; rw [e (649 + 2 * j) (by omega), e (651 + 2 * j) (by omega)]; exact v9 j hj
theorem Wd_T {f f' : Nat → Int32} {m m' : MM} (hV : Vf f) (h : Wd f 5 m) (e : ∀ z, (z ≠ 1 ∧ z < 19 ∨ 26 < z) → f' z = f z) (e51 : ldI m' 5 1 = ldI m 5 1) (e510 : ldI m' 5 10 = ldI m 5 10) (em : ∀ a, (a < 25 ∨ 28 < a) → 5 < a → a ≤ 40 → ∀ k, ldI m' a k = ldI m a k) (own : (ldI m' (5 + 20) 1 = f' 1 ∧ ldI m' (5 + 22) 1 = f' 1 ∧ ∀ j, j < nT f' → ldI m' (5 + 21) j = f' (19 + j) ∧ ldI m' (5 + 23) j = f' (23 + j))) : Wd f' 5 m' := by
  obtain ⟨⟨w0, w1⟩, w2, ⟨w3, w4, w5⟩, w6, ⟨w7, w8⟩, ⟨w9, w10⟩, ⟨w11, w12⟩, w13, w14, w15⟩ := h
  obtain ⟨⟨c1, d1⟩, ⟨c2, d2⟩, ⟨c3, d3⟩, ⟨c4, d4⟩, ⟨c5, d5⟩, ⟨c6, d6⟩⟩ := hV.1
  have nHq : nH f' = nH f := by unfold nH; rw [e 0 (by omega)]
  have nRq : nR f' = nR f := by unfold nR; rw [e 2 (by omega)]
  have nEq : nE f' = nE f := by unfold nE; rw [e 3 (by omega)]
  have nMq : nM f' = nM f := by unfold nM; rw [e 4 (by omega)]
  have nFq : nFo f' = nFo f := by unfold nFo; rw [e 5 (by omega)]
  refine ⟨⟨?_, ?_⟩, ?_, ?_, ?_, ?_, ?_, ?_, ?_⟩
  · exact by rw [e51, e 0 (by omega)]; exact w0
  · exact by rw [e510, e 6 (by omega)]; exact w1
  · exact fun i hi => by
      rw [nHq] at hi
      have s12 := (hV.2.1 i hi).2.2.2.1
      have nSq : nS f' i = nS f i := by unfold nS; rw [e (13 + i) (by omega)]
      rw [nSq, e (7 + i) (by omega), e (13 + i) (by omega), em (5 + 2 + 3 * i) (by omega) (by omega) (by omega), em (5 + 2 + 3 * i) (by omega) (by omega) (by omega)]
      exact ⟨(w2 i hi).1, (w2 i hi).2.1, fun s hs => by rw [em (5 + 3 + 3 * i) (by omega) (by omega) (by omega), em (5 + 4 + 3 * i) (by omega) (by omega) (by omega), e (73 + 24 * i + s) (by omega), e (85 + 24 * i + s) (by omega)]; exact (w2 i hi).2.2 s hs⟩
  · exact own
  · exact fun j hj => by rw [em (5 + 24) (by omega) (by omega) (by omega), e (27 + j) (by omega)]; exact w6 j hj
  · exact ⟨by rw [em (5 + 25) (by omega) (by omega) (by omega), nRq]; exact w7, fun j hj => by rw [nRq] at hj; rw [em (5 + 26) (by omega) (by omega) (by omega), e (217 + j) (by omega)]; exact w8 j hj⟩
  · exact ⟨by rw [em (5 + 28) (by omega) (by omega) (by omega), e 3 (by omega)]; exact w9, fun j hj => by rw [nEq] at hj; rw [em (5 + 29) (by omega) (by omega) (by omega), e (33 + j) (by omega), e (53 + j) (by omega)]; exact w10 j hj⟩
  · exact ⟨by rw [em (5 + 30) (by omega) (by omega) (by omega), e 4 (by omega)]; exact w11, fun j hj => by rw [nMq] at hj; rw [em (5 + 31) (by omega) (by omega) (by omega), e (637 + 2 * j) (by omega), e (638 + 2 * j) (by omega)]; exact w12 j hj⟩
  · exact ⟨by rw [em (5 + 32) (by omega) (by omega) (by omega), e 5 (by omega)]; exact w13, by rw [em (5 + 34) (by omega) (by omega) (by omega), e 5 (by omega)]; exact w14, fun j hj => by rw [nFq] at hj; rw [em (5 + 33) (by omega) (by omega) (by omega), em (5 + 35) (by omega) (by omega) (by omega), e (649 + 2 * j) (by omega), e (650 + 2 * j) (by omega)]; exact w15 j hj⟩
theorem Vf_D {f f' : Nat → Int32} (h : Vf f) (e : ∀ z, (z < 27 ∨ 32 < z) → f' z = f z) (own : ((∃ h, f' 27 = nI h ∧ (h < nH f' ∨ h = 0)) ∧ iv 1 40 (f' 28) ∧ iv 1 99 (f' 29) ∧ (f' 30 = -1 ∨ ∃ t, f' 30 = nI t ∧ t < nT f') ∧ (f' 31 = 0 ∨ f' 31 = 1) ∧ iv 0 99 (f' 32))) : Vf f' := by
  obtain ⟨v1, v2, v3, v4, v5, v6, v7, v8, v9⟩ := h
  obtain ⟨⟨c1, d1⟩, ⟨c2, d2⟩, ⟨c3, d3⟩, ⟨c4, d4⟩, ⟨c5, d5⟩, ⟨c6, d6⟩⟩ := v1
  have nHq : nH f' = nH f := by unfold nH; rw [e 0 (by omega)]
  have nTq : nT f' = nT f := by unfold nT; rw [e 1 (by omega)]
  have nRq : nR f' = nR f := by unfold nR; rw [e 2 (by omega)]
  have nEq : nE f' = nE f := by unfold nE; rw [e 3 (by omega)]
  have nMq : nM f' = nM f := by unfold nM; rw [e 4 (by omega)]
  have nFq : nFo f' = nFo f := by unfold nFo; rw [e 5 (by omega)]
  refine ⟨⟨⟨by rw [nHq, e 0 (by omega)]; exact c1, by rw [nHq]; exact d1⟩, ⟨by rw [nTq, e 1 (by omega)]; exact c2, by rw [nTq]; exact d2⟩, ⟨by rw [nRq, e 2 (by omega)]; exact c3, by rw [nRq]; exact d3⟩, ⟨by rw [nEq, e 3 (by omega)]; exact c4, by rw [nEq]; exact d4⟩, ⟨by rw [nMq, e 4 (by omega)]; exact c5, by rw [nMq]; exact d5⟩, ⟨by rw [nFq, e 5 (by omega)]; exact c6, by rw [nFq]; exact d6⟩⟩, ?_, ?_, ?_, ?_, ?_, ?_, ?_, ?_⟩
  · intro i hi; rw [nHq] at hi; have s12 := (v2 i hi).2.2.2.1
    have nS' : nS f' i = nS f i := by unfold nS; rw [e (13 + i) (by omega)]
    unfold VH; rw [nS', e (7 + i) (by omega), e (13 + i) (by omega)]
    obtain ⟨a, b, c, d, q⟩ := v2 i hi
    exact ⟨a, b, c, d, fun s hs => by rw [e (73 + 24 * i + s) (by omega), e (85 + 24 * i + s) (by omega)]; exact q s hs⟩
  · intro j hj; rw [nTq] at hj; rw [e (19 + j) (by omega), e (23 + j) (by omega)]; exact v3 j hj
  · exact own
  · intro r hr; rw [nRq] at hr
    have q : ∀ j, j < 7 → rn f' r j = rn f r j := fun j hj => e _ (by omega)
    obtain ⟨⟨⟨w, w1, w2⟩, r1, r2, r3, r4, r5⟩, r6⟩ := v5 r hr
    unfold VR; rw [q 0 (by omega), q 1 (by omega), q 2 (by omega), q 3 (by omega), q 4 (by omega), q 5 (by omega), q 6 (by omega)]
    exact ⟨⟨⟨w, w1, by omega⟩, r1, r2, r3.imp id (fun ⟨t, t1, t2⟩ => ⟨t, t1, by omega⟩), r4, r5⟩, r6⟩
  · intro j hj; rw [nEq] at hj; rw [e (33 + j) (by omega), e (53 + j) (by omega)]; exact v6 j hj
  · intro j hj; rw [nMq] at hj; rw [e (637 + 2 * j) (by omega), e (638 + 2 * j) (by omega)]; exact v7 j hj
  · intro j hj; rw [nFq] at hj; rw [e (649 + 2 * j) (by omega), e (650 + 2 * j) (by omega)]; exact v8 j hj
  · intro j hj; rw [nFq] at hj; rw [e (649 + 2 * j) (by omega), e (651 + 2 * j) (by omega)]; exact v9 j hj
theorem Wd_D {f f' : Nat → Int32} {m m' : MM} (hV : Vf f) (h : Wd f 5 m) (e : ∀ z, (z < 27 ∨ 32 < z) → f' z = f z) (e51 : ldI m' 5 1 = ldI m 5 1) (e510 : ldI m' 5 10 = ldI m 5 10) (em : ∀ a, (a ≠ 29) → 5 < a → a ≤ 40 → ∀ k, ldI m' a k = ldI m a k) (own : (∀ j, j < 6 → ldI m' (5 + 24) j = f' (27 + j))) : Wd f' 5 m' := by
  obtain ⟨⟨w0, w1⟩, w2, ⟨w3, w4, w5⟩, w6, ⟨w7, w8⟩, ⟨w9, w10⟩, ⟨w11, w12⟩, w13, w14, w15⟩ := h
  obtain ⟨⟨c1, d1⟩, ⟨c2, d2⟩, ⟨c3, d3⟩, ⟨c4, d4⟩, ⟨c5, d5⟩, ⟨c6, d6⟩⟩ := hV.1
  have nHq : nH f' = nH f := by unfold nH; rw [e 0 (by omega)]
  have nTq : nT f' = nT f := by unfold nT; rw [e 1 (by omega)]
  have nRq : nR f' = nR f := by unfold nR; rw [e 2 (by omega)]
  have nEq : nE f' = nE f := by unfold nE; rw [e 3 (by omega)]
  have nMq : nM f' = nM f := by unfold nM; rw [e 4 (by omega)]
  have nFq : nFo f' = nFo f := by unfold nFo; rw [e 5 (by omega)]
  refine ⟨⟨?_, ?_⟩, ?_, ?_, ?_, ?_, ?_, ?_, ?_⟩
  · exact by rw [e51, e 0 (by omega)]; exact w0
  · exact by rw [e510, e 6 (by omega)]; exact w1
  · exact fun i hi => by
      rw [nHq] at hi
      have s12 := (hV.2.1 i hi).2.2.2.1
      have nSq : nS f' i = nS f i := by unfold nS; rw [e (13 + i) (by omega)]
      rw [nSq, e (7 + i) (by omega), e (13 + i) (by omega), em (5 + 2 + 3 * i) (by omega) (by omega) (by omega), em (5 + 2 + 3 * i) (by omega) (by omega) (by omega)]
      exact ⟨(w2 i hi).1, (w2 i hi).2.1, fun s hs => by rw [em (5 + 3 + 3 * i) (by omega) (by omega) (by omega), em (5 + 4 + 3 * i) (by omega) (by omega) (by omega), e (73 + 24 * i + s) (by omega), e (85 + 24 * i + s) (by omega)]; exact (w2 i hi).2.2 s hs⟩
  · exact ⟨by rw [em (5 + 20) (by omega) (by omega) (by omega), e 1 (by omega)]; exact w3, by rw [em (5 + 22) (by omega) (by omega) (by omega), e 1 (by omega)]; exact w4, fun j hj => by rw [nTq] at hj; rw [em (5 + 21) (by omega) (by omega) (by omega), em (5 + 23) (by omega) (by omega) (by omega), e (19 + j) (by omega), e (23 + j) (by omega)]; exact w5 j hj⟩
  · exact own
  · exact ⟨by rw [em (5 + 25) (by omega) (by omega) (by omega), nRq]; exact w7, fun j hj => by rw [nRq] at hj; rw [em (5 + 26) (by omega) (by omega) (by omega), e (217 + j) (by omega)]; exact w8 j hj⟩
  · exact ⟨by rw [em (5 + 28) (by omega) (by omega) (by omega), e 3 (by omega)]; exact w9, fun j hj => by rw [nEq] at hj; rw [em (5 + 29) (by omega) (by omega) (by omega), e (33 + j) (by omega), e (53 + j) (by omega)]; exact w10 j hj⟩
  · exact ⟨by rw [em (5 + 30) (by omega) (by omega) (by omega), e 4 (by omega)]; exact w11, fun j hj => by rw [nMq] at hj; rw [em (5 + 31) (by omega) (by omega) (by omega), e (637 + 2 * j) (by omega), e (638 + 2 * j) (by omega)]; exact w12 j hj⟩
  · exact ⟨by rw [em (5 + 32) (by omega) (by omega) (by omega), e 5 (by omega)]; exact w13, by rw [em (5 + 34) (by omega) (by omega) (by omega), e 5 (by omega)]; exact w14, fun j hj => by rw [nFq] at hj; rw [em (5 + 33) (by omega) (by omega) (by omega), em (5 + 35) (by omega) (by omega) (by omega), e (649 + 2 * j) (by omega), e (650 + 2 * j) (by omega)]; exact w15 j hj⟩
theorem Vf_R {f f' : Nat → Int32} (h : Vf f) (e : ∀ z, (z ≠ 2 ∧ z < 217 ∨ 636 < z) → f' z = f z) (c : f' 2 = nI (nR f') ∧ nR f' ≤ 60) (own : (∀ r, r < nR f' → VR f' (rn f' r) ∧ iv 0 1000000000 (rn f' r 6))) : Vf f' := by
  obtain ⟨v1, v2, v3, v4, v5, v6, v7, v8, v9⟩ := h
  obtain ⟨⟨c1, d1⟩, ⟨c2, d2⟩, ⟨c3, d3⟩, ⟨c4, d4⟩, ⟨c5, d5⟩, ⟨c6, d6⟩⟩ := v1
  have nHq : nH f' = nH f := by unfold nH; rw [e 0 (by omega)]
  have nTq : nT f' = nT f := by unfold nT; rw [e 1 (by omega)]
  have nEq : nE f' = nE f := by unfold nE; rw [e 3 (by omega)]
  have nMq : nM f' = nM f := by unfold nM; rw [e 4 (by omega)]
  have nFq : nFo f' = nFo f := by unfold nFo; rw [e 5 (by omega)]
  refine ⟨⟨⟨by rw [nHq, e 0 (by omega)]; exact c1, by rw [nHq]; exact d1⟩, ⟨by rw [nTq, e 1 (by omega)]; exact c2, by rw [nTq]; exact d2⟩, c, ⟨by rw [nEq, e 3 (by omega)]; exact c4, by rw [nEq]; exact d4⟩, ⟨by rw [nMq, e 4 (by omega)]; exact c5, by rw [nMq]; exact d5⟩, ⟨by rw [nFq, e 5 (by omega)]; exact c6, by rw [nFq]; exact d6⟩⟩, ?_, ?_, ?_, ?_, ?_, ?_, ?_, ?_⟩
  · intro i hi; rw [nHq] at hi; have s12 := (v2 i hi).2.2.2.1
    have nS' : nS f' i = nS f i := by unfold nS; rw [e (13 + i) (by omega)]
    unfold VH; rw [nS', e (7 + i) (by omega), e (13 + i) (by omega)]
    obtain ⟨a, b, c, d, q⟩ := v2 i hi
    exact ⟨a, b, c, d, fun s hs => by rw [e (73 + 24 * i + s) (by omega), e (85 + 24 * i + s) (by omega)]; exact q s hs⟩
  · intro j hj; rw [nTq] at hj; rw [e (19 + j) (by omega), e (23 + j) (by omega)]; exact v3 j hj
  · rw [e 27 (by omega), e 28 (by omega), e 29 (by omega), e 30 (by omega), e 31 (by omega), e 32 (by omega)]
    obtain ⟨⟨q, q1, q2⟩, r1, r2, r3, r4, r5⟩ := v4
    exact ⟨⟨q, q1, q2.imp (fun z => by omega) id⟩, r1, r2, r3.imp id (fun ⟨t, t1, t2⟩ => ⟨t, t1, by omega⟩), r4, r5⟩
  · exact own
  · intro j hj; rw [nEq] at hj; rw [e (33 + j) (by omega), e (53 + j) (by omega)]; exact v6 j hj
  · intro j hj; rw [nMq] at hj; rw [e (637 + 2 * j) (by omega), e (638 + 2 * j) (by omega)]; exact v7 j hj
  · intro j hj; rw [nFq] at hj; rw [e (649 + 2 * j) (by omega), e (650 + 2 * j) (by omega)]; exact v8 j hj
  · intro j hj; rw [nFq] at hj; rw [e (649 + 2 * j) (by omega), e (651 + 2 * j) (by omega)]; exact v9 j hj
theorem Wd_R {f f' : Nat → Int32} {m m' : MM} (hV : Vf f) (h : Wd f 5 m) (e : ∀ z, (z ≠ 2 ∧ z < 217 ∨ 636 < z) → f' z = f z) (e51 : ldI m' 5 1 = ldI m 5 1) (e510 : ldI m' 5 10 = ldI m 5 10) (em : ∀ a, (a ≠ 30 ∧ a ≠ 31) → 5 < a → a ≤ 40 → ∀ k, ldI m' a k = ldI m a k) (own : (ldI m' (5 + 25) 1 = nI (7 * nR f') ∧ ∀ j, j < 7 * nR f' → ldI m' (5 + 26) j = f' (217 + j))) : Wd f' 5 m' := by
  obtain ⟨⟨w0, w1⟩, w2, ⟨w3, w4, w5⟩, w6, ⟨w7, w8⟩, ⟨w9, w10⟩, ⟨w11, w12⟩, w13, w14, w15⟩ := h
  obtain ⟨⟨c1, d1⟩, ⟨c2, d2⟩, ⟨c3, d3⟩, ⟨c4, d4⟩, ⟨c5, d5⟩, ⟨c6, d6⟩⟩ := hV.1
  have nHq : nH f' = nH f := by unfold nH; rw [e 0 (by omega)]
  have nTq : nT f' = nT f := by unfold nT; rw [e 1 (by omega)]
  have nEq : nE f' = nE f := by unfold nE; rw [e 3 (by omega)]
  have nMq : nM f' = nM f := by unfold nM; rw [e 4 (by omega)]
  have nFq : nFo f' = nFo f := by unfold nFo; rw [e 5 (by omega)]
  refine ⟨⟨?_, ?_⟩, ?_, ?_, ?_, ?_, ?_, ?_, ?_⟩
  · exact by rw [e51, e 0 (by omega)]; exact w0
  · exact by rw [e510, e 6 (by omega)]; exact w1
  · exact fun i hi => by
      rw [nHq] at hi
      have s12 := (hV.2.1 i hi).2.2.2.1
      have nSq : nS f' i = nS f i := by unfold nS; rw [e (13 + i) (by omega)]
      rw [nSq, e (7 + i) (by omega), e (13 + i) (by omega), em (5 + 2 + 3 * i) (by omega) (by omega) (by omega), em (5 + 2 + 3 * i) (by omega) (by omega) (by omega)]
      exact ⟨(w2 i hi).1, (w2 i hi).2.1, fun s hs => by rw [em (5 + 3 + 3 * i) (by omega) (by omega) (by omega), em (5 + 4 + 3 * i) (by omega) (by omega) (by omega), e (73 + 24 * i + s) (by omega), e (85 + 24 * i + s) (by omega)]; exact (w2 i hi).2.2 s hs⟩
  · exact ⟨by rw [em (5 + 20) (by omega) (by omega) (by omega), e 1 (by omega)]; exact w3, by rw [em (5 + 22) (by omega) (by omega) (by omega), e 1 (by omega)]; exact w4, fun j hj => by rw [nTq] at hj; rw [em (5 + 21) (by omega) (by omega) (by omega), em (5 + 23) (by omega) (by omega) (by omega), e (19 + j) (by omega), e (23 + j) (by omega)]; exact w5 j hj⟩
  · exact fun j hj => by rw [em (5 + 24) (by omega) (by omega) (by omega), e (27 + j) (by omega)]; exact w6 j hj
  · exact own
  · exact ⟨by rw [em (5 + 28) (by omega) (by omega) (by omega), e 3 (by omega)]; exact w9, fun j hj => by rw [nEq] at hj; rw [em (5 + 29) (by omega) (by omega) (by omega), e (33 + j) (by omega), e (53 + j) (by omega)]; exact w10 j hj⟩
  · exact ⟨by rw [em (5 + 30) (by omega) (by omega) (by omega), e 4 (by omega)]; exact w11, fun j hj => by rw [nMq] at hj; rw [em (5 + 31) (by omega) (by omega) (by omega), e (637 + 2 * j) (by omega), e (638 + 2 * j) (by omega)]; exact w12 j hj⟩
  · exact ⟨by rw [em (5 + 32) (by omega) (by omega) (by omega), e 5 (by omega)]; exact w13, by rw [em (5 + 34) (by omega) (by omega) (by omega), e 5 (by omega)]; exact w14, fun j hj => by rw [nFq] at hj; rw [em (5 + 33) (by omega) (by omega) (by omega), em (5 + 35) (by omega) (by omega) (by omega), e (649 + 2 * j) (by omega), e (650 + 2 * j) (by omega)]; exact w15 j hj⟩
theorem Vf_E {f f' : Nat → Int32} (h : Vf f) (e : ∀ z, (z ≠ 3 ∧ z < 33 ∨ 72 < z) → f' z = f z) (c : f' 3 = nI (nE f') ∧ nE f' ≤ 20) (own : (∀ j, j < nE f' → iv 1 1000000000 (f' (33 + j)) ∧ iv 0 1000000000 (f' (53 + j)))) : Vf f' := by
  obtain ⟨v1, v2, v3, v4, v5, v6, v7, v8, v9⟩ := h
  obtain ⟨⟨c1, d1⟩, ⟨c2, d2⟩, ⟨c3, d3⟩, ⟨c4, d4⟩, ⟨c5, d5⟩, ⟨c6, d6⟩⟩ := v1
  have nHq : nH f' = nH f := by unfold nH; rw [e 0 (by omega)]
  have nTq : nT f' = nT f := by unfold nT; rw [e 1 (by omega)]
  have nRq : nR f' = nR f := by unfold nR; rw [e 2 (by omega)]
  have nMq : nM f' = nM f := by unfold nM; rw [e 4 (by omega)]
  have nFq : nFo f' = nFo f := by unfold nFo; rw [e 5 (by omega)]
  refine ⟨⟨⟨by rw [nHq, e 0 (by omega)]; exact c1, by rw [nHq]; exact d1⟩, ⟨by rw [nTq, e 1 (by omega)]; exact c2, by rw [nTq]; exact d2⟩, ⟨by rw [nRq, e 2 (by omega)]; exact c3, by rw [nRq]; exact d3⟩, c, ⟨by rw [nMq, e 4 (by omega)]; exact c5, by rw [nMq]; exact d5⟩, ⟨by rw [nFq, e 5 (by omega)]; exact c6, by rw [nFq]; exact d6⟩⟩, ?_, ?_, ?_, ?_, ?_, ?_, ?_, ?_⟩
  · intro i hi; rw [nHq] at hi; have s12 := (v2 i hi).2.2.2.1
    have nS' : nS f' i = nS f i := by unfold nS; rw [e (13 + i) (by omega)]
    unfold VH; rw [nS', e (7 + i) (by omega), e (13 + i) (by omega)]
    obtain ⟨a, b, c, d, q⟩ := v2 i hi
    exact ⟨a, b, c, d, fun s hs => by rw [e (73 + 24 * i + s) (by omega), e (85 + 24 * i + s) (by omega)]; exact q s hs⟩
  · intro j hj; rw [nTq] at hj; rw [e (19 + j) (by omega), e (23 + j) (by omega)]; exact v3 j hj
  · rw [e 27 (by omega), e 28 (by omega), e 29 (by omega), e 30 (by omega), e 31 (by omega), e 32 (by omega)]
    obtain ⟨⟨q, q1, q2⟩, r1, r2, r3, r4, r5⟩ := v4
    exact ⟨⟨q, q1, q2.imp (fun z => by omega) id⟩, r1, r2, r3.imp id (fun ⟨t, t1, t2⟩ => ⟨t, t1, by omega⟩), r4, r5⟩
  · intro r hr; rw [nRq] at hr
    have q : ∀ j, j < 7 → rn f' r j = rn f r j := fun j hj => e _ (by omega)
    obtain ⟨⟨⟨w, w1, w2⟩, r1, r2, r3, r4, r5⟩, r6⟩ := v5 r hr
    unfold VR; rw [q 0 (by omega), q 1 (by omega), q 2 (by omega), q 3 (by omega), q 4 (by omega), q 5 (by omega), q 6 (by omega)]
    exact ⟨⟨⟨w, w1, by omega⟩, r1, r2, r3.imp id (fun ⟨t, t1, t2⟩ => ⟨t, t1, by omega⟩), r4, r5⟩, r6⟩
  · exact own
  · intro j hj; rw [nMq] at hj; rw [e (637 + 2 * j) (by omega), e (638 + 2 * j) (by omega)]; exact v7 j hj
  · intro j hj; rw [nFq] at hj; rw [e (649 + 2 * j) (by omega), e (650 + 2 * j) (by omega)]; exact v8 j hj
  · intro j hj; rw [nFq] at hj; rw [e (649 + 2 * j) (by omega), e (651 + 2 * j) (by omega)]; exact v9 j hj
theorem Wd_E {f f' : Nat → Int32} {m m' : MM} (hV : Vf f) (h : Wd f 5 m) (e : ∀ z, (z ≠ 3 ∧ z < 33 ∨ 72 < z) → f' z = f z) (e51 : ldI m' 5 1 = ldI m 5 1) (e510 : ldI m' 5 10 = ldI m 5 10) (em : ∀ a, (a ≠ 33 ∧ a ≠ 34) → 5 < a → a ≤ 40 → ∀ k, ldI m' a k = ldI m a k) (own : (ldI m' (5 + 28) 1 = f' 3 ∧ ∀ j, j < nE f' → ldI m' (5 + 29) j = rat (f' (33 + j)) (f' (53 + j)))) : Wd f' 5 m' := by
  obtain ⟨⟨w0, w1⟩, w2, ⟨w3, w4, w5⟩, w6, ⟨w7, w8⟩, ⟨w9, w10⟩, ⟨w11, w12⟩, w13, w14, w15⟩ := h
  obtain ⟨⟨c1, d1⟩, ⟨c2, d2⟩, ⟨c3, d3⟩, ⟨c4, d4⟩, ⟨c5, d5⟩, ⟨c6, d6⟩⟩ := hV.1
  have nHq : nH f' = nH f := by unfold nH; rw [e 0 (by omega)]
  have nTq : nT f' = nT f := by unfold nT; rw [e 1 (by omega)]
  have nRq : nR f' = nR f := by unfold nR; rw [e 2 (by omega)]
  have nMq : nM f' = nM f := by unfold nM; rw [e 4 (by omega)]
  have nFq : nFo f' = nFo f := by unfold nFo; rw [e 5 (by omega)]
  refine ⟨⟨?_, ?_⟩, ?_, ?_, ?_, ?_, ?_, ?_, ?_⟩
  · exact by rw [e51, e 0 (by omega)]; exact w0
  · exact by rw [e510, e 6 (by omega)]; exact w1
  · exact fun i hi => by
      rw [nHq] at hi
      have s12 := (hV.2.1 i hi).2.2.2.1
      have nSq : nS f' i = nS f i := by unfold nS; rw [e (13 + i) (by omega)]
      rw [nSq, e (7 + i) (by omega), e (13 + i) (by omega), em (5 + 2 + 3 * i) (by omega) (by omega) (by omega), em (5 + 2 + 3 * i) (by omega) (by omega) (by omega)]
      exact ⟨(w2 i hi).1, (w2 i hi).2.1, fun s hs => by rw [em (5 + 3 + 3 * i) (by omega) (by omega) (by omega), em (5 + 4 + 3 * i) (by omega) (by omega) (by omega), e (73 + 24 * i + s) (by omega), e (85 + 24 * i + s) (by omega)]; exact (w2 i hi).2.2 s hs⟩
  · exact ⟨by rw [em (5 + 20) (by omega) (by omega) (by omega), e 1 (by omega)]; exact w3, by rw [em (5 + 22) (by omega) (by omega) (by omega), e 1 (by omega)]; exact w4, fun j hj => by rw [nTq] at hj; rw [em (5 + 21) (by omega) (by omega) (by omega), em (5 + 23) (by omega) (by omega) (by omega), e (19 + j) (by omega), e (23 + j) (by omega)]; exact w5 j hj⟩
  · exact fun j hj => by rw [em (5 + 24) (by omega) (by omega) (by omega), e (27 + j) (by omega)]; exact w6 j hj
  · exact ⟨by rw [em (5 + 25) (by omega) (by omega) (by omega), nRq]; exact w7, fun j hj => by rw [nRq] at hj; rw [em (5 + 26) (by omega) (by omega) (by omega), e (217 + j) (by omega)]; exact w8 j hj⟩
  · exact own
  · exact ⟨by rw [em (5 + 30) (by omega) (by omega) (by omega), e 4 (by omega)]; exact w11, fun j hj => by rw [nMq] at hj; rw [em (5 + 31) (by omega) (by omega) (by omega), e (637 + 2 * j) (by omega), e (638 + 2 * j) (by omega)]; exact w12 j hj⟩
  · exact ⟨by rw [em (5 + 32) (by omega) (by omega) (by omega), e 5 (by omega)]; exact w13, by rw [em (5 + 34) (by omega) (by omega) (by omega), e 5 (by omega)]; exact w14, fun j hj => by rw [nFq] at hj; rw [em (5 + 33) (by omega) (by omega) (by omega), em (5 + 35) (by omega) (by omega) (by omega), e (649 + 2 * j) (by omega), e (650 + 2 * j) (by omega)]; exact w15 j hj⟩
theorem Vf_M {f f' : Nat → Int32} (h : Vf f) (e : ∀ z, (z ≠ 4 ∧ z < 637 ∨ 648 < z) → f' z = f z) (c : f' 4 = nI (nM f') ∧ nM f' ≤ 6) (own : (∀ j, j < nM f' → iv 0 999 (f' (637 + 2 * j)) ∧ iv (-99) 99 (f' (638 + 2 * j)))) : Vf f' := by
  obtain ⟨v1, v2, v3, v4, v5, v6, v7, v8, v9⟩ := h
  obtain ⟨⟨c1, d1⟩, ⟨c2, d2⟩, ⟨c3, d3⟩, ⟨c4, d4⟩, ⟨c5, d5⟩, ⟨c6, d6⟩⟩ := v1
  have nHq : nH f' = nH f := by unfold nH; rw [e 0 (by omega)]
  have nTq : nT f' = nT f := by unfold nT; rw [e 1 (by omega)]
  have nRq : nR f' = nR f := by unfold nR; rw [e 2 (by omega)]
  have nEq : nE f' = nE f := by unfold nE; rw [e 3 (by omega)]
  have nFq : nFo f' = nFo f := by unfold nFo; rw [e 5 (by omega)]
  refine ⟨⟨⟨by rw [nHq, e 0 (by omega)]; exact c1, by rw [nHq]; exact d1⟩, ⟨by rw [nTq, e 1 (by omega)]; exact c2, by rw [nTq]; exact d2⟩, ⟨by rw [nRq, e 2 (by omega)]; exact c3, by rw [nRq]; exact d3⟩, ⟨by rw [nEq, e 3 (by omega)]; exact c4, by rw [nEq]; exact d4⟩, c, ⟨by rw [nFq, e 5 (by omega)]; exact c6, by rw [nFq]; exact d6⟩⟩, ?_, ?_, ?_, ?_, ?_, ?_, ?_, ?_⟩
  · intro i hi; rw [nHq] at hi; have s12 := (v2 i hi).2.2.2.1
    have nS' : nS f' i = nS f i := by unfold nS; rw [e (13 + i) (by omega)]
    unfold VH; rw [nS', e (7 + i) (by omega), e (13 + i) (by omega)]
    obtain ⟨a, b, c, d, q⟩ := v2 i hi
    exact ⟨a, b, c, d, fun s hs => by rw [e (73 + 24 * i + s) (by omega), e (85 + 24 * i + s) (by omega)]; exact q s hs⟩
  · intro j hj; rw [nTq] at hj; rw [e (19 + j) (by omega), e (23 + j) (by omega)]; exact v3 j hj
  · rw [e 27 (by omega), e 28 (by omega), e 29 (by omega), e 30 (by omega), e 31 (by omega), e 32 (by omega)]
    obtain ⟨⟨q, q1, q2⟩, r1, r2, r3, r4, r5⟩ := v4
    exact ⟨⟨q, q1, q2.imp (fun z => by omega) id⟩, r1, r2, r3.imp id (fun ⟨t, t1, t2⟩ => ⟨t, t1, by omega⟩), r4, r5⟩
  · intro r hr; rw [nRq] at hr
    have q : ∀ j, j < 7 → rn f' r j = rn f r j := fun j hj => e _ (by omega)
    obtain ⟨⟨⟨w, w1, w2⟩, r1, r2, r3, r4, r5⟩, r6⟩ := v5 r hr
    unfold VR; rw [q 0 (by omega), q 1 (by omega), q 2 (by omega), q 3 (by omega), q 4 (by omega), q 5 (by omega), q 6 (by omega)]
    exact ⟨⟨⟨w, w1, by omega⟩, r1, r2, r3.imp id (fun ⟨t, t1, t2⟩ => ⟨t, t1, by omega⟩), r4, r5⟩, r6⟩
  · intro j hj; rw [nEq] at hj; rw [e (33 + j) (by omega), e (53 + j) (by omega)]; exact v6 j hj
  · exact own
  · intro j hj; rw [nFq] at hj; rw [e (649 + 2 * j) (by omega), e (650 + 2 * j) (by omega)]; exact v8 j hj
  · intro j hj; rw [nFq] at hj; rw [e (649 + 2 * j) (by omega), e (651 + 2 * j) (by omega)]; exact v9 j hj
theorem Wd_M {f f' : Nat → Int32} {m m' : MM} (hV : Vf f) (h : Wd f 5 m) (e : ∀ z, (z ≠ 4 ∧ z < 637 ∨ 648 < z) → f' z = f z) (e51 : ldI m' 5 1 = ldI m 5 1) (e510 : ldI m' 5 10 = ldI m 5 10) (em : ∀ a, (a ≠ 35 ∧ a ≠ 36) → 5 < a → a ≤ 40 → ∀ k, ldI m' a k = ldI m a k) (own : (ldI m' (5 + 30) 1 = f' 4 ∧ ∀ j, j < nM f' → ldI m' (5 + 31) j = f' (637 + 2 * j) + f' (638 + 2 * j) / 10)) : Wd f' 5 m' := by
  obtain ⟨⟨w0, w1⟩, w2, ⟨w3, w4, w5⟩, w6, ⟨w7, w8⟩, ⟨w9, w10⟩, ⟨w11, w12⟩, w13, w14, w15⟩ := h
  obtain ⟨⟨c1, d1⟩, ⟨c2, d2⟩, ⟨c3, d3⟩, ⟨c4, d4⟩, ⟨c5, d5⟩, ⟨c6, d6⟩⟩ := hV.1
  have nHq : nH f' = nH f := by unfold nH; rw [e 0 (by omega)]
  have nTq : nT f' = nT f := by unfold nT; rw [e 1 (by omega)]
  have nRq : nR f' = nR f := by unfold nR; rw [e 2 (by omega)]
  have nEq : nE f' = nE f := by unfold nE; rw [e 3 (by omega)]
  have nFq : nFo f' = nFo f := by unfold nFo; rw [e 5 (by omega)]
  refine ⟨⟨?_, ?_⟩, ?_, ?_, ?_, ?_, ?_, ?_, ?_⟩
  · exact by rw [e51, e 0 (by omega)]; exact w0
  · exact by rw [e510, e 6 (by omega)]; exact w1
  · exact fun i hi => by
      rw [nHq] at hi
      have s12 := (hV.2.1 i hi).2.2.2.1
      have nSq : nS f' i = nS f i := by unfold nS; rw [e (13 + i) (by omega)]
      rw [nSq, e (7 + i) (by omega), e (13 + i) (by omega), em (5 + 2 + 3 * i) (by omega) (by omega) (by omega), em (5 + 2 + 3 * i) (by omega) (by omega) (by omega)]
      exact ⟨(w2 i hi).1, (w2 i hi).2.1, fun s hs => by rw [em (5 + 3 + 3 * i) (by omega) (by omega) (by omega), em (5 + 4 + 3 * i) (by omega) (by omega) (by omega), e (73 + 24 * i + s) (by omega), e (85 + 24 * i + s) (by omega)]; exact (w2 i hi).2.2 s hs⟩
  · exact ⟨by rw [em (5 + 20) (by omega) (by omega) (by omega), e 1 (by omega)]; exact w3, by rw [em (5 + 22) (by omega) (by omega) (by omega), e 1 (by omega)]; exact w4, fun j hj => by rw [nTq] at hj; rw [em (5 + 21) (by omega) (by omega) (by omega), em (5 + 23) (by omega) (by omega) (by omega), e (19 + j) (by omega), e (23 + j) (by omega)]; exact w5 j hj⟩
  · exact fun j hj => by rw [em (5 + 24) (by omega) (by omega) (by omega), e (27 + j) (by omega)]; exact w6 j hj
  · exact ⟨by rw [em (5 + 25) (by omega) (by omega) (by omega), nRq]; exact w7, fun j hj => by rw [nRq] at hj; rw [em (5 + 26) (by omega) (by omega) (by omega), e (217 + j) (by omega)]; exact w8 j hj⟩
  · exact ⟨by rw [em (5 + 28) (by omega) (by omega) (by omega), e 3 (by omega)]; exact w9, fun j hj => by rw [nEq] at hj; rw [em (5 + 29) (by omega) (by omega) (by omega), e (33 + j) (by omega), e (53 + j) (by omega)]; exact w10 j hj⟩
  · exact own
  · exact ⟨by rw [em (5 + 32) (by omega) (by omega) (by omega), e 5 (by omega)]; exact w13, by rw [em (5 + 34) (by omega) (by omega) (by omega), e 5 (by omega)]; exact w14, fun j hj => by rw [nFq] at hj; rw [em (5 + 33) (by omega) (by omega) (by omega), em (5 + 35) (by omega) (by omega) (by omega), e (649 + 2 * j) (by omega), e (650 + 2 * j) (by omega)]; exact w15 j hj⟩
theorem Vf_F {f f' : Nat → Int32} (h : Vf f) (e : ∀ z, (z ≠ 5 ∧ z < 649) → f' z = f z) (c : f' 5 = nI (nFo f') ∧ nFo f' ≤ 8) (own : ((∀ j, j < nFo f' → iv 0 999 (f' (649 + 2 * j)) ∧ iv 0 999 (f' (650 + 2 * j))) ∧ (∀ j, j + 1 < nFo f' → f' (649 + 2 * j) < f' (651 + 2 * j)))) : Vf f' := by
  obtain ⟨v1, v2, v3, v4, v5, v6, v7, v8, v9⟩ := h
  obtain ⟨⟨c1, d1⟩, ⟨c2, d2⟩, ⟨c3, d3⟩, ⟨c4, d4⟩, ⟨c5, d5⟩, ⟨c6, d6⟩⟩ := v1
  have nHq : nH f' = nH f := by unfold nH; rw [e 0 (by omega)]
  have nTq : nT f' = nT f := by unfold nT; rw [e 1 (by omega)]
  have nRq : nR f' = nR f := by unfold nR; rw [e 2 (by omega)]
  have nEq : nE f' = nE f := by unfold nE; rw [e 3 (by omega)]
  have nMq : nM f' = nM f := by unfold nM; rw [e 4 (by omega)]
  refine ⟨⟨⟨by rw [nHq, e 0 (by omega)]; exact c1, by rw [nHq]; exact d1⟩, ⟨by rw [nTq, e 1 (by omega)]; exact c2, by rw [nTq]; exact d2⟩, ⟨by rw [nRq, e 2 (by omega)]; exact c3, by rw [nRq]; exact d3⟩, ⟨by rw [nEq, e 3 (by omega)]; exact c4, by rw [nEq]; exact d4⟩, ⟨by rw [nMq, e 4 (by omega)]; exact c5, by rw [nMq]; exact d5⟩, c⟩, ?_, ?_, ?_, ?_, ?_, ?_, ?_, ?_⟩
  · intro i hi; rw [nHq] at hi; have s12 := (v2 i hi).2.2.2.1
    have nS' : nS f' i = nS f i := by unfold nS; rw [e (13 + i) (by omega)]
    unfold VH; rw [nS', e (7 + i) (by omega), e (13 + i) (by omega)]
    obtain ⟨a, b, c, d, q⟩ := v2 i hi
    exact ⟨a, b, c, d, fun s hs => by rw [e (73 + 24 * i + s) (by omega), e (85 + 24 * i + s) (by omega)]; exact q s hs⟩
  · intro j hj; rw [nTq] at hj; rw [e (19 + j) (by omega), e (23 + j) (by omega)]; exact v3 j hj
  · rw [e 27 (by omega), e 28 (by omega), e 29 (by omega), e 30 (by omega), e 31 (by omega), e 32 (by omega)]
    obtain ⟨⟨q, q1, q2⟩, r1, r2, r3, r4, r5⟩ := v4
    exact ⟨⟨q, q1, q2.imp (fun z => by omega) id⟩, r1, r2, r3.imp id (fun ⟨t, t1, t2⟩ => ⟨t, t1, by omega⟩), r4, r5⟩
  · intro r hr; rw [nRq] at hr
    have q : ∀ j, j < 7 → rn f' r j = rn f r j := fun j hj => e _ (by omega)
    obtain ⟨⟨⟨w, w1, w2⟩, r1, r2, r3, r4, r5⟩, r6⟩ := v5 r hr
    unfold VR; rw [q 0 (by omega), q 1 (by omega), q 2 (by omega), q 3 (by omega), q 4 (by omega), q 5 (by omega), q 6 (by omega)]
    exact ⟨⟨⟨w, w1, by omega⟩, r1, r2, r3.imp id (fun ⟨t, t1, t2⟩ => ⟨t, t1, by omega⟩), r4, r5⟩, r6⟩
  · intro j hj; rw [nEq] at hj; rw [e (33 + j) (by omega), e (53 + j) (by omega)]; exact v6 j hj
  · intro j hj; rw [nMq] at hj; rw [e (637 + 2 * j) (by omega), e (638 + 2 * j) (by omega)]; exact v7 j hj
  · exact own.1
  · exact own.2
theorem Wd_F {f f' : Nat → Int32} {m m' : MM} (hV : Vf f) (h : Wd f 5 m) (e : ∀ z, (z ≠ 5 ∧ z < 649) → f' z = f z) (e51 : ldI m' 5 1 = ldI m 5 1) (e510 : ldI m' 5 10 = ldI m 5 10) (em : ∀ a, (a < 37) → 5 < a → a ≤ 40 → ∀ k, ldI m' a k = ldI m a k) (own : (ldI m' (5 + 32) 1 = f' 5 ∧ ldI m' (5 + 34) 1 = f' 5 ∧ ∀ j, j < nFo f' → ldI m' (5 + 33) j = f' (649 + 2 * j) ∧ ldI m' (5 + 35) j = f' (650 + 2 * j))) : Wd f' 5 m' := by
  obtain ⟨⟨w0, w1⟩, w2, ⟨w3, w4, w5⟩, w6, ⟨w7, w8⟩, ⟨w9, w10⟩, ⟨w11, w12⟩, w13, w14, w15⟩ := h
  obtain ⟨⟨c1, d1⟩, ⟨c2, d2⟩, ⟨c3, d3⟩, ⟨c4, d4⟩, ⟨c5, d5⟩, ⟨c6, d6⟩⟩ := hV.1
  have nHq : nH f' = nH f := by unfold nH; rw [e 0 (by omega)]
  have nTq : nT f' = nT f := by unfold nT; rw [e 1 (by omega)]
  have nRq : nR f' = nR f := by unfold nR; rw [e 2 (by omega)]
  have nEq : nE f' = nE f := by unfold nE; rw [e 3 (by omega)]
  have nMq : nM f' = nM f := by unfold nM; rw [e 4 (by omega)]
  refine ⟨⟨?_, ?_⟩, ?_, ?_, ?_, ?_, ?_, ?_, ?_⟩
  · exact by rw [e51, e 0 (by omega)]; exact w0
  · exact by rw [e510, e 6 (by omega)]; exact w1
  · exact fun i hi => by
      rw [nHq] at hi
      have s12 := (hV.2.1 i hi).2.2.2.1
      have nSq : nS f' i = nS f i := by unfold nS; rw [e (13 + i) (by omega)]
      rw [nSq, e (7 + i) (by omega), e (13 + i) (by omega), em (5 + 2 + 3 * i) (by omega) (by omega) (by omega), em (5 + 2 + 3 * i) (by omega) (by omega) (by omega)]
      exact ⟨(w2 i hi).1, (w2 i hi).2.1, fun s hs => by rw [em (5 + 3 + 3 * i) (by omega) (by omega) (by omega), em (5 + 4 + 3 * i) (by omega) (by omega) (by omega), e (73 + 24 * i + s) (by omega), e (85 + 24 * i + s) (by omega)]; exact (w2 i hi).2.2 s hs⟩
  · exact ⟨by rw [em (5 + 20) (by omega) (by omega) (by omega), e 1 (by omega)]; exact w3, by rw [em (5 + 22) (by omega) (by omega) (by omega), e 1 (by omega)]; exact w4, fun j hj => by rw [nTq] at hj; rw [em (5 + 21) (by omega) (by omega) (by omega), em (5 + 23) (by omega) (by omega) (by omega), e (19 + j) (by omega), e (23 + j) (by omega)]; exact w5 j hj⟩
  · exact fun j hj => by rw [em (5 + 24) (by omega) (by omega) (by omega), e (27 + j) (by omega)]; exact w6 j hj
  · exact ⟨by rw [em (5 + 25) (by omega) (by omega) (by omega), nRq]; exact w7, fun j hj => by rw [nRq] at hj; rw [em (5 + 26) (by omega) (by omega) (by omega), e (217 + j) (by omega)]; exact w8 j hj⟩
  · exact ⟨by rw [em (5 + 28) (by omega) (by omega) (by omega), e 3 (by omega)]; exact w9, fun j hj => by rw [nEq] at hj; rw [em (5 + 29) (by omega) (by omega) (by omega), e (33 + j) (by omega), e (53 + j) (by omega)]; exact w10 j hj⟩
  · exact ⟨by rw [em (5 + 30) (by omega) (by omega) (by omega), e 4 (by omega)]; exact w11, fun j hj => by rw [nMq] at hj; rw [em (5 + 31) (by omega) (by omega) (by omega), e (637 + 2 * j) (by omega), e (638 + 2 * j) (by omega)]; exact w12 j hj⟩
  · exact own
theorem Vf_S {f f' : Nat → Int32} (h : Vf f) (e : ∀ z, (z ≠ 6) → f' z = f z) : Vf f' := by
  obtain ⟨v1, v2, v3, v4, v5, v6, v7, v8, v9⟩ := h
  obtain ⟨⟨c1, d1⟩, ⟨c2, d2⟩, ⟨c3, d3⟩, ⟨c4, d4⟩, ⟨c5, d5⟩, ⟨c6, d6⟩⟩ := v1
  have nHq : nH f' = nH f := by unfold nH; rw [e 0 (by omega)]
  have nTq : nT f' = nT f := by unfold nT; rw [e 1 (by omega)]
  have nRq : nR f' = nR f := by unfold nR; rw [e 2 (by omega)]
  have nEq : nE f' = nE f := by unfold nE; rw [e 3 (by omega)]
  have nMq : nM f' = nM f := by unfold nM; rw [e 4 (by omega)]
  have nFq : nFo f' = nFo f := by unfold nFo; rw [e 5 (by omega)]
  refine ⟨⟨⟨by rw [nHq, e 0 (by omega)]; exact c1, by rw [nHq]; exact d1⟩, ⟨by rw [nTq, e 1 (by omega)]; exact c2, by rw [nTq]; exact d2⟩, ⟨by rw [nRq, e 2 (by omega)]; exact c3, by rw [nRq]; exact d3⟩, ⟨by rw [nEq, e 3 (by omega)]; exact c4, by rw [nEq]; exact d4⟩, ⟨by rw [nMq, e 4 (by omega)]; exact c5, by rw [nMq]; exact d5⟩, ⟨by rw [nFq, e 5 (by omega)]; exact c6, by rw [nFq]; exact d6⟩⟩, ?_, ?_, ?_, ?_, ?_, ?_, ?_, ?_⟩
  · intro i hi; rw [nHq] at hi; have s12 := (v2 i hi).2.2.2.1
    have nS' : nS f' i = nS f i := by unfold nS; rw [e (13 + i) (by omega)]
    unfold VH; rw [nS', e (7 + i) (by omega), e (13 + i) (by omega)]
    obtain ⟨a, b, c, d, q⟩ := v2 i hi
    exact ⟨a, b, c, d, fun s hs => by rw [e (73 + 24 * i + s) (by omega), e (85 + 24 * i + s) (by omega)]; exact q s hs⟩
  · intro j hj; rw [nTq] at hj; rw [e (19 + j) (by omega), e (23 + j) (by omega)]; exact v3 j hj
  · rw [e 27 (by omega), e 28 (by omega), e 29 (by omega), e 30 (by omega), e 31 (by omega), e 32 (by omega)]
    obtain ⟨⟨q, q1, q2⟩, r1, r2, r3, r4, r5⟩ := v4
    exact ⟨⟨q, q1, q2.imp (fun z => by omega) id⟩, r1, r2, r3.imp id (fun ⟨t, t1, t2⟩ => ⟨t, t1, by omega⟩), r4, r5⟩
  · intro r hr; rw [nRq] at hr
    have q : ∀ j, j < 7 → rn f' r j = rn f r j := fun j hj => e _ (by omega)
    obtain ⟨⟨⟨w, w1, w2⟩, r1, r2, r3, r4, r5⟩, r6⟩ := v5 r hr
    unfold VR; rw [q 0 (by omega), q 1 (by omega), q 2 (by omega), q 3 (by omega), q 4 (by omega), q 5 (by omega), q 6 (by omega)]
    exact ⟨⟨⟨w, w1, by omega⟩, r1, r2, r3.imp id (fun ⟨t, t1, t2⟩ => ⟨t, t1, by omega⟩), r4, r5⟩, r6⟩
  · intro j hj; rw [nEq] at hj; rw [e (33 + j) (by omega), e (53 + j) (by omega)]; exact v6 j hj
  · intro j hj; rw [nMq] at hj; rw [e (637 + 2 * j) (by omega), e (638 + 2 * j) (by omega)]; exact v7 j hj
  · intro j hj; rw [nFq] at hj; rw [e (649 + 2 * j) (by omega), e (650 + 2 * j) (by omega)]; exact v8 j hj
  · intro j hj; rw [nFq] at hj; rw [e (649 + 2 * j) (by omega), e (651 + 2 * j) (by omega)]; exact v9 j hj
theorem Wd_S {f f' : Nat → Int32} {m m' : MM} (hV : Vf f) (h : Wd f 5 m) (e : ∀ z, (z ≠ 6) → f' z = f z) (e51 : ldI m' 5 1 = ldI m 5 1) (em : ∀ a, (5 < a) → 5 < a → a ≤ 40 → ∀ k, ldI m' a k = ldI m a k) (own : ldI m' 5 10 = f' 6) : Wd f' 5 m' := by
  obtain ⟨⟨w0, w1⟩, w2, ⟨w3, w4, w5⟩, w6, ⟨w7, w8⟩, ⟨w9, w10⟩, ⟨w11, w12⟩, w13, w14, w15⟩ := h
  obtain ⟨⟨c1, d1⟩, ⟨c2, d2⟩, ⟨c3, d3⟩, ⟨c4, d4⟩, ⟨c5, d5⟩, ⟨c6, d6⟩⟩ := hV.1
  have nHq : nH f' = nH f := by unfold nH; rw [e 0 (by omega)]
  have nTq : nT f' = nT f := by unfold nT; rw [e 1 (by omega)]
  have nRq : nR f' = nR f := by unfold nR; rw [e 2 (by omega)]
  have nEq : nE f' = nE f := by unfold nE; rw [e 3 (by omega)]
  have nMq : nM f' = nM f := by unfold nM; rw [e 4 (by omega)]
  have nFq : nFo f' = nFo f := by unfold nFo; rw [e 5 (by omega)]
  refine ⟨⟨?_, ?_⟩, ?_, ?_, ?_, ?_, ?_, ?_, ?_⟩
  · exact by rw [e51, e 0 (by omega)]; exact w0
  · exact own
  · exact fun i hi => by
      rw [nHq] at hi
      have s12 := (hV.2.1 i hi).2.2.2.1
      have nSq : nS f' i = nS f i := by unfold nS; rw [e (13 + i) (by omega)]
      rw [nSq, e (7 + i) (by omega), e (13 + i) (by omega), em (5 + 2 + 3 * i) (by omega) (by omega) (by omega), em (5 + 2 + 3 * i) (by omega) (by omega) (by omega)]
      exact ⟨(w2 i hi).1, (w2 i hi).2.1, fun s hs => by rw [em (5 + 3 + 3 * i) (by omega) (by omega) (by omega), em (5 + 4 + 3 * i) (by omega) (by omega) (by omega), e (73 + 24 * i + s) (by omega), e (85 + 24 * i + s) (by omega)]; exact (w2 i hi).2.2 s hs⟩
  · exact ⟨by rw [em (5 + 20) (by omega) (by omega) (by omega), e 1 (by omega)]; exact w3, by rw [em (5 + 22) (by omega) (by omega) (by omega), e 1 (by omega)]; exact w4, fun j hj => by rw [nTq] at hj; rw [em (5 + 21) (by omega) (by omega) (by omega), em (5 + 23) (by omega) (by omega) (by omega), e (19 + j) (by omega), e (23 + j) (by omega)]; exact w5 j hj⟩
  · exact fun j hj => by rw [em (5 + 24) (by omega) (by omega) (by omega), e (27 + j) (by omega)]; exact w6 j hj
  · exact ⟨by rw [em (5 + 25) (by omega) (by omega) (by omega), nRq]; exact w7, fun j hj => by rw [nRq] at hj; rw [em (5 + 26) (by omega) (by omega) (by omega), e (217 + j) (by omega)]; exact w8 j hj⟩
  · exact ⟨by rw [em (5 + 28) (by omega) (by omega) (by omega), e 3 (by omega)]; exact w9, fun j hj => by rw [nEq] at hj; rw [em (5 + 29) (by omega) (by omega) (by omega), e (33 + j) (by omega), e (53 + j) (by omega)]; exact w10 j hj⟩
  · exact ⟨by rw [em (5 + 30) (by omega) (by omega) (by omega), e 4 (by omega)]; exact w11, fun j hj => by rw [nMq] at hj; rw [em (5 + 31) (by omega) (by omega) (by omega), e (637 + 2 * j) (by omega), e (638 + 2 * j) (by omega)]; exact w12 j hj⟩
  · exact ⟨by rw [em (5 + 32) (by omega) (by omega) (by omega), e 5 (by omega)]; exact w13, by rw [em (5 + 34) (by omega) (by omega) (by omega), e 5 (by omega)]; exact w14, fun j hj => by rw [nFq] at hj; rw [em (5 + 33) (by omega) (by omega) (by omega), em (5 + 35) (by omega) (by omega) (by omega), e (649 + 2 * j) (by omega), e (650 + 2 * j) (by omega)]; exact w15 j hj⟩
