/-! THE REFERENCE: its flat vector -/
def lA (z : Nat) : Nat := if z < 7 then 167 else if z < 13 then 180 else if z < 19 then 181 else if z < 23 then 196 else if z < 27 then 197 else if z < 33 then 198 else if z < 53 then 260 else if z < 73 then 261 else if z < 217 then (if (z - 73) % 24 < 12 then 183 + (z - 73) / 24 else 190 + (z - 73) / 24) else if z < 637 then 200 + (z - 217) / 7 else if z < 649 then 264 + (z - 637) / 2 else 271 + (z - 649) / 2
def lK (z : Nat) : Nat := if z < 2 then 18 + z else if z < 7 then 25 + z else if z < 13 then z - 7 else if z < 19 then z - 13 else if z < 23 then z - 19 else if z < 27 then z - 23 else if z < 33 then z - 27 else if z < 53 then z - 33 else if z < 73 then z - 53 else if z < 217 then (z - 73) % 12 else if z < 637 then (z - 217) % 7 else if z < 649 then (z - 637) % 2 else (z - 649) % 2
def lI (a k : Nat) : Nat := if a = 167 then (if k < 20 then k - 18 else k - 25) else if a = 180 then 7 + k else if a = 181 then 13 + k else if a < 189 then 73 + 24 * (a - 183) + k else if a < 196 then 85 + 24 * (a - 190) + k else if a = 196 then 19 + k else if a = 197 then 23 + k else if a = 198 then 27 + k else if a < 260 then 217 + 7 * (a - 200) + k else if a = 260 then 33 + k else if a = 261 then 53 + k else if a < 270 then 637 + 2 * (a - 264) + k else 649 + 2 * (a - 271) + k
theorem lI_l {z : Nat} (h : z < 665) : lI (lA z) (lK z) = z := by
  unfold lI lA lK
  by_cases c1 : z < 7
  · by_cases c2 : z < 2
    · simp only [c1, c2, if_true]; (repeat' split) <;> omega
    · simp only [c1, c2, if_true, if_false]; (repeat' split) <;> omega
  · have c0 : ¬ z < 2 := by omega
    by_cases c2 : z < 13
    · simp only [c0, c1, c2, if_true, if_false]; (repeat' split) <;> omega
    by_cases c3 : z < 19
    · simp only [c0, c1, c2, c3, if_true, if_false]; (repeat' split) <;> omega
    by_cases c4 : z < 23
    · simp only [c0, c1, c2, c3, c4, if_true, if_false]; (repeat' split) <;> omega
    by_cases c5 : z < 27
    · simp only [c0, c1, c2, c3, c4, c5, if_true, if_false]; (repeat' split) <;> omega
    by_cases c6 : z < 33
    · simp only [c0, c1, c2, c3, c4, c5, c6, if_true, if_false]; (repeat' split) <;> omega
    by_cases c7 : z < 53
    · simp only [c0, c1, c2, c3, c4, c5, c6, c7, if_true, if_false]; (repeat' split) <;> omega
    by_cases c8 : z < 73
    · simp only [c0, c1, c2, c3, c4, c5, c6, c7, c8, if_true, if_false]; (repeat' split) <;> omega
    by_cases c9 : z < 217
    · by_cases c10 : (z - 73) % 24 < 12
      · simp only [c0, c1, c2, c3, c4, c5, c6, c7, c8, c9, c10, if_true, if_false]
        rw [if_neg (by omega), if_neg (by omega), if_neg (by omega), if_pos (by omega)]; omega
      · simp only [c0, c1, c2, c3, c4, c5, c6, c7, c8, c9, c10, if_true, if_false]
        rw [if_neg (by omega), if_neg (by omega), if_neg (by omega), if_neg (by omega), if_pos (by omega)]; omega
    by_cases c10 : z < 637
    · simp only [c0, c1, c2, c3, c4, c5, c6, c7, c8, c9, c10, if_true, if_false]
      rw [if_neg (by omega), if_neg (by omega), if_neg (by omega), if_neg (by omega), if_neg (by omega), if_neg (by omega), if_neg (by omega), if_neg (by omega), if_pos (by omega)]; omega
    by_cases c11 : z < 649
    · simp only [c0, c1, c2, c3, c4, c5, c6, c7, c8, c9, c10, c11, if_true, if_false]
      rw [if_neg (by omega), if_neg (by omega), if_neg (by omega), if_neg (by omega), if_neg (by omega), if_neg (by omega), if_neg (by omega), if_neg (by omega), if_neg (by omega), if_neg (by omega), if_neg (by omega), if_pos (by omega)]; omega
    · simp only [c0, c1, c2, c3, c4, c5, c6, c7, c8, c9, c10, c11, if_true, if_false]
      rw [if_neg (by omega), if_neg (by omega), if_neg (by omega), if_neg (by omega), if_neg (by omega), if_neg (by omega), if_neg (by omega), if_neg (by omega), if_neg (by omega), if_neg (by omega), if_neg (by omega), if_neg (by omega)]; omega
/-- the reference's world shows f -/
def Rd (f : Nat → Int32) (m : MM) : Prop := ∀ z, z < 665 → ldI m (lA z) (lK z) = f z
theorem Rd.up {f : Nat → Int32} {m : MM} {z : Nat} {v : Int32} (h : Rd f m) (hz : z < 665) : Rd (upF f z v) (stI m (lA z) (lK z) v) := fun y hy => by
  by_cases q : y = z
  · subst q; rw [upF_s]; exact ld_s
  · rw [upF_n q rfl]
    refine ld_n (fun w => q ?_) (h y hy)
    rw [← lI_l hy, ← lI_l hz, w.1, w.2]

theorem l_0 : lA 0 = 167 ∧ lK 0 = 18 := by decide
theorem l_1 : lA 1 = 167 ∧ lK 1 = 19 := by decide
theorem l_2 : lA 2 = 167 ∧ lK 2 = 27 := by decide
theorem l_3 : lA 3 = 167 ∧ lK 3 = 28 := by decide
theorem l_4 : lA 4 = 167 ∧ lK 4 = 29 := by decide
theorem l_5 : lA 5 = 167 ∧ lK 5 = 30 := by decide
theorem l_6 : lA 6 = 167 ∧ lK 6 = 31 := by decide
theorem l_len {i : Nat} (h : i < 6) : lA (7 + i) = 180 ∧ lK (7 + i) = i := by
  unfold lA lK
  refine ⟨?_, ?_⟩
  · repeat (first | rw [if_pos (by omega)] | rw [if_neg (by omega)])
    try omega
  · repeat (first | rw [if_pos (by omega)] | rw [if_neg (by omega)])
    try omega
theorem l_sta {i : Nat} (h : i < 6) : lA (13 + i) = 181 ∧ lK (13 + i) = i := by
  unfold lA lK
  refine ⟨?_, ?_⟩
  · repeat (first | rw [if_pos (by omega)] | rw [if_neg (by omega)])
    try omega
  · repeat (first | rw [if_pos (by omega)] | rw [if_neg (by omega)])
    try omega
theorem l_wid {i : Nat} (h : i < 4) : lA (19 + i) = 196 ∧ lK (19 + i) = i := by
  unfold lA lK
  refine ⟨?_, ?_⟩
  · repeat (first | rw [if_pos (by omega)] | rw [if_neg (by omega)])
    try omega
  · repeat (first | rw [if_pos (by omega)] | rw [if_neg (by omega)])
    try omega
theorem l_dep {i : Nat} (h : i < 4) : lA (23 + i) = 197 ∧ lK (23 + i) = i := by
  unfold lA lK
  refine ⟨?_, ?_⟩
  · repeat (first | rw [if_pos (by omega)] | rw [if_neg (by omega)])
    try omega
  · repeat (first | rw [if_pos (by omega)] | rw [if_neg (by omega)])
    try omega
theorem l_han {i : Nat} (h : i < 6) : lA (27 + i) = 198 ∧ lK (27 + i) = i := by
  unfold lA lK
  refine ⟨?_, ?_⟩
  · repeat (first | rw [if_pos (by omega)] | rw [if_neg (by omega)])
    try omega
  · repeat (first | rw [if_pos (by omega)] | rw [if_neg (by omega)])
    try omega
theorem l_for {i : Nat} (h : i < 20) : lA (33 + i) = 260 ∧ lK (33 + i) = i := by
  unfold lA lK
  refine ⟨?_, ?_⟩
  · repeat (first | rw [if_pos (by omega)] | rw [if_neg (by omega)])
    try omega
  · repeat (first | rw [if_pos (by omega)] | rw [if_neg (by omega)])
    try omega
theorem l_was {i : Nat} (h : i < 20) : lA (53 + i) = 261 ∧ lK (53 + i) = i := by
  unfold lA lK
  refine ⟨?_, ?_⟩
  · repeat (first | rw [if_pos (by omega)] | rw [if_neg (by omega)])
    try omega
  · repeat (first | rw [if_pos (by omega)] | rw [if_neg (by omega)])
    try omega
theorem l_bea {h i : Nat} (h6 : h < 6) (h12 : i < 12) : lA (73 + 24 * h + i) = 183 + h ∧ lK (73 + 24 * h + i) = i := by
  unfold lA lK
  refine ⟨?_, ?_⟩
  · repeat (first | rw [if_pos (by omega)] | rw [if_neg (by omega)])
    try omega
  · repeat (first | rw [if_pos (by omega)] | rw [if_neg (by omega)])
    try omega
theorem l_dra {h i : Nat} (h6 : h < 6) (h12 : i < 12) : lA (85 + 24 * h + i) = 190 + h ∧ lK (85 + 24 * h + i) = i := by
  unfold lA lK
  refine ⟨?_, ?_⟩
  · repeat (first | rw [if_pos (by omega)] | rw [if_neg (by omega)])
    try omega
  · repeat (first | rw [if_pos (by omega)] | rw [if_neg (by omega)])
    try omega
theorem l_run {r j : Nat} (h60 : r < 60) (h7 : j < 7) : lA (217 + 7 * r + j) = 200 + r ∧ lK (217 + 7 * r + j) = j := by
  unfold lA lK
  refine ⟨?_, ?_⟩
  · repeat (first | rw [if_pos (by omega)] | rw [if_neg (by omega)])
    try omega
  · repeat (first | rw [if_pos (by omega)] | rw [if_neg (by omega)])
    try omega
theorem l_mil {r j : Nat} (h6 : r < 6) (h2 : j < 2) : lA (637 + 2 * r + j) = 264 + r ∧ lK (637 + 2 * r + j) = j := by
  unfold lA lK
  refine ⟨?_, ?_⟩
  · repeat (first | rw [if_pos (by omega)] | rw [if_neg (by omega)])
    try omega
  · repeat (first | rw [if_pos (by omega)] | rw [if_neg (by omega)])
    try omega
theorem l_fou {r j : Nat} (h8 : r < 8) (h2 : j < 2) : lA (649 + 2 * r + j) = 271 + r ∧ lK (649 + 2 * r + j) = j := by
  unfold lA lK
  refine ⟨?_, ?_⟩
  · repeat (first | rw [if_pos (by omega)] | rw [if_neg (by omega)])
    try omega
  · repeat (first | rw [if_pos (by omega)] | rw [if_neg (by omega)])
    try omega
section RdS
variable {f : Nat → Int32} {m : MM}
theorem Rd.at {z a k : Nat} (h : Rd f m) (hz : z < 665) (e : lA z = a ∧ lK z = k) : ldI m a k = f z := by rw [← e.1, ← e.2]; exact h z hz
theorem Rd.set {z a k : Nat} {v : Int32} (h : Rd f m) (hz : z < 665) (e : lA z = a ∧ lK z = k) : Rd (upF f z v) (stI m a k v) := by rw [← e.1, ← e.2]; exact h.up hz
end RdS
/-- the reference's scratch -/
def scS (k : Nat) : Prop := k = 0 ∨ k = 2 ∨ (4 ≤ k ∧ k ≤ 9) ∨ k = 15 ∨ k = 44
def Sc (m m' : MM) : Prop := m'.2.2 = m.2.2 ∧ (∀ a, a < 167 ∨ 282 < a → (∀ k, ldI m' a k = ldI m a k) ∧ ∀ k, ldL m' a k = ldL m a k) ∧ ∀ a k, ¬ (a = 167 ∧ scS k) → a ≠ 262 → ldI m' a k = ldI m a k ∧ (a = 167 → ldL m' a k = ldL m a k)
theorem Sc.rf {m : MM} : Sc m m := ⟨rfl, fun _ _ => ⟨fun _ => rfl, fun _ => rfl⟩, fun _ _ _ _ => ⟨rfl, fun _ => rfl⟩⟩
theorem Sc.tr {m m1 m2 : MM} (h : Sc m m1) (h2 : Sc m1 m2) : Sc m m2 := ⟨h2.1.trans h.1, fun a ha => ⟨fun k => ((h2.2.1 a ha).1 k).trans ((h.2.1 a ha).1 k), fun k => ((h2.2.1 a ha).2 k).trans ((h.2.1 a ha).2 k)⟩, fun a k h3 h4 => ⟨(h2.2.2 a k h3 h4).1.trans (h.2.2 a k h3 h4).1, fun e => ((h2.2.2 a k h3 h4).2 e).trans ((h.2.2 a k h3 h4).2 e)⟩⟩
theorem Sc.s {m m1 : MM} {k : Nat} {v : Int32} (h : Sc m m1) (hk : scS k) : Sc m (stI m1 167 k v) := ⟨h.1, fun a ha => ⟨fun j => ld_n (by omega) ((h.2.1 a ha).1 j), (h.2.1 a ha).2⟩, fun a j h3 h4 => ⟨ld_n (fun q => h3 ⟨q.1, q.2 ▸ hk⟩) (h.2.2 a j h3 h4).1, (h.2.2 a j h3 h4).2⟩⟩
theorem Sc.w {m m1 : MM} {k : Nat} {v : Int32} (h : Sc m m1) : Sc m (stI m1 262 k v) := ⟨h.1, fun a ha => ⟨fun j => ld_n (by omega) ((h.2.1 a ha).1 j), (h.2.1 a ha).2⟩, fun a j h3 h4 => ⟨ld_n (fun q => h4 q.1) (h.2.2 a j h3 h4).1, (h.2.2 a j h3 h4).2⟩⟩
theorem Sc.l {m m1 : MM} {a k : Nat} {v : Int64} (h : Sc m m1) (h1 : 168 ≤ a) (h2 : a ≤ 282) : Sc m (stL m1 a k v) := ⟨h.1, fun b hb => ⟨(h.2.1 b hb).1, fun j => (if_neg (by omega)).trans ((h.2.1 b hb).2 j)⟩, fun b j h3 h4 => ⟨(h.2.2 b j h3 h4).1, fun e => (if_neg (by omega)).trans ((h.2.2 b j h3 h4).2 e)⟩⟩
theorem Sc.off {m m' : MM} (h : Sc m m') : Off 167 282 m m' := ⟨h.1, h.2.1⟩
theorem Sc.F {m m' : MM} (h : Sc m m') (hF : Fx m) : Fx m' := Fx_of h.1 hF
theorem lA_sc {z : Nat} (h : z < 665) : ¬ (lA z = 167 ∧ scS (lK z)) ∧ lA z ≠ 262 ∧ 167 ≤ lA z ∧ lA z ≤ 278 := by
  by_cases c1 : z < 7
  · have : z = 0 ∨ z = 1 ∨ z = 2 ∨ z = 3 ∨ z = 4 ∨ z = 5 ∨ z = 6 := by omega
    unfold scS
    rcases this with rfl | rfl | rfl | rfl | rfl | rfl | rfl <;> decide
  · have e : lA z ≠ 167 ∧ lA z ≠ 262 ∧ 167 ≤ lA z ∧ lA z ≤ 278 := by
      unfold lA
      rw [if_neg c1]
      repeat' split
      all_goals omega
    exact ⟨fun q => e.1 q.1, e.2⟩
theorem Rd.sc {f : Nat → Int32} {m m' : MM} (h : Rd f m) (s : Sc m m') : Rd f m' := fun z hz => (s.2.2 _ _ (lA_sc hz).1 (lA_sc hz).2.1).1.trans (h z hz)
/-- the reference as it stands; ts the texts (bytes, size): laws 0..3, ways 4..6 -/
def RI (f : Nat → Int32) (fs : Nat → Nat → Int32) (ic : Nat) (tp : Nat → Int32) (tn : Nat) (pl : Int32) (n1 n2 : Nat) (ts : Nat → (Nat → Int32) × Nat) (m : MM) : Prop :=
  Fx m ∧ Rd f m ∧ (ldI m 167 42 = nI ic ∧ ic ≤ 3 ∧ ∀ k, k < ic → ∀ z, z < 665 → ldI m (280 + k) z = fs k z) ∧ (ldI m 167 1 = nI tn ∧ tn ≤ 400 ∧ ∀ j, j < tn → ldI m 168 j = tp j ∧ iv 0 255 (tp j)) ∧ ldI m 167 3 = pl ∧ (ldI m 167 13 = nI n1 ∧ n1 ≤ 4) ∧ (ldI m 167 14 = nI n2 ∧ n2 ≤ 3) ∧ ∀ l, (l < n1 ∨ (4 ≤ l ∧ l < 4 + n2)) → ldI m 177 l = nI (ts l).2 ∧ (ts l).2 ≤ 400 ∧ ∀ j, j < (ts l).2 → ldI m (170 + l) j = (ts l).1 j ∧ iv 0 255 ((ts l).1 j)
section RIs
variable {f : Nat → Int32} {fs : Nat → Nat → Int32} {ic : Nat} {tp : Nat → Int32} {tn : Nat} {pl : Int32} {n1 n2 : Nat} {ts : Nat → (Nat → Int32) × Nat} {m m' : MM}
theorem RI.of {f' : Nat → Int32} (h : RI f fs ic tp tn pl n1 n2 ts m) (hF : Fx m') (hd : Rd f' m') (e : ∀ a k, (a = 167 ∧ (k = 1 ∨ k = 3 ∨ k = 13 ∨ k = 14 ∨ k = 42)) ∨ (168 ≤ a ∧ a ≤ 177) ∨ (280 ≤ a ∧ a ≤ 282) → ldI m' a k = ldI m a k) : RI f' fs ic tp tn pl n1 n2 ts m' := by
  obtain ⟨-, -, ⟨c1, c2, c3⟩, ⟨d1, d2, d3⟩, e1, ⟨f1, f2⟩, ⟨g1, g2⟩, h1⟩ := h
  exact ⟨hF, hd, ⟨(e 167 42 (by omega)).trans c1, c2, fun k hk z hz => (e _ _ (by omega)).trans (c3 k hk z hz)⟩, ⟨(e 167 1 (by omega)).trans d1, d2, fun j hj => ⟨(e _ _ (by omega)).trans (d3 j hj).1, (d3 j hj).2⟩⟩, (e 167 3 (by omega)).trans e1, ⟨(e 167 13 (by omega)).trans f1, f2⟩, ⟨(e 167 14 (by omega)).trans g1, g2⟩, fun l hl => ⟨(e _ _ (by omega)).trans (h1 l hl).1, (h1 l hl).2.1, fun j hj => ⟨(e _ _ (by omega)).trans ((h1 l hl).2.2 j hj).1, ((h1 l hl).2.2 j hj).2⟩⟩⟩
theorem RI.sc (h : RI f fs ic tp tn pl n1 n2 ts m) (s : Sc m m') : RI f fs ic tp tn pl n1 n2 ts m' := h.of (s.F h.1) (h.2.1.sc s) (fun a k ha => (s.2.2 a k (by unfold scS; omega) (by omega)).1)
theorem RI.noq (h : RI f fs ic tp tn pl n1 n2 ts m) (hF : Fx m') (q : NoQ m m') : RI f fs ic tp tn pl n1 n2 ts m' := h.of hF (fun z hz => ((q _ (by have := lA_sc hz; omega) (by have := lA_sc hz; omega)).1 _).trans (h.2.1 z hz)) (fun a k ha => (q a (by omega) (by omega)).1 k)
end RIs
