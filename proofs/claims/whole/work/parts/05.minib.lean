-- small facts
theorem okl_mono {a b : Nat} (h : a ≤ b) {l : List Value} (hl : okl a l) : okl b l := fun v hv => by
  have h1 := hl v hv
  cases v <;> first | exact h1 | exact Nat.lt_of_lt_of_le h1 h | trivial
theorem okl_cons {n : Nat} {v : Value} {l : List Value} (h : okv n v) (hl : okl n l) : okl n (v :: l) := fun w hw => by
  rcases List.mem_cons.mp hw with rfl | h2
  · exact h
  · exact hl w h2
theorem okl_ci {n : Nat} {x : Int32} {l : List Value} (hl : okl n l) : okl n (.int x :: l) := okl_cons (show okv n (.int x) from trivial) hl
theorem okl_cl {n : Nat} {x : Int64} {l : List Value} (hl : okl n l) : okl n (.long x :: l) := okl_cons (show okv n (.long x) from trivial) hl
theorem okl_cr {n : Nat} {x : Nat} {l : List Value} (h : okv n (.ref x)) (hl : okl n l) : okl n (.ref x :: l) := okl_cons h hl
theorem okl_tail {n : Nat} {v : Value} {l : List Value} (h : okl n (v :: l)) : okl n l := fun w hw => h w (List.mem_cons_of_mem _ hw)
theorem okl_head {n : Nat} {v : Value} {l : List Value} (h : okl n (v :: l)) : okv n v := h v List.mem_cons_self
theorem okl_nil {n : Nat} : okl n [] := fun _ h => by cases h
theorem ent_congr {g : GG} {r : List Nat} {m m' : MM} {b : Nat} {q : Nat × Nat} (h1 : ∀ j, ldI m' b j = ldI m b j) (h2 : ∀ j, ldL m' b j = ldL m b j) (h3 : ∀ j, ldR m' b j = ldR m b j) : ent g r m' b q = ent g r m b q := by
  have h4 : ∀ ty k, fv g r m' b ty k = fv g r m b ty k := by
    intro ty k
    cases ty <;> simp only [fv, h1, h2, h3]
  unfold ent
  simp only [h4, h1, h2, h3]
theorem rf_ext {g : GG} {r r' : List Nat} {a : Nat} (h : r <+: r') (ha : a < r.length + 4) : rf g r' a = rf g r a := by
  obtain ⟨t, rfl⟩ := h
  match a, ha with
  | 0, _ => rfl
  | 1, _ => rfl
  | 2, _ => rfl
  | 3, _ => rfl
  | a + 4, ha => simp only [rf, List.getD_eq_getElem?_getD, List.getElem?_append_left (show a < r.length by omega)]
theorem cv_ext {g : GG} {r r' : List Nat} {v : Value} (h : r <+: r') (hv : okv (r.length + 4) v) : cv g r' v = cv g r v := by
  cases v <;> first | rfl | (simp only [cv]; rw [rf_ext h hv])
theorem cvl_ext {g : GG} {r r' : List Nat} {l : List Value} (h : r <+: r') (hv : okl (r.length + 4) l) : l.map (cv g r') = l.map (cv g r) := List.map_congr_left fun v hm => cv_ext h (hv v hm)
theorem lvF_ext {g : GG} {r r' : List Nat} (h : r <+: r') : ∀ (l : List Value) (i : Nat), okl (r.length + 4) l → lvF g r' i l = lvF g r i l := by
  intro l
  induction l with
  | nil => intro i _; rfl
  | cons v t ih =>
    intro i hl
    have h1 := ih (i + 1) (okl_tail hl)
    have h2 := cv_ext (g := g) h (okl_head hl)
    cases v <;> simp only [lvF, h1] <;> first | rfl | rw [h2]
theorem ent_ext {g : GG} {r r' : List Nat} {m : MM} {b : Nat} {q : Nat × Nat} (h : r <+: r') (hr : ∀ a k, ldR m a k < r.length + 4) : ent g r' m b q = ent g r m b q := by
  have h3 : ∀ a k, rf g r' (ldR m a k) = rf g r (ldR m a k) := fun a k => rf_ext h (hr a k)
  have h4 : ∀ ty k, fv g r' m b ty k = fv g r m b ty k := by
    intro ty k
    cases ty <;> simp only [fv, h3]
  unfold ent
  simp only [h4, h3]
theorem kdl_inv {m : MM} {a : Nat} {q : Nat × Nat} (h : kdl m a = some q) : ∃ i, a = i + 4 ∧ (shp m)[i]? = some q ∧ i < (shp m).length := by
  match a, h with
  | 0, h => cases h
  | 1, h => cases h
  | 2, h => cases h
  | 3, h => cases h
  | a + 4, h => exact ⟨a, rfl, h, (List.getElem?_eq_some_iff.mp h).1⟩
theorem wsO_at {g : GG} {r : List Nat} {m : MM} {i : Nat} {q : Nat × Nat} (hl : r.length = (shp m).length) (h : (shp m)[i]? = some q) : (wsO g r m)[i]? = some (r.getD i 0, ent g r m (i + 4) q) := by
  have hi : i < r.length := by rw [hl]; exact (List.getElem?_eq_some_iff.mp h).1
  simp only [wsO, List.getElem?_map, List.getElem?_range hi, Option.map_some, List.getD_eq_getElem?_getD, h, Option.getD_some]
theorem wsO_set {g : GG} {r : List Nat} {m m' : MM} {i : Nat} {q : Nat × Nat} (hl : r.length = (shp m).length) (hs : shp m' = shp m) (h : (shp m)[i]? = some q)
    (hne : ∀ b, b ≠ i + 4 → ∀ q', ent g r m' b q' = ent g r m b q') : wsO g r m' = (wsO g r m).set i (r.getD i 0, ent g r m' (i + 4) q) := by
  apply List.ext_getElem?
  intro j
  rw [List.getElem?_set]
  by_cases hj : j < r.length
  · by_cases e : i = j
    · subst e
      have hj2 : i < (wsO g r m).length := by simp only [wsO, List.length_map, List.length_range]; exact hj
      rw [if_pos rfl, if_pos hj2]
      exact wsO_at (by rw [hs]; exact hl) (by rw [hs]; exact h)
    · rw [if_neg e]
      have hj2 : j < (shp m).length := by rw [← hl]; exact hj
      have hq : (shp m)[j]? = some ((shp m)[j]) := List.getElem?_eq_getElem hj2
      rw [wsO_at hl hq, wsO_at (m := m') (by rw [hs]; exact hl) (by rw [hs]; exact hq), hne (j + 4) (by omega)]
  · have h1 : (wsO g r m).length ≤ j := by simp only [wsO, List.length_map, List.length_range]; omega
    have h2 : (wsO g r m').length ≤ j := by simp only [wsO, List.length_map, List.length_range]; omega
    rw [List.getElem?_eq_none h2]
    by_cases e : i = j
    · subst e; exact absurd (by rw [hl]; exact (List.getElem?_eq_some_iff.mp h).1) hj
    · rw [if_neg e, List.getElem?_eq_none h1]
theorem Mem.set {g : GG} {r : List Nat} {m m' : MM} {H : Heap} {i : Nat} {q : Nat × Nat} (hs : shp m' = shp m) (h : (shp m)[i]? = some q) (hl : r.length = (shp m).length)
    (hne : ∀ b, b ≠ i + 4 → ∀ q', ent g r m' b q' = ent g r m b q') (hR : ∀ a k, ldR m' a k < nx m')
    (hP : va_P (gD g) vwCl ((wsO g r m).set i (r.getD i 0, ent g r m' (i + 4) q)) H) (hD : va_D (gF g) ((wsO g r m).set i (r.getD i 0, ent g r m' (i + 4) q))) : Mem g r m' H := by
  have e := wsO_set (g := g) hl hs h hne
  exact ⟨by rw [e]; exact hP, by rw [e]; exact hD, by rw [hs]; exact hl, hR⟩
theorem up2_ne {α : Type} {f : Nat → Nat → α} {a k : Nat} {v : α} {b : Nat} (h : b ≠ a) (j : Nat) : up2 f a k v b j = f b j := if_neg fun q => h q.1
theorem up2_self {α : Type} {f : Nat → Nat → α} {a k : Nat} {v : α} : up2 f a k v a k = v := if_pos ⟨rfl, rfl⟩
theorem up2_nk {α : Type} {f : Nat → Nat → α} {a k : Nat} {v : α} {j : Nat} (h : j ≠ k) (b : Nat) : up2 f a k v b j = f b j := if_neg fun q => h q.2
theorem vsG {g : GG} {s : State} {H : Heap} {locs : List Loc} (h0 : va_S (gF g) (gH g) s.heap []) (h : va_S (gF g) s.heap H locs) : va_S (gF g) (gH g) H [] := by
  refine ⟨Nat.le_trans h0.1 h.1, fun q h1 h2 => ?_, fun _ hh => by cases hh⟩
  rw [h.2.1 q (Nat.lt_of_lt_of_le h1 h0.1) h2]
  exact h0.2.1 q h1 h2
theorem vsS {g : GG} {s : State} {H : Heap} (h0 : va_S (gF g) (gH g) s.heap []) (h1 : s.heap.size ≤ H.size) {locs : List Loc} (hl : ∀ z ∈ locs, gF g z.base) (h : va_S (gF g) (gH g) H []) : va_S (gF g) s.heap H locs := by
  refine ⟨h1, fun q h2 h3 => ?_, hl⟩
  have h4 : q < (gH g).size := Nat.not_le.mp h3
  rw [h.2.1 q h4 h3, h0.2.1 q h4 h3]
theorem nw_warmD {x : MethodName} {s U : State} (hW : s.WarmedH U.vm) (hZ : va_Nw (.declares x) s) : va_Nw (.declares x) U := va_tabs rfl (rfl : (s.setVm U.vm).vm = U.vm) (by rw [Cond.declares_setVm hW.alike]; exact hZ)
theorem nb_warm {w : Cond} (hw : nbk w = true) {s U : State} (hW : s.WarmedH U.vm) (h : va_Nw w s) : va_Nw w U := by
  cases w <;> first | exact absurd hw (by decide) | exact va_Nw.warmF hW h | exact va_Nw.warmM hW h | exact va_Nw.warmC hW h | exact nw_warmD hW h | (simp [nbk] at hw)
theorem nb_same {w : Cond} (hw : nbk w = true) {u U : State} (hv : u.vm = U.vm) (h : va_Nw w u) : va_Nw w U := by
  refine va_Nw.same ?_ hv h
  cases w <;> first | rfl | (simp [nbk] at hw)
theorem Kn.warm {g : GG} {s U : State} (hW : s.WarmedH U.vm) (h : Kn g s) : Kn g U := by
  obtain ⟨h1, h2, h3, h4, h5, h6, h7, h8, h9, h10, h11, h12, h13, h14, h15, h16, h17⟩ := h
  exact ⟨va_K.moved hW.alike h1, va_X.moved hW.alike h2, h3, h4, h5, vx_Zq.moved hW.alike h6, vx_Zq.moved hW.alike h7, fun w hw => nb_warm (List.mem_filter.mp hw).2 hW (h8 w hw), fun C hC T hT hne => va_Nc.moved hW.alike (h9 C hC T hT hne), vk_R.warm hW h10, vk_S.moved hW.alike h11, va_Z.moved hW.alike h12, va_AO.moved hW.alike h13, va_AO.moved hW.alike h14, va_AO.moved hW.alike h15, va_AOA.moved hW.alike h16, va_Z.moved hW.alike h17⟩
theorem Kn.same {g : GG} {u U : State} (hv : u.vm = U.vm) (h : Kn g u) : Kn g U := by
  obtain ⟨h1, h2, h3, h4, h5, h6, h7, h8, h9, h10, h11, h12, h13, h14, h15, h16, h17⟩ := h
  have ha : u.vm.Alike U.vm := by rw [hv]; exact Vm.Alike.refl _
  exact ⟨va_K.moved ha h1, va_X.moved ha h2, h3, h4, h5, vx_Zq.moved ha h6, vx_Zq.moved ha h7, fun w hw => nb_same (List.mem_filter.mp hw).2 hv (h8 w hw), fun C hC T hT hne => va_Nc.moved ha (h9 C hC T hT hne), vk_R.same hv.symm h10, vk_S.moved ha h11, va_Z.moved ha h12, va_AO.moved ha h13, va_AO.moved ha h14, va_AO.moved ha h15, va_AOA.moved ha h16, va_Z.moved ha h17⟩
theorem lvF_at {g : GG} {r : List Nat} {la : Array Slot} {nL : Nat} : ∀ (l : List Value) (i k : Nat) (v : Value), l[k]? = some v → (∀ a, v ≠ .retAddr a) → (i + k, cv g r v) ∈ lvF g r i l := by
  intro l
  induction l with
  | nil => intro i k v h _; simp at h
  | cons w t ih =>
    intro i k v h hv
    cases k with
    | zero =>
      simp only [List.getElem?_cons_zero, Option.some.injEq] at h
      subst h
      cases w <;> first | exact List.mem_cons_self | exact absurd rfl (hv _)
    | succ k =>
      have h1 := ih (i + 1) k v (by simpa using h) hv
      have e : i + 1 + k = i + (k + 1) := by omega
      rw [e] at h1
      cases w <;> first | exact List.mem_cons_of_mem _ h1 | exact h1
theorem lvF_get {g : GG} {r : List Nat} {la : Array Slot} {nL : Nat} {l : List Value} (h : lv_has la nL (lvF g r 0 l)) {k : Nat} {v : Value} (hk : l[k]? = some v) (hv : ∀ a, v ≠ .retAddr a) : la[k]? = some (.val (cv g r v)) := by
  have h1 := h.2.2 _ (lvF_at (la := la) (nL := nL) l 0 k v hk hv)
  simpa using h1
theorem lvF_mem {g : GG} {r : List Nat} : ∀ (l : List Value) (i : Nat) (q : Nat × Value), q ∈ lvF g r i l → ∃ k v, q = (i + k, cv g r v) ∧ l[k]? = some v ∧ ∀ a, v ≠ .retAddr a := by
  intro l
  induction l with
  | nil => intro i q h; simp [lvF] at h
  | cons w t ih =>
    intro i q h
    have key : q ∈ lvF g r (i + 1) t → ∃ k v, q = (i + k, cv g r v) ∧ (w :: t)[k]? = some v ∧ ∀ a, v ≠ .retAddr a := fun h1 => by
      obtain ⟨k, v, e1, e2, e3⟩ := ih (i + 1) q h1
      exact ⟨k + 1, v, by rw [e1]; congr 1; omega, by simpa using e2, e3⟩
    cases w with
    | retAddr a => exact key h
    | _ =>
      rcases List.mem_cons.mp h with rfl | h1
      · exact ⟨0, _, rfl, rfl, fun a h => by cases h⟩
      · exact key h1
theorem lv_has_mono {la : Array Slot} {nL : Nat} {l l' : List (Nat × Value)} (h : lv_has la nL l) (hs : ∀ q ∈ l', q ∈ l) : lv_has la nL l' := ⟨h.1, h.2.1, fun q hq => h.2.2 q (hs q hq)⟩
