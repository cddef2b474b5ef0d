def hulF (f : Nat → Int32) (x y : Int32) : Nat → Int32 := fun z => if z = 0 then nI (nH f + 1) else if z = 7 + nH f then x else if z = 13 + nH f then y else if 73 + 24 * nH f ≤ z ∧ z < 85 + 24 * nH f then (if z - (73 + 24 * nH f) < y.toNatClampNeg then 10 else 0) else if 85 + 24 * nH f ≤ z ∧ z < 97 + 24 * nH f then (if z - (85 + 24 * nH f) < y.toNatClampNeg then 5 else 0) else f z
theorem hulF_H {f : Nat → Int32} {x y : Int32} (h : nH f < 6) : nH (hulF f x y) = nH f + 1 := by show (if 0 = 0 then nI (nH f + 1) else _ : Int32).toNatClampNeg = _; rw [if_pos rfl, nI_cl _ (by omega)]
theorem hulF_o {f : Nat → Int32} {x y : Int32} {z : Nat} (h : z ≠ 0) (h1 : z ≠ 7 + nH f) (h2 : z ≠ 13 + nH f) (h3 : z < 73 + 24 * nH f ∨ 97 + 24 * nH f ≤ z) : hulF f x y z = f z := (if_neg h).trans ((if_neg h1).trans ((if_neg h2).trans ((if_neg (by omega)).trans (if_neg (by omega)))))
theorem hulF_l {f : Nat → Int32} {x y : Int32} : hulF f x y (7 + nH f) = x := (if_neg (by omega)).trans (if_pos rfl)
theorem hulF_s {f : Nat → Int32} {x y : Int32} (h : nH f < 6) : hulF f x y (13 + nH f) = y := (if_neg (by omega)).trans ((if_neg (by omega)).trans (if_pos rfl))
theorem hulF_b {f : Nat → Int32} {x y : Int32} (h : nH f < 6) {s : Nat} (hs : s < 12) (hy : s < y.toNatClampNeg) : hulF f x y (73 + 24 * nH f + s) = 10 := (if_neg (by omega)).trans ((if_neg (by omega)).trans ((if_neg (by omega)).trans ((if_pos (by omega)).trans (if_pos (by omega)))))
theorem hulF_d {f : Nat → Int32} {x y : Int32} (h : nH f < 6) {s : Nat} (hs : s < 12) (hy : s < y.toNatClampNeg) : hulF f x y (85 + 24 * nH f + s) = 5 := (if_neg (by omega)).trans ((if_neg (by omega)).trans ((if_neg (by omega)).trans ((if_neg (by omega)).trans ((if_pos (by omega)).trans (if_pos (by omega))))))
theorem nI_of_iv {y : Int32} {lo hi : Int} (h : iv lo hi y) (h0 : 0 ≤ lo) : y = nI y.toNatClampNeg ∧ (y.toNatClampNeg : Int) = y.toInt := by
  have e : y.toNatClampNeg = y.toInt.toNat := rfl
  have b := y.toInt_lt
  unfold iv at h
  have e2 : (y.toNatClampNeg : Int) = y.toInt := by rw [e]; omega
  refine ⟨Int32.toInt_inj.mp ?_, e2⟩
  rw [nI_int _ (by omega), e2]
theorem Vf_hul {f : Nat → Int32} {x y : Int32} (hV : Vf f) (h : nH f < 6) (hx : iv 10 400 x) (hy : iv 2 12 y) : Vf (hulF f x y) := by
  obtain ⟨y1, y2⟩ := nI_of_iv hy (by omega)
  refine Vf_H hV (fun z hz => hulF_o (by omega) (by omega) (by omega) (by omega)) ?_ ?_ ?_
  · rw [hulF_H h]; exact ⟨if_pos rfl, by omega⟩
  · rw [hulF_H h]; omega
  · rw [hulF_H h]
    intro i hi
    by_cases q : i = nH f
    · subst q
      have e : nS (hulF f x y) (nH f) = y.toNatClampNeg := by unfold nS; rw [hulF_s h]
      unfold VH; rw [e, hulF_l, hulF_s h]
      unfold iv at hy
      refine ⟨hx, y1, by omega, by omega, fun s hs => ?_⟩
      rw [hulF_b h (by omega) hs, hulF_d h (by omega) hs]
      exact ⟨⟨by decide, by decide⟩, ⟨by decide, by decide⟩⟩
    · have hi' : i < nH f := by omega
      have e : nS (hulF f x y) i = nS f i := by unfold nS; rw [hulF_o (by omega) (by omega) (by omega) (by omega)]
      obtain ⟨a, b, c, d, u⟩ := hV.2.1 i hi'
      unfold VH; rw [e, hulF_o (by omega) (by omega) (by omega) (by omega), hulF_o (by omega) (by omega) (by omega) (by omega)]
      exact ⟨a, b, c, d, fun s hs => by rw [hulF_o (by omega) (by omega) (by omega) (by omega), hulF_o (by omega) (by omega) (by omega) (by omega)]; exact u s hs⟩
theorem adH_off {m : MM} {n : Nat} {x y : Int32} (h : n < 6) : Off 5 24 m (adH m n x y) := ((((Off.rf.stI (by omega) (by omega)).stI (by omega) (by omega)).stRow (by omega) (by omega)).stRow (by omega) (by omega)).stI (by omega) (by omega)
theorem adH_o {m : MM} {n : Nat} {x y : Int32} {a k : Nat} (h : a ≠ 5 ∨ k ≠ 1) (h1 : a < 7 + 3 * n ∨ 9 + 3 * n < a) : ldI (adH m n x y) a k = ldI m a k := by
  unfold adH fiR
  refine ld_n (by omega) ?_
  rw [ldI_stRow, if_neg (by omega), ldI_stRow, if_neg (by omega)]
  exact ld_n (by omega) (ld_n (by omega) rfl)
theorem Wd_hul {f : Nat → Int32} {m : MM} {x y : Int32} (hV : Vf f) (hW : Wd f 5 m) (h : nH f < 6) (hy : iv 2 12 y) : Wd (hulF f x y) 5 (adH m (nH f) x y) := by
  obtain ⟨y1, y2⟩ := nI_of_iv hy (by omega)
  have o := adH_off (m := m) (x := x) (y := y) h
  refine Wd_H hV hW (fun z hz => hulF_o (by omega) (by omega) (by omega) (by omega)) (adH_o (by omega) (by omega)) (fun a ha _ _ k => adH_o (by omega) (by omega)) ⟨ld_s.trans (show hulF f x y 0 = _ from if_pos rfl).symm, ?_⟩
  rw [hulF_H h]
  intro i hi
  by_cases q : i = nH f
  · subst q
    have e : nS (hulF f x y) (nH f) = y.toNatClampNeg := by unfold nS; rw [hulF_s h]
    unfold iv at hy
    rw [e, hulF_l, hulF_s h]
    refine ⟨?_, ?_, fun s hs => ?_⟩
    · unfold adH fiR; refine ld_n (by omega) ?_; rw [ldI_stRow, if_neg (by omega), ldI_stRow, if_neg (by omega), show 5 + 2 + 3 * nH f = 7 + 3 * nH f from by omega]; exact ld_n (by omega) ld_s
    · unfold adH fiR; refine ld_n (by omega) ?_; rw [ldI_stRow, if_neg (by omega), ldI_stRow, if_neg (by omega), show 5 + 2 + 3 * nH f = 7 + 3 * nH f from by omega]; exact ld_s
    · rw [hulF_b h (by omega) hs, hulF_d h (by omega) hs]
      refine ⟨?_, ?_⟩
      · unfold adH fiR; refine ld_n (by omega) ?_; rw [ldI_stRow, if_neg (by omega), ldI_stRow, if_pos (by omega), if_pos (by omega)]
      · unfold adH fiR; refine ld_n (by omega) ?_; rw [ldI_stRow, if_pos (by omega), if_pos (by omega)]
  · have hi' : i < nH f := by omega
    have e : nS (hulF f x y) i = nS f i := by unfold nS; rw [hulF_o (by omega) (by omega) (by omega) (by omega)]
    have s12 := (hV.2.1 i hi').2.2.2.1
    rw [e, hulF_o (by omega) (by omega) (by omega) (by omega), hulF_o (by omega) (by omega) (by omega) (by omega), adH_o (by omega) (by omega), adH_o (by omega) (by omega)]
    exact ⟨(hW.2.1 i hi').1, (hW.2.1 i hi').2.1, fun s hs => by rw [hulF_o (by omega) (by omega) (by omega) (by omega), hulF_o (by omega) (by omega) (by omega) (by omega), adH_o (by omega) (by omega), adH_o (by omega) (by omega)]; exact (hW.2.1 i hi').2.2 s hs⟩
