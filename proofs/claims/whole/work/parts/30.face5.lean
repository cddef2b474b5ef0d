def hulF (f : Nat → Int32) (x y : Int32) : Nat → Int32 := fun z => if z = 0 then nI (nH f + 1) else if z = 7 + nH f then x else if z = 13 + nH f then y else if 73 + 24 * nH f ≤ z ∧ z < 85 + 24 * nH f then (if z - (73 + 24 * nH f) < y.toNatClampNeg then 10 else 0) else if 85 + 24 * nH f ≤ z ∧ z < 97 + 24 * nH f then (if z - (85 + 24 * nH f) < y.toNatClampNeg then 5 else 0) else f z
theorem hulF_H {f : Nat → Int32} {x y : Int32} (h : nH f < 6) : nH (hulF f x y) = nH f + 1 := by show (if 0 = 0 then nI (nH f + 1) else _ : Int32).toNatClampNeg = _; rw [if_pos rfl, nI_cl _ (by omega)]
theorem hulF_o {f : Nat → Int32} {x y : Int32} {z : Nat} (h : z ≠ 0) (h1 : z ≠ 7 + nH f) (h2 : z ≠ 13 + nH f) (h3 : z < 73 + 24 * nH f ∨ 97 + 24 * nH f ≤ z) : hulF f x y z = f z := (if_neg h).trans ((if_neg h1).trans ((if_neg h2).trans ((if_neg (by omega)).trans (if_neg (by omega)))))
theorem hulF_l {f : Nat → Int32} {x y : Int32} : hulF f x y (7 + nH f) = x := (if_neg (by omega)).trans (if_pos rfl)
theorem hulF_s {f : Nat → Int32} {x y : Int32} (h : nH f < 6) : hulF f x y (13 + nH f) = y := (if_neg (by omega)).trans ((if_neg (by omega)).trans (if_pos rfl))
theorem hulF_b {f : Nat → Int32} {x y : Int32} (h : nH f < 6) {s : Nat} (hs : s < 12) (hy : s < y.toNatClampNeg) : hulF f x y (73 + 24 * nH f + s) = 10 := (if_neg (by omega)).trans ((if_neg (by omega)).trans ((if_neg (by omega)).trans ((if_pos (by omega)).trans (if_pos (by omega)))))
theorem hulF_d {f : Nat → Int32} {x y : Int32} (h : nH f < 6) {s : Nat} (hs : s < 12) (hy : s < y.toNatClampNeg) : hulF f x y (85 + 24 * nH f + s) = 5 := (if_neg (by omega)).trans ((if_neg (by omega)).trans ((if_neg (by omega)).trans ((if_neg (by omega)).trans ((if_pos (by omega)).trans (if_pos (by omega))))))
theorem nI_of_iv {y : Int32} {lo hi : Int} (h : iv lo hi y) (h0 : 0 ≤ lo) : y = nI y.toNatClampNeg ∧ (y.toNatClampNeg : Int) = y.toInt := by
  have e : y.toNatClampNeg = y.toInt.toNat := rfl
  have b := y.toInt_lt
  unfold iv at h
  have e2 : (y.toNatClampNeg : Int) = y.toInt := by rw [e]; omega
  refine ⟨Int32.toInt_inj.mp ?_, e2⟩
  rw [nI_int _ (by omega), e2]
theorem Vf_hul {f : Nat → Int32} {x y : Int32} (hV : Vf f) (h : nH f < 6) (hx : iv 10 400 x) (hy : iv 2 12 y) : Vf (hulF f x y) := by
  obtain ⟨y1, y2⟩ := nI_of_iv hy (by omega)
  refine Vf_H hV (fun z hz => hulF_o (by omega) (by omega) (by omega) (by omega)) ?_ ?_ ?_
  · rw [hulF_H h]; exact ⟨if_pos rfl, by omega⟩
  · rw [hulF_H h]; omega
  · rw [hulF_H h]
    intro i hi
    by_cases q : i = nH f
    · subst q
      have e : nS (hulF f x y) (nH f) = y.toNatClampNeg := by unfold nS; rw [hulF_s h]
      unfold VH; rw [e, hulF_l, hulF_s h]
      unfold iv at hy
      refine ⟨hx, y1, by omega, by omega, fun s hs => ?_⟩
      rw [hulF_b h (by omega) hs, hulF_d h (by omega) hs]
      exact ⟨⟨by decide, by decide⟩, ⟨by decide, by decide⟩⟩
    · have hi' : i < nH f := by omega
      have e : nS (hulF f x y) i = nS f i := by unfold nS; rw [hulF_o (by omega) (by omega) (by omega) (by omega)]
      obtain ⟨a, b, c, d, u⟩ := hV.2.1 i hi'
      unfold VH; rw [e, hulF_o (by omega) (by omega) (by omega) (by omega), hulF_o (by omega) (by omega) (by omega) (by omega)]
      exact ⟨a, b, c, d, fun s hs => by rw [hulF_o (by omega) (by omega) (by omega) (by omega), hulF_o (by omega) (by omega) (by omega) (by omega)]; exact u s hs⟩
theorem adH_off {m : MM} {n : Nat} {x y : Int32} (h : n < 6) : Off 5 24 m (adH m n x y) := ((((Off.rf.stI (by omega) (by omega)).stI (by omega) (by omega)).stRow (by omega) (by omega)).stRow (by omega) (by omega)).stI (by omega) (by omega)
theorem adH_o {m : MM} {n : Nat} {x y : Int32} {a k : Nat} (h : a ≠ 5 ∨ k ≠ 1) (h1 : a < 7 + 3 * n ∨ 9 + 3 * n < a) : ldI (adH m n x y) a k = ldI m a k := by
  unfold adH fiR
  refine ld_n (by omega) ?_
  rw [ldI_stRow, if_neg (by omega), ldI_stRow, if_neg (by omega)]
  exact ld_n (by omega) (ld_n (by omega) rfl)
theorem Wd_hul {f : Nat → Int32} {m : MM} {x y : Int32} (hV : Vf f) (hW : Wd f 5 m) (h : nH f < 6) (hy : iv 2 12 y) : Wd (hulF f x y) 5 (adH m (nH f) x y) := by
  obtain ⟨y1, y2⟩ := nI_of_iv hy (by omega)
  have o := adH_off (m := m) (x := x) (y := y) h
  refine Wd_H hV hW (fun z hz => hulF_o (by omega) (by omega) (by omega) (by omega)) (adH_o (by omega) (by omega)) (fun a ha _ _ k => adH_o (by omega) (by omega)) ⟨ld_s.trans (show hulF f x y 0 = _ from if_pos rfl).symm, ?_⟩
  rw [hulF_H h]
  intro i hi
  by_cases q : i = nH f
  · subst q
    have e : nS (hulF f x y) (nH f) = y.toNatClampNeg := by unfold nS; rw [hulF_s h]
    unfold iv at hy
    rw [e, hulF_l, hulF_s h]
    refine ⟨?_, ?_, fun s hs => ?_⟩
    · unfold adH fiR; refine ld_n (by omega) ?_; rw [ldI_stRow, if_neg (by omega), ldI_stRow, if_neg (by omega), show 5 + 2 + 3 * nH f = 7 + 3 * nH f from by omega]; exact ld_n (by omega) ld_s
    · unfold adH fiR; refine ld_n (by omega) ?_; rw [ldI_stRow, if_neg (by omega), ldI_stRow, if_neg (by omega), show 5 + 2 + 3 * nH f = 7 + 3 * nH f from by omega]; exact ld_s
    · rw [hulF_b h (by omega) hs, hulF_d h (by omega) hs]
      refine ⟨?_, ?_⟩
      · unfold adH fiR; refine ld_n (by omega) ?_; rw [ldI_stRow, if_neg (by omega), ldI_stRow, if_pos (by omega), if_pos (by omega)]
      · unfold adH fiR; refine ld_n (by omega) ?_; rw [ldI_stRow, if_pos (by omega), if_pos (by omega)]
  · have hi' : i < nH f := by omega
    have e : nS (hulF f x y) i = nS f i := by unfold nS; rw [hulF_o (by omega) (by omega) (by omega) (by omega)]
    have s12 := (hV.2.1 i hi').2.2.2.1
    rw [e, hulF_o (by omega) (by omega) (by omega) (by omega), hulF_o (by omega) (by omega) (by omega) (by omega), adH_o (by omega) (by omega), adH_o (by omega) (by omega)]
    exact ⟨(hW.2.1 i hi').1, (hW.2.1 i hi').2.1, fun s hs => by rw [hulF_o (by omega) (by omega) (by omega) (by omega), hulF_o (by omega) (by omega) (by omega) (by omega), adH_o (by omega) (by omega), adH_o (by omega) (by omega)]; exact (hW.2.1 i hi').2.2 s hs⟩
theorem S_X11_hull {g : GG} {m : MM} {Q : Out → Prop} {f : Nat → Int32} {fs : Nat → Nat → Int32} {ic : Nat} {tp : Nat → Int32} {tn : Nat} {pl : Int32} {n1 : Nat} {T1 : Nat → (Nat → Int64) → Nat → Int64} {n2 : Nat} {T2 : Nat → (Nat → Int64) → Nat → Int64} (hC : CI f fs ic tp tn pl n1 T1 n2 T2 m) {x y : Int32} (kb : ¬ ((10 ≤ x ∧ x ≤ 400) ∧ 2 ≤ y ∧ y ≤ 12) → Q (.inr EIAE, m)) (kf : ((10 ≤ x ∧ x ≤ 400) ∧ 2 ≤ y ∧ y ≤ 12) → nH f = 6 → Q (.inl (some (.int (-1))), m)) (k : ((10 ≤ x ∧ x ≤ 400) ∧ 2 ≤ y ∧ y ≤ 12) → nH f < 6 → ∀ m', CI (hulF f x y) fs ic tp tn pl n1 T1 n2 T2 m' → NoR m m' → Q (.inl (some (.int (nI (nH f)))), m')) : Cl g 7 2 12 mX11_hull [.ref 4, .int x, .int y] m Q := by
  refine Cl.of rfl (by decide) (Nat.le_of_ble_eq_true rfl) ?_
  show Wp g mX11_hull 7 2 12 0 [.ref 4, .int x, .int y] [] m Q
  have hF := hC.1
  have hV := hC.2.1
  have hW := hC.2.2.1
  refine r_iload_n dX11_hull_0 rfl ?_
  refine r_bipush (10) dX11_hull_1 rfl ?_
  refine r_sipush (400) dX11_hull_3 rfl ?_
  refine r_callS3 (d1 := 0) (c1 := 0) (n1 := 0) dX11_hull_6 msX11_59 rfl (Nat.le_of_ble_eq_true rfl) (by exact Nat.le_of_ble_eq_true rfl) ?_
  refine S_X11_isWithin (fun w6a w6b => ?_) (fun w6 => ?_)
  ·
    show Wp g mX11_hull _ _ _ 9 _ (_ :: _) _ Q
    refine r_callS1 (d1 := 6) (c1 := 1) (n1 := 6) dX11_hull_9 msX11_63 rfl (Nat.le_of_ble_eq_true rfl) (by exact Nat.le_of_ble_eq_true rfl) ?_
    refine S_demand1 ?_
    show Wp g mX11_hull _ _ _ 12 _ [] _ Q
    refine r_iload_n dX11_hull_12 rfl ?_
    refine r_iconst (2) dX11_hull_13 rfl ?_
    refine r_bipush (12) dX11_hull_14 rfl ?_
    refine r_callS3 (d1 := 0) (c1 := 0) (n1 := 0) dX11_hull_16 msX11_59 rfl (Nat.le_of_ble_eq_true rfl) (by exact Nat.le_of_ble_eq_true rfl) ?_
    refine S_X11_isWithin (fun w16a w16b => ?_) (fun w16 => ?_)
    ·
      show Wp g mX11_hull _ _ _ 19 _ (_ :: _) _ Q
      refine r_callS1 (d1 := 6) (c1 := 1) (n1 := 6) dX11_hull_19 msX11_63 rfl (Nat.le_of_ble_eq_true rfl) (by exact Nat.le_of_ble_eq_true rfl) ?_
      refine S_demand1 ?_
      show Wp g mX11_hull _ _ _ 22 _ [] _ Q
      refine r_aload_n dX11_hull_22 rfl ?_
      refine r_getRc dX11_hull_23 fgX11_12 rfl (by exact k_4 hF) (by exact r_4_0 hF) ?_
      refine r_iload_n dX11_hull_26 rfl ?_
      refine r_iload_n dX11_hull_27 rfl ?_
      refine r_callV2 (ci := 10) (d1 := 2) (c1 := 0) (n1 := 0) dX11_hull_28 mvX11_67 rfl ⟨(Nat.le_of_ble_eq_true rfl), rfl⟩ (Nat.le_of_ble_eq_true rfl) (by exact Nat.le_of_ble_eq_true rfl) (by exact k_5 hF) ?_
      refine S_X10_addHull hF (hW.1.1.trans hV.1.1.1) hV.1.1.2 (fun h6 => ?_) (fun h6 => ?_)
      ·
        show Wp g mX11_hull _ _ _ 31 _ (_ :: _) _ Q
        refine r_ireturn dX11_hull_31 rfl rfl ?_
        exact kf ⟨⟨w6a, w6b⟩, ⟨w16a, w16b⟩⟩ h6
      ·
        show Wp g mX11_hull _ _ _ 31 _ (_ :: _) _ Q
        refine r_ireturn dX11_hull_31 rfl rfl ?_
        exact k ⟨⟨w6a, w6b⟩, ⟨w16a, w16b⟩⟩ h6 _ (hC.now ((adH_off h6).wd (by omega) (by omega)) (Vf_hul hV h6 (iv_mk w6a w6b) (iv_mk w16a w16b)) (Wd_hul hV hW h6 (iv_mk w16a w16b))) ((adH_off h6).nor (by omega))
    ·
      show Wp g mX11_hull _ _ _ 19 _ (_ :: _) _ Q
      refine r_callS1 (d1 := 6) (c1 := 1) (n1 := 6) dX11_hull_19 msX11_63 rfl (Nat.le_of_ble_eq_true rfl) (by exact Nat.le_of_ble_eq_true rfl) ?_
      refine S_demand0 ?_
      first | exact kb (fun q => w6 q.1) | exact kb (fun q => w16 q.2)
  ·
    show Wp g mX11_hull _ _ _ 9 _ (_ :: _) _ Q
    refine r_callS1 (d1 := 6) (c1 := 1) (n1 := 6) dX11_hull_9 msX11_63 rfl (Nat.le_of_ble_eq_true rfl) (by exact Nat.le_of_ble_eq_true rfl) ?_
    refine S_demand0 ?_
    first | exact kb (fun q => w6 q.1) | exact kb (fun q => w16 q.2)
def staF (f : Nat → Int32) (h s : Nat) (b d : Int32) : Nat → Int32 := upF (upF f (73 + 24 * h + s) b) (85 + 24 * h + s) d
theorem staF_o {f : Nat → Int32} {h s : Nat} {b d : Int32} {z : Nat} (h1 : z ≠ 73 + 24 * h + s) (h2 : z ≠ 85 + 24 * h + s) : staF f h s b d z = f z := upF_n h2 (upF_n h1 rfl)
theorem staF_b {f : Nat → Int32} {h s : Nat} {b d : Int32} : staF f h s b d (73 + 24 * h + s) = b := upF_n (by omega) upF_s
theorem staF_d {f : Nat → Int32} {h s : Nat} {b d : Int32} : staF f h s b d (85 + 24 * h + s) = d := upF_s
theorem Vf_sta {f : Nat → Int32} {h s : Nat} {b d : Int32} (hV : Vf f) (hh : h < nH f) (hs : s < nS f h) (hb : iv 0 60 b) (hd : iv 0 60 d) : Vf (staF f h s b d) := by
  have h6 := hV.1.1.2
  have h12 := (hV.2.1 h hh).2.2.2.1
  refine hV.hul (fun x hx => staF_o (by omega) (by omega)) (fun a ha t ht => ?_)
  have w := (hV.2.1 a ha).2.2.2.2 t ht
  have a12 := (hV.2.1 a ha).2.2.2.1
  by_cases q : a = h ∧ t = s
  · obtain ⟨rfl, rfl⟩ := q; rw [staF_b, staF_d]; exact ⟨hb, hd⟩
  · rw [staF_o (by omega) (by omega), staF_o (by omega) (by omega)]; exact w
theorem Wd_sta {f : Nat → Int32} {m : MM} {h s : Nat} {b d : Int32} (hV : Vf f) (hW : Wd f 5 m) (hh : h < nH f) (hs : s < nS f h) : Wd (staF f h s b d) 5 (stI (stI m (8 + 3 * h) s b) (9 + 3 * h) s d) := by
  have h6 := hV.1.1.2
  have h12 := (hV.2.1 h hh).2.2.2.1
  refine hW.hul h6 hV.1 (fun x hx => staF_o (by omega) (by omega)) (fun a ha k => ld_n (by omega) (ld_n (by omega) rfl)) (fun a ha t ht => ?_)
  have w := (hW.2.1 a ha).2.2 t ht
  have a12 := (hV.2.1 a ha).2.2.2.1
  have w1 : ldI m (8 + 3 * a) t = f (73 + 24 * a + t) := w.1
  have w2 : ldI m (9 + 3 * a) t = f (85 + 24 * a + t) := w.2
  by_cases q : a = h ∧ t = s
  · obtain ⟨rfl, rfl⟩ := q; rw [staF_b, staF_d]; exact ⟨ld_n (by omega) ld_s, ld_s⟩
  · rw [staF_o (by omega) (by omega), staF_o (by omega) (by omega)]; exact ⟨ld_n (by omega) (ld_n (by omega) w1), ld_n (by omega) (ld_n (by omega) w2)⟩
theorem S_X11_station {g : GG} {m : MM} {Q : Out → Prop} {f : Nat → Int32} {fs : Nat → Nat → Int32} {ic : Nat} {tp : Nat → Int32} {tn : Nat} {pl : Int32} {n1 : Nat} {T1 : Nat → (Nat → Int64) → Nat → Int64} {n2 : Nat} {T2 : Nat → (Nat → Int64) → Nat → Int64} (hC : CI f fs ic tp tn pl n1 T1 n2 T2 m) {x s b d : Int32} (kh : (x < 0 ∨ nI (nH f) ≤ x) → Q (.inr ENSE, m)) (ks : ∀ j, x = nI j → j < nH f → (s < 0 ∨ nI (nS f j) ≤ s) → Q (.inr EIAE, m)) (kb : ∀ j, x = nI j → j < nH f → ∀ t, s = nI t → t < nS f j → ¬ ((0 ≤ b ∧ b ≤ 60) ∧ 0 ≤ d ∧ d ≤ 60) → Q (.inr EIAE, m)) (k : ∀ j, x = nI j → j < nH f → ∀ t, s = nI t → t < nS f j → ((0 ≤ b ∧ b ≤ 60) ∧ 0 ≤ d ∧ d ≤ 60) → ∀ m', CI (staF f j t b d) fs ic tp tn pl n1 T1 n2 T2 m' → NoR m m' → Q (.inl (some (.int (100 * f (73 + 24 * j + t) + f (85 + 24 * j + t)))), m')) : Cl g 7 3 18 mX11_station [.ref 4, .int x, .int s, .int b, .int d] m Q := by
  refine Cl.of rfl (by decide) (Nat.le_of_ble_eq_true rfl) ?_
  show Wp g mX11_station 7 3 18 0 [.ref 4, .int x, .int s, .int b, .int d, .retAddr 0, .retAddr 0] [] m Q
  have hF := hC.1
  have hV := hC.2.1
  have hW := hC.2.2.1
  have h6 := hV.1.1.2
  have h12 : ∀ i, i < nH f → nS f i ≤ 12 := fun i hi => (hV.2.1 i hi).2.2.2.1
  refine r_aload_n dX11_station_0 rfl ?_
  refine r_iload_n dX11_station_1 rfl ?_
  refine r_callV1 (ci := 11) (d1 := 6) (c1 := 1) (n1 := 6) dX11_station_2 mvX11_71 rfl ⟨(Nat.le_of_ble_eq_true rfl), rfl⟩ (Nat.le_of_ble_eq_true rfl) (by exact Nat.le_of_ble_eq_true rfl) (by exact k_4 hF) ?_
  refine S_X11_demandHull hF hV hW (fun j hj hjn => ?_) (fun h0 => ?_)
  ·
    subst hj
    show Wp g mX11_station _ _ _ 5 _ (_ :: _) _ Q
    refine sa_5 dX11_station_5 rfl (Nat.le_of_ble_eq_true rfl) ?_
    refine r_aload dX11_station_7 rfl ?_
    refine r_iload_n dX11_station_9 rfl ?_
    refine r_callV1 (ci := 1) (d1 := 0) (c1 := 0) (n1 := 0) dX11_station_10 mvX11_75 rfl ⟨(Nat.le_of_ble_eq_true rfl), rfl⟩ (Nat.le_of_ble_eq_true rfl) (by exact Nat.le_of_ble_eq_true rfl) (by exact hu0_k hF (by omega)) ?_
    refine S_X1_hasStation (n := nS f j) (by exact hu0_k hF (by omega)) (by exact (hW.2.1 j hjn).2.1.trans (hV.2.1 j hjn).2.1) (hV.2.1 j hjn).2.2.2.1 (fun t ht htn => ?_) (fun hs0 => ?_)
    ·
      subst ht
      show Wp g mX11_station _ _ _ 13 _ (_ :: _) _ Q
      refine r_callS1 (d1 := 6) (c1 := 1) (n1 := 6) dX11_station_13 msX11_63 rfl (Nat.le_of_ble_eq_true rfl) (by exact Nat.le_of_ble_eq_true rfl) ?_
      refine S_demand1 ?_
      show Wp g mX11_station _ _ _ 16 _ [] _ Q
      refine r_iload_n dX11_station_16 rfl ?_
      refine r_iconst (0) dX11_station_17 rfl ?_
      refine r_bipush (60) dX11_station_18 rfl ?_
      refine r_callS3 (d1 := 0) (c1 := 0) (n1 := 0) dX11_station_20 msX11_59 rfl (Nat.le_of_ble_eq_true rfl) (by exact Nat.le_of_ble_eq_true rfl) ?_
      refine S_X11_isWithin (fun w20a w20b => ?_) (fun w20 => ?_)
      ·
        show Wp g mX11_station _ _ _ 23 _ (_ :: _) _ Q
        refine r_if_eq 41 dX11_station_23 rfl (fun hz => absurd hz (by decide)) (fun _ => ?_)
        refine r_iload dX11_station_26 rfl ?_
        refine r_iconst (0) dX11_station_28 rfl ?_
        refine r_bipush (60) dX11_station_29 rfl ?_
        refine r_callS3 (d1 := 0) (c1 := 0) (n1 := 0) dX11_station_31 msX11_59 rfl (Nat.le_of_ble_eq_true rfl) (by exact Nat.le_of_ble_eq_true rfl) ?_
        refine S_X11_isWithin (fun w31a w31b => ?_) (fun w31 => ?_)
        ·
          show Wp g mX11_station _ _ _ 34 _ (_ :: _) _ Q
          refine r_if_eq 41 dX11_station_34 rfl (fun hz => absurd hz (by decide)) (fun _ => ?_)
          refine r_iconst (1) dX11_station_37 rfl ?_
          refine r_goto 42 dX11_station_38 rfl ?_
          refine r_callS1 (d1 := 6) (c1 := 1) (n1 := 6) dX11_station_42 msX11_63 rfl (Nat.le_of_ble_eq_true rfl) (by exact Nat.le_of_ble_eq_true rfl) ?_
          refine S_demand1 ?_
          show Wp g mX11_station _ _ _ 45 _ [] _ Q
          refine r_bipush (100) dX11_station_45 rfl ?_
          refine r_aload dX11_station_47 rfl ?_
          refine r_iload_n dX11_station_49 rfl ?_
          refine r_callV1 (ci := 1) (d1 := 1) (c1 := 0) (n1 := 0) dX11_station_50 mvX11_81 rfl ⟨(Nat.le_of_ble_eq_true rfl), rfl⟩ (Nat.le_of_ble_eq_true rfl) (by exact Nat.le_of_ble_eq_true rfl) (by exact hu0_k hF (by omega)) ?_
          refine S_X1_beamAt (by exact hu0_k hF (by omega)) (by exact hb0_r hF (by omega)) (by exact hb0_k hF (by omega)) (by exact hd0_r hF (by omega)) (by exact hd0_k hF (by omega)) (by exact (hW.2.1 j hjn).2.1.trans (hV.2.1 j hjn).2.1) (hV.2.1 j hjn).2.2.2.1 (fun u hu hun => ?_) (fun h9 => (nI_spec rfl htn (by have := h12 j hjn; omega) h9).elim)
          obtain rfl := (nI_eq (by have := h12 j hjn; omega) (by have := h12 j hjn; omega)).mp hu
          show Wp g mX11_station _ _ _ 53 _ (_ :: _) _ Q
          refine r_imul dX11_station_53 ?_
          refine r_aload dX11_station_54 rfl ?_
          refine r_iload_n dX11_station_56 rfl ?_
          refine r_callV1 (ci := 1) (d1 := 1) (c1 := 0) (n1 := 0) dX11_station_57 mvX11_85 rfl ⟨(Nat.le_of_ble_eq_true rfl), rfl⟩ (Nat.le_of_ble_eq_true rfl) (by exact Nat.le_of_ble_eq_true rfl) (by exact hu0_k hF (by omega)) ?_
          refine S_X1_draftAt (by exact hu0_k hF (by omega)) (by exact hb0_r hF (by omega)) (by exact hb0_k hF (by omega)) (by exact hd0_r hF (by omega)) (by exact hd0_k hF (by omega)) (by exact (hW.2.1 j hjn).2.1.trans (hV.2.1 j hjn).2.1) (hV.2.1 j hjn).2.2.2.1 (fun u hu hun => ?_) (fun h9 => (nI_spec rfl htn (by have := h12 j hjn; omega) h9).elim)
          obtain rfl := (nI_eq (by have := h12 j hjn; omega) (by have := h12 j hjn; omega)).mp hu
          show Wp g mX11_station _ _ _ 60 _ (_ :: _) _ Q
          refine r_iadd dX11_station_60 ?_
          refine si_6 dX11_station_61 rfl (Nat.le_of_ble_eq_true rfl) ?_
          refine r_aload dX11_station_63 rfl ?_
          refine r_iload_n dX11_station_65 rfl ?_
          refine r_iload_n dX11_station_66 rfl ?_
          refine r_iload dX11_station_67 rfl ?_
          refine r_callV3 (ci := 1) (d1 := 1) (c1 := 0) (n1 := 0) dX11_station_69 mvX11_88 rfl ⟨(Nat.le_of_ble_eq_true rfl), rfl⟩ (Nat.le_of_ble_eq_true rfl) (by exact Nat.le_of_ble_eq_true rfl) (by exact hu0_k hF (by omega)) ?_
          refine S_X1_shape (by exact hu0_k hF (by omega)) (by exact hb0_r hF (by omega)) (by exact hb0_k hF (by omega)) (by exact hd0_r hF (by omega)) (by exact hd0_k hF (by omega)) (by exact (hW.2.1 j hjn).2.1.trans (hV.2.1 j hjn).2.1) (hV.2.1 j hjn).2.2.2.1 (fun u hu hun => ?_) (fun h9 => (nI_spec rfl htn (by have := h12 j hjn; omega) h9).elim)
          obtain rfl := (nI_eq (by have := h12 j hjn; omega) (by have := h12 j hjn; omega)).mp hu
          show Wp g mX11_station _ _ _ 72 _ [] _ Q
          refine r_iload dX11_station_72 rfl ?_
          refine r_ireturn dX11_station_74 rfl rfl ?_
          have z := (hW.2.1 j hjn).2.2 t htn
          have o9 : Off 7 24 m (stI (stI m (8 + 3 * j) t b) (9 + 3 * j) t d) := (Off.rf.stI (by omega) (by omega)).stI (by omega) (by omega)
          have k9 := k j rfl hjn t rfl htn ⟨⟨w20a, w20b⟩, ⟨w31a, w31b⟩⟩ _ (hC.now (o9.wd (by omega) (by omega)) (Vf_sta hV hjn htn (iv_mk w20a w20b) (iv_mk w31a w31b)) (Wd_sta hV hW hjn htn)) (o9.nor (by omega))
          rw [← z.1, ← z.2] at k9; exact k9
        ·
          show Wp g mX11_station _ _ _ 34 _ (_ :: _) _ Q
          refine r_if_eq 41 dX11_station_34 rfl (fun _ => ?_) (fun hz => absurd hz (by decide))
          refine r_iconst (0) dX11_station_41 rfl ?_
          refine r_callS1 (d1 := 6) (c1 := 1) (n1 := 6) dX11_station_42 msX11_63 rfl (Nat.le_of_ble_eq_true rfl) (by exact Nat.le_of_ble_eq_true rfl) ?_
          refine S_demand0 ?_
          first | exact kb j rfl hjn _ rfl htn (fun q => w20 q.1) | exact kb j rfl hjn _ rfl htn (fun q => w31 q.2)
      ·
        show Wp g mX11_station _ _ _ 23 _ (_ :: _) _ Q
        refine r_if_eq 41 dX11_station_23 rfl (fun _ => ?_) (fun hz => absurd hz (by decide))
        refine r_iconst (0) dX11_station_41 rfl ?_
        refine r_callS1 (d1 := 6) (c1 := 1) (n1 := 6) dX11_station_42 msX11_63 rfl (Nat.le_of_ble_eq_true rfl) (by exact Nat.le_of_ble_eq_true rfl) ?_
        refine S_demand0 ?_
        first | exact kb j rfl hjn _ rfl htn (fun q => w20 q.1) | exact kb j rfl hjn _ rfl htn (fun q => w31 q.2)
    ·
      show Wp g mX11_station _ _ _ 13 _ (_ :: _) _ Q
      refine r_callS1 (d1 := 6) (c1 := 1) (n1 := 6) dX11_station_13 msX11_63 rfl (Nat.le_of_ble_eq_true rfl) (by exact Nat.le_of_ble_eq_true rfl) ?_
      refine S_demand0 ?_
      exact ks j rfl hjn hs0
  ·
    exact kh h0
