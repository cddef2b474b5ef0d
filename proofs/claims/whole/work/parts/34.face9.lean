def imF (f : Nat → Int32) (fs : Nat → Nat → Int32) (ic : Nat) : Nat → Nat → Int32 := fun k => if k = ic then f else fs k
/-- an image more, or less: fs' ic' -/
theorem CI.img {f : Nat → Int32} {fs : Nat → Nat → Int32} {ic : Nat} {tp : Nat → Int32} {tn : Nat} {pl : Int32} {n1 : Nat} {T1 : Nat → (Nat → Int64) → Nat → Int64} {n2 : Nat} {T2 : Nat → (Nat → Int64) → Nat → Int64} {m m' : MM} {fs' : Nat → Nat → Int32} {ic' : Nat} {f' : Nat → Int32} (h : CI f fs ic tp tn pl n1 T1 n2 T2 m) (e0 : m'.2.2 = m.2.2) (e : ∀ a, 149 < a → ∀ k, ldI m' a k = ldI m a k) (e4 : ldI m' 4 8 = ldI m 4 8) (hV : Vf f') (hW : Wd f' 5 m') (h1 : ldI m' 4 7 = nI ic') (h2 : ic' ≤ 3) (h3 : ∀ k, k < ic' → Vf (fs' k) ∧ Wd (fs' k) (42 + 36 * k) m') : CI f' fs' ic' tp tn pl n1 T1 n2 T2 m' := by
  obtain ⟨a, b, c, ⟨d1, d2, d3⟩, ⟨e1, e2, e3⟩, g1, i1, i2⟩ := h
  refine ⟨Fx_of e0 a, hV, hW, ⟨h1, h2, h3⟩, ⟨(e 150 (by omega) 1).trans e1, e2, fun j hj => ⟨(e 151 (by omega) j).trans (e3 j hj).1, (e3 j hj).2⟩⟩, e4.trans g1, ?_, ?_⟩
  · obtain ⟨u1, u2, u3⟩ := i1
    refine ⟨(e 155 (by omega) 1).trans u1, u2, fun j hj => ?_⟩
    obtain ⟨v1, v2, v3, L, v4, v5, v6⟩ := u3 j hj
    rw [ldR_of e0]
    exact ⟨v1, (kdl_of e0 _).trans v2, by rw [ldR_of e0]; exact v3, L, by rw [ldR_of e0, kdl_of e0]; exact v4, v5, by rw [ldR_of e0, show ldI m' (ldR m (ldR m 156 j) 0) = ldI m (ldR m (ldR m 156 j) 0) from funext (fun k => e _ (by omega) k)]; exact v6⟩
  · obtain ⟨u1, u2, u3⟩ := i2
    refine ⟨(e 157 (by omega) 1).trans u1, u2, fun j hj => ?_⟩
    obtain ⟨v1, v2, v3, L, v4, v5, v6⟩ := u3 j hj
    rw [ldR_of e0]
    exact ⟨v1, (kdl_of e0 _).trans v2, by rw [ldR_of e0]; exact v3, L, by rw [ldR_of e0, kdl_of e0]; exact v4, v5, by rw [ldR_of e0, show ldI m' (ldR m (ldR m 158 j) 0) = ldI m (ldR m (ldR m 158 j) 0) from funext (fun k => e _ (by omega) k)]; exact v6⟩
theorem S_image0 {g : GG} {m : MM} {Q : Out → Prop} {f : Nat → Int32} {fs : Nat → Nat → Int32} {tp : Nat → Int32} {tn : Nat} {pl : Int32} {n1 : Nat} {T1 : Nat → (Nat → Int64) → Nat → Int64} {n2 : Nat} {T2 : Nat → (Nat → Int64) → Nat → Int64} (hC : CI f fs 0 tp tn pl n1 T1 n2 T2 m) (k : ∀ m', CI f (imF f fs 0) 1 tp tn pl n1 T1 n2 T2 m' → NoR m m' → Q (.inl (some (.int 1)), m')) : Cl g 6 0 0 mX11_image [.ref 4] m Q := by
  refine Cl.of rfl (by decide) (Nat.le_of_ble_eq_true rfl) ?_
  show Wp g mX11_image 6 0 0 0 [.ref 4] [] m Q
  have hF := hC.1
  have hV := hC.2.1
  have hW := hC.2.2.1
  refine r_aload_n dX11_image_0 rfl ?_
  refine r_getIc (0) dX11_image_1 fgX11_280 rfl (by exact k_4 hF) (by exact hC.2.2.2.1.1) ?_
  refine r_aload_n dX11_image_4 rfl ?_
  refine r_getRc dX11_image_5 fgX11_16 rfl (by exact k_4 hF) (by exact r_4_1 hF) ?_
  refine r_alen _ dX11_image_8 ⟨Nat.le_of_ble_eq_true rfl, Nat.le_of_ble_eq_true rfl⟩ (by exact k_41 hF) rfl ?_
  refine r_icmp_lt 14 dX11_image_9 rfl (fun _ => ?_) (fun hz => absurd hz (by decide))
  refine r_aload_n dX11_image_14 rfl ?_
  refine r_getRc dX11_image_15 fgX11_16 rfl (by exact k_4 hF) (by exact r_4_1 hF) ?_
  refine r_aload_n dX11_image_18 rfl ?_
  refine r_getIc (0) dX11_image_19 fgX11_280 rfl (by exact k_4 hF) (by exact hC.2.2.2.1.1) ?_
  refine r_aaloadc (b := 42) dX11_image_22 ⟨Nat.le_of_ble_eq_true rfl, Nat.le_of_ble_eq_true rfl⟩ (by exact k_41 hF) (vin (j := 0) (by omega) (by omega)) (by exact fr hF ⟨by decide, by decide, by decide⟩ rfl) ?_
  refine r_aload_n dX11_image_23 rfl ?_
  refine r_getRc dX11_image_24 fgX11_12 rfl (by exact k_4 hF) (by exact r_4_0 hF) ?_
  refine r_callV1 (ci := 10) (d1 := 5) (c1 := 0) (n1 := 0) dX11_image_27 mvX11_283 rfl ⟨(Nat.le_of_ble_eq_true rfl), rfl⟩ (Nat.le_of_ble_eq_true rfl) (by exact Nat.le_of_ble_eq_true rfl) (by exact k_42 hF) ?_
  refine S_wcopy1_0 hF hV.1 hW (by rw [show ldI m 29 4 = f 31 from hW.2.2.2.1 4 (by omega)]; exact hV.2.2.2.1.2.2.2.2.1) (fun i hi => (hV.2.1 i hi).2.2.2.1) (fun m1 o1 hW1 => ?_)
  have hF1 := Fx_of o1.1 hF
  have e7 : ldI m1 4 7 = nI 0 := ((o1.2 4 (by omega)).1 7).trans hC.2.2.2.1.1
  show Wp g mX11_image _ _ _ 30 _ [] _ Q
  refine r_aload_n dX11_image_30 rfl ?_
  refine r_dup dX11_image_31 rfl ?_
  refine r_getIc (0) dX11_image_32 fgX11_280 rfl (by exact k_4 hF1) (by exact e7) ?_
  refine r_iconst (1) dX11_image_35 rfl ?_
  refine r_iadd dX11_image_36 ?_
  refine r_putI dX11_image_37 (fpX11_280 _ rfl) rfl (by exact k_4 hF1) ⟨rfl, rfl⟩ ?_
  refine r_aload_n dX11_image_40 rfl ?_
  refine r_getIc (1) dX11_image_41 fgX11_280 rfl (by exact k_4 hF1) (by exact ld_s) ?_
  refine r_ireturn dX11_image_44 rfl rfl ?_
  have o2 : NoR m (stI m1 4 7 ((0 : Int32) + 1)) := ((o1.wd (lo2 := 4) (hi2 := 166) (by omega) (by omega)).stI (by omega) (by omega)).nor (by omega)
  have oW : ∀ (q : Nat → Int32) w, nH q ≤ 6 → 4 < w → Wd q w m1 → Wd q w (stI m1 4 7 ((0 : Int32) + 1)) := fun q w h6 h4 hw => hw.of (fun a h1 h2 j => ld_n (by omega) rfl) h6
  refine k _ (hC.img (fs' := imF f fs 0) (ic' := 1) (m' := stI m1 4 7 ((0 : Int32) + 1)) o1.1 (fun a ha j => ld_n (by omega) ((o1.2 a (by omega)).1 j)) (ld_n (by decide) ((o1.2 4 (by omega)).1 8)) hV (oW f 5 hV.1.1.2 (by omega) (hW.off o1 (by omega) hV.1.1.2)) ld_s (by omega) (fun j hj => ?_)) o2
  by_cases q : j = 0
  · subst q; rw [show imF f fs 0 0 = f from if_pos rfl]; exact ⟨hV, oW f _ hV.1.1.2 (by omega) hW1⟩
  · rw [show imF f fs 0 j = fs j from if_neg q]; have z := hC.2.2.2.1.2.2 j (by omega); exact ⟨z.1, oW _ _ z.1.1.1.2 (by omega) (z.2.off o1 (by omega) z.1.1.1.2)⟩
theorem S_image1 {g : GG} {m : MM} {Q : Out → Prop} {f : Nat → Int32} {fs : Nat → Nat → Int32} {tp : Nat → Int32} {tn : Nat} {pl : Int32} {n1 : Nat} {T1 : Nat → (Nat → Int64) → Nat → Int64} {n2 : Nat} {T2 : Nat → (Nat → Int64) → Nat → Int64} (hC : CI f fs 1 tp tn pl n1 T1 n2 T2 m) (k : ∀ m', CI f (imF f fs 1) 2 tp tn pl n1 T1 n2 T2 m' → NoR m m' → Q (.inl (some (.int 2)), m')) : Cl g 6 0 0 mX11_image [.ref 4] m Q := by
  refine Cl.of rfl (by decide) (Nat.le_of_ble_eq_true rfl) ?_
  show Wp g mX11_image 6 0 0 0 [.ref 4] [] m Q
  have hF := hC.1
  have hV := hC.2.1
  have hW := hC.2.2.1
  refine r_aload_n dX11_image_0 rfl ?_
  refine r_getIc (1) dX11_image_1 fgX11_280 rfl (by exact k_4 hF) (by exact hC.2.2.2.1.1) ?_
  refine r_aload_n dX11_image_4 rfl ?_
  refine r_getRc dX11_image_5 fgX11_16 rfl (by exact k_4 hF) (by exact r_4_1 hF) ?_
  refine r_alen _ dX11_image_8 ⟨Nat.le_of_ble_eq_true rfl, Nat.le_of_ble_eq_true rfl⟩ (by exact k_41 hF) rfl ?_
  refine r_icmp_lt 14 dX11_image_9 rfl (fun _ => ?_) (fun hz => absurd hz (by decide))
  refine r_aload_n dX11_image_14 rfl ?_
  refine r_getRc dX11_image_15 fgX11_16 rfl (by exact k_4 hF) (by exact r_4_1 hF) ?_
  refine r_aload_n dX11_image_18 rfl ?_
  refine r_getIc (1) dX11_image_19 fgX11_280 rfl (by exact k_4 hF) (by exact hC.2.2.2.1.1) ?_
  refine r_aaloadc (b := 78) dX11_image_22 ⟨Nat.le_of_ble_eq_true rfl, Nat.le_of_ble_eq_true rfl⟩ (by exact k_41 hF) (vin (j := 1) (by omega) (by omega)) (by exact fr hF ⟨by decide, by decide, by decide⟩ rfl) ?_
  refine r_aload_n dX11_image_23 rfl ?_
  refine r_getRc dX11_image_24 fgX11_12 rfl (by exact k_4 hF) (by exact r_4_0 hF) ?_
  refine r_callV1 (ci := 10) (d1 := 5) (c1 := 0) (n1 := 0) dX11_image_27 mvX11_283 rfl ⟨(Nat.le_of_ble_eq_true rfl), rfl⟩ (Nat.le_of_ble_eq_true rfl) (by exact Nat.le_of_ble_eq_true rfl) (by exact k_78 hF) ?_
  refine S_wcopy2_0 hF hV.1 hW (by rw [show ldI m 29 4 = f 31 from hW.2.2.2.1 4 (by omega)]; exact hV.2.2.2.1.2.2.2.2.1) (fun i hi => (hV.2.1 i hi).2.2.2.1) (fun m1 o1 hW1 => ?_)
  have hF1 := Fx_of o1.1 hF
  have e7 : ldI m1 4 7 = nI 1 := ((o1.2 4 (by omega)).1 7).trans hC.2.2.2.1.1
  show Wp g mX11_image _ _ _ 30 _ [] _ Q
  refine r_aload_n dX11_image_30 rfl ?_
  refine r_dup dX11_image_31 rfl ?_
  refine r_getIc (1) dX11_image_32 fgX11_280 rfl (by exact k_4 hF1) (by exact e7) ?_
  refine r_iconst (1) dX11_image_35 rfl ?_
  refine r_iadd dX11_image_36 ?_
  refine r_putI dX11_image_37 (fpX11_280 _ rfl) rfl (by exact k_4 hF1) ⟨rfl, rfl⟩ ?_
  refine r_aload_n dX11_image_40 rfl ?_
  refine r_getIc (2) dX11_image_41 fgX11_280 rfl (by exact k_4 hF1) (by exact ld_s) ?_
  refine r_ireturn dX11_image_44 rfl rfl ?_
  have o2 : NoR m (stI m1 4 7 ((1 : Int32) + 1)) := ((o1.wd (lo2 := 4) (hi2 := 166) (by omega) (by omega)).stI (by omega) (by omega)).nor (by omega)
  have oW : ∀ (q : Nat → Int32) w, nH q ≤ 6 → 4 < w → Wd q w m1 → Wd q w (stI m1 4 7 ((1 : Int32) + 1)) := fun q w h6 h4 hw => hw.of (fun a h1 h2 j => ld_n (by omega) rfl) h6
  refine k _ (hC.img (fs' := imF f fs 1) (ic' := 2) (m' := stI m1 4 7 ((1 : Int32) + 1)) o1.1 (fun a ha j => ld_n (by omega) ((o1.2 a (by omega)).1 j)) (ld_n (by decide) ((o1.2 4 (by omega)).1 8)) hV (oW f 5 hV.1.1.2 (by omega) (hW.off o1 (by omega) hV.1.1.2)) ld_s (by omega) (fun j hj => ?_)) o2
  by_cases q : j = 1
  · subst q; rw [show imF f fs 1 1 = f from if_pos rfl]; exact ⟨hV, oW f _ hV.1.1.2 (by omega) hW1⟩
  · rw [show imF f fs 1 j = fs j from if_neg q]; have z := hC.2.2.2.1.2.2 j (by omega); exact ⟨z.1, oW _ _ z.1.1.1.2 (by omega) (z.2.off o1 (by omega) z.1.1.1.2)⟩
theorem S_image2 {g : GG} {m : MM} {Q : Out → Prop} {f : Nat → Int32} {fs : Nat → Nat → Int32} {tp : Nat → Int32} {tn : Nat} {pl : Int32} {n1 : Nat} {T1 : Nat → (Nat → Int64) → Nat → Int64} {n2 : Nat} {T2 : Nat → (Nat → Int64) → Nat → Int64} (hC : CI f fs 2 tp tn pl n1 T1 n2 T2 m) (k : ∀ m', CI f (imF f fs 2) 3 tp tn pl n1 T1 n2 T2 m' → NoR m m' → Q (.inl (some (.int 3)), m')) : Cl g 6 0 0 mX11_image [.ref 4] m Q := by
  refine Cl.of rfl (by decide) (Nat.le_of_ble_eq_true rfl) ?_
  show Wp g mX11_image 6 0 0 0 [.ref 4] [] m Q
  have hF := hC.1
  have hV := hC.2.1
  have hW := hC.2.2.1
  refine r_aload_n dX11_image_0 rfl ?_
  refine r_getIc (2) dX11_image_1 fgX11_280 rfl (by exact k_4 hF) (by exact hC.2.2.2.1.1) ?_
  refine r_aload_n dX11_image_4 rfl ?_
  refine r_getRc dX11_image_5 fgX11_16 rfl (by exact k_4 hF) (by exact r_4_1 hF) ?_
  refine r_alen _ dX11_image_8 ⟨Nat.le_of_ble_eq_true rfl, Nat.le_of_ble_eq_true rfl⟩ (by exact k_41 hF) rfl ?_
  refine r_icmp_lt 14 dX11_image_9 rfl (fun _ => ?_) (fun hz => absurd hz (by decide))
  refine r_aload_n dX11_image_14 rfl ?_
  refine r_getRc dX11_image_15 fgX11_16 rfl (by exact k_4 hF) (by exact r_4_1 hF) ?_
  refine r_aload_n dX11_image_18 rfl ?_
  refine r_getIc (2) dX11_image_19 fgX11_280 rfl (by exact k_4 hF) (by exact hC.2.2.2.1.1) ?_
  refine r_aaloadc (b := 114) dX11_image_22 ⟨Nat.le_of_ble_eq_true rfl, Nat.le_of_ble_eq_true rfl⟩ (by exact k_41 hF) (vin (j := 2) (by omega) (by omega)) (by exact fr hF ⟨by decide, by decide, by decide⟩ rfl) ?_
  refine r_aload_n dX11_image_23 rfl ?_
  refine r_getRc dX11_image_24 fgX11_12 rfl (by exact k_4 hF) (by exact r_4_0 hF) ?_
  refine r_callV1 (ci := 10) (d1 := 5) (c1 := 0) (n1 := 0) dX11_image_27 mvX11_283 rfl ⟨(Nat.le_of_ble_eq_true rfl), rfl⟩ (Nat.le_of_ble_eq_true rfl) (by exact Nat.le_of_ble_eq_true rfl) (by exact k_114 hF) ?_
  refine S_wcopy3_0 hF hV.1 hW (by rw [show ldI m 29 4 = f 31 from hW.2.2.2.1 4 (by omega)]; exact hV.2.2.2.1.2.2.2.2.1) (fun i hi => (hV.2.1 i hi).2.2.2.1) (fun m1 o1 hW1 => ?_)
  have hF1 := Fx_of o1.1 hF
  have e7 : ldI m1 4 7 = nI 2 := ((o1.2 4 (by omega)).1 7).trans hC.2.2.2.1.1
  show Wp g mX11_image _ _ _ 30 _ [] _ Q
  refine r_aload_n dX11_image_30 rfl ?_
  refine r_dup dX11_image_31 rfl ?_
  refine r_getIc (2) dX11_image_32 fgX11_280 rfl (by exact k_4 hF1) (by exact e7) ?_
  refine r_iconst (1) dX11_image_35 rfl ?_
  refine r_iadd dX11_image_36 ?_
  refine r_putI dX11_image_37 (fpX11_280 _ rfl) rfl (by exact k_4 hF1) ⟨rfl, rfl⟩ ?_
  refine r_aload_n dX11_image_40 rfl ?_
  refine r_getIc (3) dX11_image_41 fgX11_280 rfl (by exact k_4 hF1) (by exact ld_s) ?_
  refine r_ireturn dX11_image_44 rfl rfl ?_
  have o2 : NoR m (stI m1 4 7 ((2 : Int32) + 1)) := ((o1.wd (lo2 := 4) (hi2 := 166) (by omega) (by omega)).stI (by omega) (by omega)).nor (by omega)
  have oW : ∀ (q : Nat → Int32) w, nH q ≤ 6 → 4 < w → Wd q w m1 → Wd q w (stI m1 4 7 ((2 : Int32) + 1)) := fun q w h6 h4 hw => hw.of (fun a h1 h2 j => ld_n (by omega) rfl) h6
  refine k _ (hC.img (fs' := imF f fs 2) (ic' := 3) (m' := stI m1 4 7 ((2 : Int32) + 1)) o1.1 (fun a ha j => ld_n (by omega) ((o1.2 a (by omega)).1 j)) (ld_n (by decide) ((o1.2 4 (by omega)).1 8)) hV (oW f 5 hV.1.1.2 (by omega) (hW.off o1 (by omega) hV.1.1.2)) ld_s (by omega) (fun j hj => ?_)) o2
  by_cases q : j = 2
  · subst q; rw [show imF f fs 2 2 = f from if_pos rfl]; exact ⟨hV, oW f _ hV.1.1.2 (by omega) hW1⟩
  · rw [show imF f fs 2 j = fs j from if_neg q]; have z := hC.2.2.2.1.2.2 j (by omega); exact ⟨z.1, oW _ _ z.1.1.1.2 (by omega) (z.2.off o1 (by omega) z.1.1.1.2)⟩
theorem S_image3 {g : GG} {m : MM} {Q : Out → Prop} {f : Nat → Int32} {fs : Nat → Nat → Int32} {tp : Nat → Int32} {tn : Nat} {pl : Int32} {n1 : Nat} {T1 : Nat → (Nat → Int64) → Nat → Int64} {n2 : Nat} {T2 : Nat → (Nat → Int64) → Nat → Int64} (hC : CI f fs 3 tp tn pl n1 T1 n2 T2 m) (k : Q (.inl (some (.int (-1))), m)) : Cl g 6 0 0 mX11_image [.ref 4] m Q := by
  refine Cl.of rfl (by decide) (Nat.le_of_ble_eq_true rfl) ?_
  show Wp g mX11_image 6 0 0 0 [.ref 4] [] m Q
  have hF := hC.1
  have hV := hC.2.1
  have hW := hC.2.2.1
  refine r_aload_n dX11_image_0 rfl ?_
  refine r_getIc (3) dX11_image_1 fgX11_280 rfl (by exact k_4 hF) (by exact hC.2.2.2.1.1) ?_
  refine r_aload_n dX11_image_4 rfl ?_
  refine r_getRc dX11_image_5 fgX11_16 rfl (by exact k_4 hF) (by exact r_4_1 hF) ?_
  refine r_alen _ dX11_image_8 ⟨Nat.le_of_ble_eq_true rfl, Nat.le_of_ble_eq_true rfl⟩ (by exact k_41 hF) rfl ?_
  refine r_icmp_lt 14 dX11_image_9 rfl (fun hz => absurd hz (by decide)) (fun _ => ?_)
  refine r_iconst (-1) dX11_image_12 rfl ?_
  refine r_ireturn dX11_image_13 rfl rfl ?_
  exact k
theorem S_X11_image {g : GG} {m : MM} {Q : Out → Prop} {f : Nat → Int32} {fs : Nat → Nat → Int32} {ic : Nat} {tp : Nat → Int32} {tn : Nat} {pl : Int32} {n1 : Nat} {T1 : Nat → (Nat → Int64) → Nat → Int64} {n2 : Nat} {T2 : Nat → (Nat → Int64) → Nat → Int64} (hC : CI f fs ic tp tn pl n1 T1 n2 T2 m) (kf : ic = 3 → Q (.inl (some (.int (-1))), m)) (k : ic < 3 → ∀ m', CI f (imF f fs ic) (ic + 1) tp tn pl n1 T1 n2 T2 m' → NoR m m' → Q (.inl (some (.int (nI (ic + 1)))), m')) : Cl g 6 0 0 mX11_image [.ref 4] m Q := by
  have h3 := hC.2.2.2.1.2.1
  rcases ic with _ | _ | _ | _ | ic
  · exact S_image0 hC (k (by omega))
  · exact S_image1 hC (k (by omega))
  · exact S_image2 hC (k (by omega))
  · exact S_image3 hC (kf rfl)
  · omega
theorem S_restore0 {g : GG} {m : MM} {Q : Out → Prop} {f : Nat → Int32} {fs : Nat → Nat → Int32} {tp : Nat → Int32} {tn : Nat} {pl : Int32} {n1 : Nat} {T1 : Nat → (Nat → Int64) → Nat → Int64} {n2 : Nat} {T2 : Nat → (Nat → Int64) → Nat → Int64} (hC : CI f fs 0 tp tn pl n1 T1 n2 T2 m) (k : Q (.inl (some (.int (-1))), m)) : Cl g 6 0 0 mX11_restore [.ref 4] m Q := by
  refine Cl.of rfl (by decide) (Nat.le_of_ble_eq_true rfl) ?_
  show Wp g mX11_restore 6 0 0 0 [.ref 4] [] m Q
  have hF := hC.1
  have hV := hC.2.1
  have hW := hC.2.2.1
  refine r_aload_n dX11_restore_0 rfl ?_
  refine r_getIc (0) dX11_restore_1 fgX11_280 rfl (by exact k_4 hF) (by exact hC.2.2.2.1.1) ?_
  refine r_if_le 19 dX11_restore_4 rfl (fun _ => ?_) (fun hz => absurd hz (by decide))
  refine r_iconst (-1) dX11_restore_19 rfl ?_
  refine r_ireturn dX11_restore_20 rfl rfl ?_
  exact k
theorem S_restore1 {g : GG} {m : MM} {Q : Out → Prop} {f : Nat → Int32} {fs : Nat → Nat → Int32} {tp : Nat → Int32} {tn : Nat} {pl : Int32} {n1 : Nat} {T1 : Nat → (Nat → Int64) → Nat → Int64} {n2 : Nat} {T2 : Nat → (Nat → Int64) → Nat → Int64} (hC : CI f fs 1 tp tn pl n1 T1 n2 T2 m) (k : ∀ m', CI (fs 0) fs 0 tp tn pl n1 T1 n2 T2 m' → NoR m m' → Q (.inl (some (.int 0)), m')) : Cl g 6 0 0 mX11_restore [.ref 4] m Q := by
  refine Cl.of rfl (by decide) (Nat.le_of_ble_eq_true rfl) ?_
  show Wp g mX11_restore 6 0 0 0 [.ref 4] [] m Q
  have hF := hC.1
  have hV := hC.2.1
  have hW := hC.2.2.1
  refine r_aload_n dX11_restore_0 rfl ?_
  refine r_getIc (1) dX11_restore_1 fgX11_280 rfl (by exact k_4 hF) (by exact hC.2.2.2.1.1) ?_
  refine r_if_le 19 dX11_restore_4 rfl (fun hz => absurd hz (by decide)) (fun _ => ?_)
  refine r_aload_n dX11_restore_7 rfl ?_
  refine r_getIc (1) dX11_restore_8 fgX11_280 rfl (by exact k_4 hF) (by exact hC.2.2.2.1.1) ?_
  refine r_aload_n dX11_restore_11 rfl ?_
  refine r_getRc dX11_restore_12 fgX11_16 rfl (by exact k_4 hF) (by exact r_4_1 hF) ?_
  refine r_alen _ dX11_restore_15 ⟨Nat.le_of_ble_eq_true rfl, Nat.le_of_ble_eq_true rfl⟩ (by exact k_41 hF) rfl ?_
  refine r_icmp_le 21 dX11_restore_16 rfl (fun _ => ?_) (fun hz => absurd hz (by decide))
  refine r_aload_n dX11_restore_21 rfl ?_
  refine r_dup dX11_restore_22 rfl ?_
  refine r_getIc (1) dX11_restore_23 fgX11_280 rfl (by exact k_4 hF) (by exact hC.2.2.2.1.1) ?_
  refine r_iconst (1) dX11_restore_26 rfl ?_
  refine r_isub dX11_restore_27 ?_
  refine r_putI dX11_restore_28 (fpX11_280 _ rfl) rfl (by exact k_4 hF) ⟨rfl, rfl⟩ ?_
  have hF1 : Fx (stI m 4 7 ((1 : Int32) - 1)) := Fx_of (m := m) rfl hF
  have hVk := (hC.2.2.2.1.2.2 0 (by omega)).1
  have hWk : Wd (fs 0) 42 (stI m 4 7 ((1 : Int32) - 1)) := (hC.2.2.2.1.2.2 0 (by omega)).2.of (fun a h1 h2 j => ld_n (by omega) rfl) hVk.1.1.2
  refine r_aload_n dX11_restore_31 rfl ?_
  refine r_getRc dX11_restore_32 fgX11_12 rfl (by exact k_4 hF1) (by exact r_4_0 hF1) ?_
  refine r_aload_n dX11_restore_35 rfl ?_
  refine r_getRc dX11_restore_36 fgX11_16 rfl (by exact k_4 hF1) (by exact r_4_1 hF1) ?_
  refine r_aload_n dX11_restore_39 rfl ?_
  refine r_getIc (0) dX11_restore_40 fgX11_280 rfl (by exact k_4 hF1) (by exact ld_s) ?_
  refine r_aaloadc (b := 42) dX11_restore_43 ⟨Nat.le_of_ble_eq_true rfl, Nat.le_of_ble_eq_true rfl⟩ (by exact k_41 hF1) (vin (j := 0) (by omega) (by omega)) (by exact fr hF1 ⟨by decide, by decide, by decide⟩ rfl) ?_
  refine r_callV1 (ci := 10) (d1 := 5) (c1 := 0) (n1 := 0) dX11_restore_44 mvX11_283 rfl ⟨(Nat.le_of_ble_eq_true rfl), rfl⟩ (Nat.le_of_ble_eq_true rfl) (by exact Nat.le_of_ble_eq_true rfl) (by exact k_5 hF1) ?_
  refine S_wcopy0_1 hF1 hVk.1 hWk (by rw [show ldI (stI m 4 7 ((1 : Int32) - 1)) 66 4 = fs 0 31 from hWk.2.2.2.1 4 (by omega)]; exact hVk.2.2.2.1.2.2.2.2.1) (fun i hi => (hVk.2.1 i hi).2.2.2.1) (fun m2 o2 hW2 => ?_)
  have hF2 := Fx_of o2.1 hF1
  have e7 : ldI m2 4 7 = 0 := ((o2.2 4 (by omega)).1 7).trans (ld_s (m := m))
  show Wp g mX11_restore _ _ _ 47 _ [] _ Q
  refine r_aload_n dX11_restore_47 rfl ?_
  refine r_getIc (0) dX11_restore_48 fgX11_280 rfl (by exact k_4 hF2) (by exact e7) ?_
  refine r_ireturn dX11_restore_51 rfl rfl ?_
  have o9 : Off 4 40 m m2 := ((Off.rf (lo := 4) (hi := 40)).stI (by omega) (by omega)).tr (o2.wd (by omega) (by omega))
  refine k _ (hC.img (fs' := fs) (ic' := 0) (m' := m2) o9.1 (fun a ha j => (o9.2 a (by omega)).1 j) (((o2.2 4 (by omega)).1 8).trans (ld_n (by decide) rfl)) hVk hW2 e7 (by omega) (fun j hj => ?_)) (o9.nor (by omega))
  have z := hC.2.2.2.1.2.2 j (by omega); exact ⟨z.1, z.2.off o9 (by omega) z.1.1.1.2⟩
theorem S_restore2 {g : GG} {m : MM} {Q : Out → Prop} {f : Nat → Int32} {fs : Nat → Nat → Int32} {tp : Nat → Int32} {tn : Nat} {pl : Int32} {n1 : Nat} {T1 : Nat → (Nat → Int64) → Nat → Int64} {n2 : Nat} {T2 : Nat → (Nat → Int64) → Nat → Int64} (hC : CI f fs 2 tp tn pl n1 T1 n2 T2 m) (k : ∀ m', CI (fs 1) fs 1 tp tn pl n1 T1 n2 T2 m' → NoR m m' → Q (.inl (some (.int 1)), m')) : Cl g 6 0 0 mX11_restore [.ref 4] m Q := by
  refine Cl.of rfl (by decide) (Nat.le_of_ble_eq_true rfl) ?_
  show Wp g mX11_restore 6 0 0 0 [.ref 4] [] m Q
  have hF := hC.1
  have hV := hC.2.1
  have hW := hC.2.2.1
  refine r_aload_n dX11_restore_0 rfl ?_
  refine r_getIc (2) dX11_restore_1 fgX11_280 rfl (by exact k_4 hF) (by exact hC.2.2.2.1.1) ?_
  refine r_if_le 19 dX11_restore_4 rfl (fun hz => absurd hz (by decide)) (fun _ => ?_)
  refine r_aload_n dX11_restore_7 rfl ?_
  refine r_getIc (2) dX11_restore_8 fgX11_280 rfl (by exact k_4 hF) (by exact hC.2.2.2.1.1) ?_
  refine r_aload_n dX11_restore_11 rfl ?_
  refine r_getRc dX11_restore_12 fgX11_16 rfl (by exact k_4 hF) (by exact r_4_1 hF) ?_
  refine r_alen _ dX11_restore_15 ⟨Nat.le_of_ble_eq_true rfl, Nat.le_of_ble_eq_true rfl⟩ (by exact k_41 hF) rfl ?_
  refine r_icmp_le 21 dX11_restore_16 rfl (fun _ => ?_) (fun hz => absurd hz (by decide))
  refine r_aload_n dX11_restore_21 rfl ?_
  refine r_dup dX11_restore_22 rfl ?_
  refine r_getIc (2) dX11_restore_23 fgX11_280 rfl (by exact k_4 hF) (by exact hC.2.2.2.1.1) ?_
  refine r_iconst (1) dX11_restore_26 rfl ?_
  refine r_isub dX11_restore_27 ?_
  refine r_putI dX11_restore_28 (fpX11_280 _ rfl) rfl (by exact k_4 hF) ⟨rfl, rfl⟩ ?_
  have hF1 : Fx (stI m 4 7 ((2 : Int32) - 1)) := Fx_of (m := m) rfl hF
  have hVk := (hC.2.2.2.1.2.2 1 (by omega)).1
  have hWk : Wd (fs 1) 78 (stI m 4 7 ((2 : Int32) - 1)) := (hC.2.2.2.1.2.2 1 (by omega)).2.of (fun a h1 h2 j => ld_n (by omega) rfl) hVk.1.1.2
  refine r_aload_n dX11_restore_31 rfl ?_
  refine r_getRc dX11_restore_32 fgX11_12 rfl (by exact k_4 hF1) (by exact r_4_0 hF1) ?_
  refine r_aload_n dX11_restore_35 rfl ?_
  refine r_getRc dX11_restore_36 fgX11_16 rfl (by exact k_4 hF1) (by exact r_4_1 hF1) ?_
  refine r_aload_n dX11_restore_39 rfl ?_
  refine r_getIc (1) dX11_restore_40 fgX11_280 rfl (by exact k_4 hF1) (by exact ld_s) ?_
  refine r_aaloadc (b := 78) dX11_restore_43 ⟨Nat.le_of_ble_eq_true rfl, Nat.le_of_ble_eq_true rfl⟩ (by exact k_41 hF1) (vin (j := 1) (by omega) (by omega)) (by exact fr hF1 ⟨by decide, by decide, by decide⟩ rfl) ?_
  refine r_callV1 (ci := 10) (d1 := 5) (c1 := 0) (n1 := 0) dX11_restore_44 mvX11_283 rfl ⟨(Nat.le_of_ble_eq_true rfl), rfl⟩ (Nat.le_of_ble_eq_true rfl) (by exact Nat.le_of_ble_eq_true rfl) (by exact k_5 hF1) ?_
  refine S_wcopy0_2 hF1 hVk.1 hWk (by rw [show ldI (stI m 4 7 ((2 : Int32) - 1)) 102 4 = fs 1 31 from hWk.2.2.2.1 4 (by omega)]; exact hVk.2.2.2.1.2.2.2.2.1) (fun i hi => (hVk.2.1 i hi).2.2.2.1) (fun m2 o2 hW2 => ?_)
  have hF2 := Fx_of o2.1 hF1
  have e7 : ldI m2 4 7 = 1 := ((o2.2 4 (by omega)).1 7).trans (ld_s (m := m))
  show Wp g mX11_restore _ _ _ 47 _ [] _ Q
  refine r_aload_n dX11_restore_47 rfl ?_
  refine r_getIc (1) dX11_restore_48 fgX11_280 rfl (by exact k_4 hF2) (by exact e7) ?_
  refine r_ireturn dX11_restore_51 rfl rfl ?_
  have o9 : Off 4 40 m m2 := ((Off.rf (lo := 4) (hi := 40)).stI (by omega) (by omega)).tr (o2.wd (by omega) (by omega))
  refine k _ (hC.img (fs' := fs) (ic' := 1) (m' := m2) o9.1 (fun a ha j => (o9.2 a (by omega)).1 j) (((o2.2 4 (by omega)).1 8).trans (ld_n (by decide) rfl)) hVk hW2 e7 (by omega) (fun j hj => ?_)) (o9.nor (by omega))
  have z := hC.2.2.2.1.2.2 j (by omega); exact ⟨z.1, z.2.off o9 (by omega) z.1.1.1.2⟩
theorem S_restore3 {g : GG} {m : MM} {Q : Out → Prop} {f : Nat → Int32} {fs : Nat → Nat → Int32} {tp : Nat → Int32} {tn : Nat} {pl : Int32} {n1 : Nat} {T1 : Nat → (Nat → Int64) → Nat → Int64} {n2 : Nat} {T2 : Nat → (Nat → Int64) → Nat → Int64} (hC : CI f fs 3 tp tn pl n1 T1 n2 T2 m) (k : ∀ m', CI (fs 2) fs 2 tp tn pl n1 T1 n2 T2 m' → NoR m m' → Q (.inl (some (.int 2)), m')) : Cl g 6 0 0 mX11_restore [.ref 4] m Q := by
  refine Cl.of rfl (by decide) (Nat.le_of_ble_eq_true rfl) ?_
  show Wp g mX11_restore 6 0 0 0 [.ref 4] [] m Q
  have hF := hC.1
  have hV := hC.2.1
  have hW := hC.2.2.1
  refine r_aload_n dX11_restore_0 rfl ?_
  refine r_getIc (3) dX11_restore_1 fgX11_280 rfl (by exact k_4 hF) (by exact hC.2.2.2.1.1) ?_
  refine r_if_le 19 dX11_restore_4 rfl (fun hz => absurd hz (by decide)) (fun _ => ?_)
  refine r_aload_n dX11_restore_7 rfl ?_
  refine r_getIc (3) dX11_restore_8 fgX11_280 rfl (by exact k_4 hF) (by exact hC.2.2.2.1.1) ?_
  refine r_aload_n dX11_restore_11 rfl ?_
  refine r_getRc dX11_restore_12 fgX11_16 rfl (by exact k_4 hF) (by exact r_4_1 hF) ?_
  refine r_alen _ dX11_restore_15 ⟨Nat.le_of_ble_eq_true rfl, Nat.le_of_ble_eq_true rfl⟩ (by exact k_41 hF) rfl ?_
  refine r_icmp_le 21 dX11_restore_16 rfl (fun _ => ?_) (fun hz => absurd hz (by decide))
  refine r_aload_n dX11_restore_21 rfl ?_
  refine r_dup dX11_restore_22 rfl ?_
  refine r_getIc (3) dX11_restore_23 fgX11_280 rfl (by exact k_4 hF) (by exact hC.2.2.2.1.1) ?_
  refine r_iconst (1) dX11_restore_26 rfl ?_
  refine r_isub dX11_restore_27 ?_
  refine r_putI dX11_restore_28 (fpX11_280 _ rfl) rfl (by exact k_4 hF) ⟨rfl, rfl⟩ ?_
  have hF1 : Fx (stI m 4 7 ((3 : Int32) - 1)) := Fx_of (m := m) rfl hF
  have hVk := (hC.2.2.2.1.2.2 2 (by omega)).1
  have hWk : Wd (fs 2) 114 (stI m 4 7 ((3 : Int32) - 1)) := (hC.2.2.2.1.2.2 2 (by omega)).2.of (fun a h1 h2 j => ld_n (by omega) rfl) hVk.1.1.2
  refine r_aload_n dX11_restore_31 rfl ?_
  refine r_getRc dX11_restore_32 fgX11_12 rfl (by exact k_4 hF1) (by exact r_4_0 hF1) ?_
  refine r_aload_n dX11_restore_35 rfl ?_
  refine r_getRc dX11_restore_36 fgX11_16 rfl (by exact k_4 hF1) (by exact r_4_1 hF1) ?_
  refine r_aload_n dX11_restore_39 rfl ?_
  refine r_getIc (2) dX11_restore_40 fgX11_280 rfl (by exact k_4 hF1) (by exact ld_s) ?_
  refine r_aaloadc (b := 114) dX11_restore_43 ⟨Nat.le_of_ble_eq_true rfl, Nat.le_of_ble_eq_true rfl⟩ (by exact k_41 hF1) (vin (j := 2) (by omega) (by omega)) (by exact fr hF1 ⟨by decide, by decide, by decide⟩ rfl) ?_
  refine r_callV1 (ci := 10) (d1 := 5) (c1 := 0) (n1 := 0) dX11_restore_44 mvX11_283 rfl ⟨(Nat.le_of_ble_eq_true rfl), rfl⟩ (Nat.le_of_ble_eq_true rfl) (by exact Nat.le_of_ble_eq_true rfl) (by exact k_5 hF1) ?_
  refine S_wcopy0_3 hF1 hVk.1 hWk (by rw [show ldI (stI m 4 7 ((3 : Int32) - 1)) 138 4 = fs 2 31 from hWk.2.2.2.1 4 (by omega)]; exact hVk.2.2.2.1.2.2.2.2.1) (fun i hi => (hVk.2.1 i hi).2.2.2.1) (fun m2 o2 hW2 => ?_)
  have hF2 := Fx_of o2.1 hF1
  have e7 : ldI m2 4 7 = 2 := ((o2.2 4 (by omega)).1 7).trans (ld_s (m := m))
  show Wp g mX11_restore _ _ _ 47 _ [] _ Q
  refine r_aload_n dX11_restore_47 rfl ?_
  refine r_getIc (2) dX11_restore_48 fgX11_280 rfl (by exact k_4 hF2) (by exact e7) ?_
  refine r_ireturn dX11_restore_51 rfl rfl ?_
  have o9 : Off 4 40 m m2 := ((Off.rf (lo := 4) (hi := 40)).stI (by omega) (by omega)).tr (o2.wd (by omega) (by omega))
  refine k _ (hC.img (fs' := fs) (ic' := 2) (m' := m2) o9.1 (fun a ha j => (o9.2 a (by omega)).1 j) (((o2.2 4 (by omega)).1 8).trans (ld_n (by decide) rfl)) hVk hW2 e7 (by omega) (fun j hj => ?_)) (o9.nor (by omega))
  have z := hC.2.2.2.1.2.2 j (by omega); exact ⟨z.1, z.2.off o9 (by omega) z.1.1.1.2⟩
theorem S_X11_restore {g : GG} {m : MM} {Q : Out → Prop} {f : Nat → Int32} {fs : Nat → Nat → Int32} {ic : Nat} {tp : Nat → Int32} {tn : Nat} {pl : Int32} {n1 : Nat} {T1 : Nat → (Nat → Int64) → Nat → Int64} {n2 : Nat} {T2 : Nat → (Nat → Int64) → Nat → Int64} (hC : CI f fs ic tp tn pl n1 T1 n2 T2 m) (kf : ic = 0 → Q (.inl (some (.int (-1))), m)) (k : ∀ q, ic = q + 1 → ∀ m', CI (fs q) fs q tp tn pl n1 T1 n2 T2 m' → NoR m m' → Q (.inl (some (.int (nI q))), m')) : Cl g 6 0 0 mX11_restore [.ref 4] m Q := by
  have h3 := hC.2.2.2.1.2.1
  rcases ic with _ | _ | _ | _ | ic
  · exact S_restore0 hC (kf rfl)
  · exact S_restore1 hC (k 0 rfl)
  · exact S_restore2 hC (k 1 rfl)
  · exact S_restore3 hC (k 2 rfl)
  · omega
