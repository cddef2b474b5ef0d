theorem P_law0 {g : GG} {m : MM} (hX : XI m) {x : Int32} : Cl g 59 3 407 mL_law [.ref 4, .int x, .int 0, .ref 283] m (PKi g 32 mX12_law [.ref 167, .int x, .int 0]) := by
  obtain ⟨f, fs, ic, tp, tn, pl, n1, T1, n2, T2, ts, hC, hI, hK⟩ := hX
  have b1 : n1 ≤ 4 := hI.2.2.2.2.2.1.2
  have b2 : n2 ≤ 3 := hI.2.2.2.2.2.2.1.2
  have b6 : tn ≤ 400 := hI.2.2.2.1.2.1
  refine W_law hC.1 ?_
  refine S_law0 hC (fun c1 => ?_) (fun c1 c2 cm c3 c4 => ?_) (fun N c1 c2 c3 e c4 cm c5 c6 => ?_) (fun N c1 c2 c3 r c4 cm c5 c6 => ?_)
  · refine ⟨1, List.mem_of_getElem? (i := 0) rfl, 1, rfl, hC.1, ?_⟩
    refine S_rlaw0 hI (fun r1 rm r2 => ?_) (fun r1 r2 rm r3 => ?_) (fun N2 r1 r2 r3 e2 r4 rm r5 => ?_) (fun N2 r1 r2 r3 r9 r4 rm r5 => ?_)
    · exact ⟨_, rfl, acX hC hK r2 (by decide)⟩
    · exact absurd r1 c1
    · exact absurd (nI_inT r1 r2 (by omega)) c1
    · exact absurd (nI_inT r1 r2 (by omega)) c1
  · have hI1 := hI.noq c3.1 c4
    refine ⟨c3.1, 0, rfl, Fx_of (m := cm) rfl c3.1, ?_⟩
    refine S_rlaw0 (hI1.out _) (fun r1 rm r2 => ?_) (fun r1 r2 rm r3 => ?_) (fun N2 r1 r2 r3 e2 r4 rm r5 => ?_) (fun N2 r1 r2 r3 r9 r4 rm r5 => ?_)
    · exact absurd c1 r1
    · exact ⟨_, rfl, ac0 c3 hK r3⟩
    · omega
    · omega
  · have hI1 := hI.noq c5.1 c6
    refine ⟨c5.1, 0, rfl, Fx_of (m := cm) rfl c5.1, ?_⟩
    refine S_rlaw0 (hI1.out _) (fun r1 rm r2 => ?_) (fun r1 r2 rm r3 => ?_) (fun N2 r1 r2 r3 e2 r4 rm r5 => ?_) (fun N2 r1 r2 r3 r9 r4 rm r5 => ?_)
    · exact absurd (nI_inT c1 c2 (by omega)) r1
    · omega
    · obtain rfl : N2 = N := nIj (r1.symm.trans c1) (by omega) (by omega)
      obtain rfl := Sum.inl.inj (r4.symm.trans c4)
      exact ⟨_, rfl, ac0 c5 hK r5⟩
    · obtain rfl : N2 = N := nIj (r1.symm.trans c1) (by omega) (by omega)
      cases (r4.symm.trans c4)
  · have hI1 := hI.noq c5.1 c6
    refine ⟨c5.1, 0, rfl, Fx_of (m := cm) rfl c5.1, ?_⟩
    refine S_rlaw0 (hI1.out _) (fun r1 rm r2 => ?_) (fun r1 r2 rm r3 => ?_) (fun N2 r1 r2 r3 e2 r4 rm r5 => ?_) (fun N2 r1 r2 r3 r9 r4 rm r5 => ?_)
    · exact absurd (nI_inT c1 c2 (by omega)) r1
    · omega
    · obtain rfl : N2 = N := nIj (r1.symm.trans c1) (by omega) (by omega)
      cases (r4.symm.trans c4)
    · obtain rfl : N2 = N := nIj (r1.symm.trans c1) (by omega) (by omega)
      obtain rfl := Sum.inr.inj (r4.symm.trans c4)
      exact ⟨_, rfl, ac0 c5 (hK.up0 (by omega) c4) r5⟩
theorem P_law1 {g : GG} {m : MM} (hX : XI m) {x : Int32} : Cl g 59 3 407 mL_law [.ref 4, .int x, .int 1, .ref 283] m (PKi g 32 mX12_law [.ref 167, .int x, .int 1]) := by
  obtain ⟨f, fs, ic, tp, tn, pl, n1, T1, n2, T2, ts, hC, hI, hK⟩ := hX
  have b1 : n1 ≤ 4 := hI.2.2.2.2.2.1.2
  have b2 : n2 ≤ 3 := hI.2.2.2.2.2.2.1.2
  have b6 : tn ≤ 400 := hI.2.2.2.1.2.1
  refine W_law hC.1 ?_
  refine S_law1 hC (fun c1 => ?_) (fun c1 c2 cm c3 c4 => ?_) (fun N c1 c2 c3 e c4 cm c5 c6 => ?_) (fun N c1 c2 c3 r c4 cm c5 c6 => ?_)
  · refine ⟨1, List.mem_of_getElem? (i := 0) rfl, 1, rfl, hC.1, ?_⟩
    refine S_rlaw1 hI (fun r1 rm r2 => ?_) (fun r1 r2 rm r3 => ?_) (fun N2 r1 r2 r3 e2 r4 rm r5 => ?_) (fun N2 r1 r2 r3 r9 r4 rm r5 => ?_)
    · exact ⟨_, rfl, acX hC hK r2 (by decide)⟩
    · exact absurd r1 c1
    · exact absurd (nI_inT r1 r2 (by omega)) c1
    · exact absurd (nI_inT r1 r2 (by omega)) c1
  · have hI1 := hI.noq c3.1 c4
    refine ⟨c3.1, 0, rfl, Fx_of (m := cm) rfl c3.1, ?_⟩
    refine S_rlaw1 (hI1.out _) (fun r1 rm r2 => ?_) (fun r1 r2 rm r3 => ?_) (fun N2 r1 r2 r3 e2 r4 rm r5 => ?_) (fun N2 r1 r2 r3 r9 r4 rm r5 => ?_)
    · exact absurd c1 r1
    · exact ⟨_, rfl, ac0 c3 hK r3⟩
    · omega
    · omega
  · have hI1 := hI.noq c5.1 c6
    refine ⟨c5.1, 0, rfl, Fx_of (m := cm) rfl c5.1, ?_⟩
    refine S_rlaw1 (hI1.out _) (fun r1 rm r2 => ?_) (fun r1 r2 rm r3 => ?_) (fun N2 r1 r2 r3 e2 r4 rm r5 => ?_) (fun N2 r1 r2 r3 r9 r4 rm r5 => ?_)
    · exact absurd (nI_inT c1 c2 (by omega)) r1
    · omega
    · obtain rfl : N2 = N := nIj (r1.symm.trans c1) (by omega) (by omega)
      obtain rfl := Sum.inl.inj (r4.symm.trans c4)
      exact ⟨_, rfl, ac0 c5 hK r5⟩
    · obtain rfl : N2 = N := nIj (r1.symm.trans c1) (by omega) (by omega)
      cases (r4.symm.trans c4)
  · have hI1 := hI.noq c5.1 c6
    refine ⟨c5.1, 0, rfl, Fx_of (m := cm) rfl c5.1, ?_⟩
    refine S_rlaw1 (hI1.out _) (fun r1 rm r2 => ?_) (fun r1 r2 rm r3 => ?_) (fun N2 r1 r2 r3 e2 r4 rm r5 => ?_) (fun N2 r1 r2 r3 r9 r4 rm r5 => ?_)
    · exact absurd (nI_inT c1 c2 (by omega)) r1
    · omega
    · obtain rfl : N2 = N := nIj (r1.symm.trans c1) (by omega) (by omega)
      cases (r4.symm.trans c4)
    · obtain rfl : N2 = N := nIj (r1.symm.trans c1) (by omega) (by omega)
      obtain rfl := Sum.inr.inj (r4.symm.trans c4)
      exact ⟨_, rfl, ac0 c5 (hK.up1 b1 c4) r5⟩
