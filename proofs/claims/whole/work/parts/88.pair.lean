/-! PAIRS: the class's answer, then the reference's, from where both stand alike -/
theorem nIj {a b : Nat} (h : nI a = nI b) (ha : a < 1000) (hb : b < 1000) : a = b := (nI_eq (by omega) (by omega)).mp h
theorem nI_rg {x : Int32} {i : Nat} (N : Nat) (e : x = nI i) (h : i ≤ N) (hN : N < 1000) : 0 ≤ x ∧ x ≤ nI N := by
  subst e
  exact ⟨i32_nlt.mp (nI_pos (by omega)), nI_le h (by omega)⟩
theorem nI_inT {x : Int32} {i n : Nat} (e : x = nI i) (h : i ≤ n) (hN : n < 1000) : 0 ≤ x ∧ x ≤ nI n := nI_rg n e h hN
theorem nI_in1 {x : Int32} {i n : Nat} (e : x = nI i) (h : i < n) (hN : n < 1000) : 0 ≤ x ∧ x ≤ nI n - 1 := by
  rw [nI_pr1 (by omega)]
  exact nI_rg _ e (by omega) (by omega)
theorem rt_in {f : Nat → Int32} (hV : Vf f) {x : Int32} {j : Nat} (h : j < nE f) (e : x = nI j) : ¬ f 3 = 0 ∧ -1 ≤ x ∧ x ≤ f 3 - 1 := by
  have b5 : nE f ≤ 20 := hV.1.2.2.2.1.2
  rw [hV.1.2.2.2.1.1]
  refine ⟨fun q => ?_, ?_, (nI_in1 e h (by omega)).2⟩
  · have := nIj (a := nE f) (b := 0) q (by omega) (by omega)
    omega
  · have q := (nI_in1 e h (by omega)).1
    rw [Int32.le_iff_toInt_le] at q ⊢
    have y : (-1 : Int32).toInt = -1 := rfl
    have y0 : (0 : Int32).toInt = 0 := rfl
    omega
theorem rt_ne {x : Int32} {j : Nat} (e : x = nI j) (h : j < 1000) (q : x = -1) : False := by
  have z : x.toInt = (-1 : Int32).toInt := congrArg Int32.toInt q
  rw [e, nI_int j (by omega)] at z
  have y : (-1 : Int32).toInt = -1 := rfl
  omega
def XI (m : MM) : Prop := ∃ (f : Nat → Int32) (fs : Nat → Nat → Int32) (ic : Nat) (tp : Nat → Int32) (tn : Nat) (pl : Int32) (n1 : Nat) (T1 : Nat → TL) (n2 : Nat) (T2 : Nat → TL) (ts : Nat → (Nat → Int32) × Nat), CI f fs ic tp tn pl n1 T1 n2 T2 m ∧ RI f fs ic tp tn pl n1 n2 ts m ∧ TKs ts n1 T1 n2 T2
theorem XI.F {m : MM} (h : XI m) : Fx m := by
  obtain ⟨f, fs, ic, tp, tn, pl, n1, T1, n2, T2, ts, hC, hI, hK⟩ := h
  exact hC.1
def PKi (g : GG) (d : Nat) (ν : MD) (as : List Value) : Out → Prop := fun o => ∃ k, o.1 = .inl (some (.int k)) ∧ Fx o.2 ∧ Cl g d 0 0 ν as o.2 (fun o2 => ∃ b, o2.1 = .inl (some (.int b)) ∧ XI o2.2 ∧ ldI o2.2 167 0 = k ∧ (k = 0 → ldL o2.2 283 0 = b.toInt64))
def PKl (g : GG) (d : Nat) (ν : MD) (as : List Value) : Out → Prop := fun o => ∃ k, o.1 = .inl (some (.int k)) ∧ Fx o.2 ∧ Cl g d 0 0 ν as o.2 (fun o2 => ∃ b, o2.1 = .inl (some (.long b)) ∧ XI o2.2 ∧ ldI o2.2 167 0 = k ∧ (k = 0 → ldL o2.2 283 0 = b))
def PD (g : GG) (d : Nat) (ν : MD) (as : List Value) : Out → Prop := fun o => ∃ v, o.1 = .inl (some (.int v)) ∧ Fx o.2 ∧ Cl g d 0 0 ν as o.2 (fun o2 => o2.1 = .inl (some (.int v)) ∧ XI o2.2)
section Ac
variable {f : Nat → Int32} {fs : Nat → Nat → Int32} {ic : Nat} {tp : Nat → Int32} {tn : Nat} {pl : Int32} {n1 : Nat} {T1 : Nat → TL} {n2 : Nat} {T2 : Nat → TL} {ts : Nat → (Nat → Int32) × Nat} {m m2 : MM} {t : Int32} {v : Int64}
theorem RI.out (h : RI f fs ic tp tn pl n1 n2 ts m) (v : Int64) : RI f fs ic tp tn pl n1 n2 ts (stL m 283 0 v) := h.of (Fx_of (m := m) rfl h.1) (fun z hz => h.2.1 z hz) (fun _ _ _ => rfl)
theorem CI.out (h : CI f fs ic tp tn pl n1 T1 n2 T2 m) (v : Int64) : CI f fs ic tp tn pl n1 T1 n2 T2 (stL m 283 0 v) := h.off ((Off.rf (lo := 283) (hi := 283) (m := m)).stL (by omega) (by omega)) (by omega) (by omega)
theorem acX {A : Prop} (hC : CI f fs ic tp tn pl n1 T1 n2 T2 m) (hK : TKs ts n1 T1 n2 T2) (hJ : RJ f fs ic tp tn pl n1 n2 ts m t m2) (ht : ¬ t = 0) : XI m2 ∧ ldI m2 167 0 = t ∧ (t = 0 → A) := ⟨⟨f, fs, ic, tp, tn, pl, n1, T1, n2, T2, ts, hC.off hJ.2.1 (by omega) (by omega), hJ.1, hK⟩, hJ.2.2, fun h => absurd h ht⟩
theorem ac0 (hC : CI f fs ic tp tn pl n1 T1 n2 T2 m) (hK : TKs ts n1 T1 n2 T2) (hJ : RJ f fs ic tp tn pl n1 n2 ts (stL m 283 0 v) 0 m2) : XI m2 ∧ ldI m2 167 0 = 0 ∧ ((0 : Int32) = 0 → ldL m2 283 0 = v) := ⟨⟨f, fs, ic, tp, tn, pl, n1, T1, n2, T2, ts, (hC.out v).off hJ.2.1 (by omega) (by omega), hJ.1, hK⟩, hJ.2.2, fun _ => ((hJ.2.1.2 283 (by omega)).2 0).trans ((ldL_stL m 283 0 v 283 0).trans (if_pos ⟨rfl, rfl⟩))⟩
theorem acD (hC : CI f fs ic tp tn pl n1 T1 n2 T2 m) (hK : TKs ts n1 T1 n2 T2) (hJ : RJ f fs ic tp tn pl n1 n2 ts m 0 m2) : XI m2 := ⟨f, fs, ic, tp, tn, pl, n1, T1, n2, T2, ts, hC.off hJ.2.1 (by omega) (by omega), hJ.1, hK⟩
theorem NoQ.rf : NoQ m m := fun _ _ _ => ⟨fun _ => rfl, fun _ => rfl⟩
end Ac
theorem wd_un {f : Nat → Int32} {h : Nat} {T : (Nat → Int64) → Nat → Int64} {o u v : Int32} (hu : wdP f h T o u) (hv : wdP f h T o v) : u = v := by
  rcases hu with ⟨u1, u2⟩ | ⟨i, i1, i2, i3, i4⟩
  · rcases hv with ⟨v1, v2⟩ | ⟨j, j1, j2, j3, j4⟩
    · rw [u1, v1]
    · exact absurd j3 (u2 j j1)
  · rcases hv with ⟨v1, v2⟩ | ⟨j, j1, j2, j3, j4⟩
    · exact absurd i3 (v2 i i1)
    · have e : i = j := by
        rcases Nat.lt_trichotomy i j with q | q | q
        · exact absurd i3 (j4 i q)
        · exact q
        · exact absurd j3 (i4 j q)
      rw [i2, j2, e]
theorem P_hull {g : GG} {m : MM} (hX : XI m) {x y : Int32} : Cl g 8 2 12 mL_hull [.ref 4, .int x, .int y, .ref 283] m (PKi g 1 mX12_hull [.ref 167, .int x, .int y]) := by
  obtain ⟨f, fs, ic, tp, tn, pl, n1, T1, n2, T2, ts, hC, hI, hK⟩ := hX
  have hV := hC.2.1
  have b1 : n1 ≤ 4 := hI.2.2.2.2.2.1.2
  have b2 : n2 ≤ 3 := hI.2.2.2.2.2.2.1.2
  have b3 : nH f ≤ 6 := hV.1.1.2
  have b4 : nR f ≤ 60 := hV.1.2.2.1.2
  have b5 : nE f ≤ 20 := hV.1.2.2.2.1.2
  have b6 : tn ≤ 400 := hI.2.2.2.1.2.1
  refine W_hull hC.1 ?_
  refine S_X11_hull hC (fun c1 => ?_) (fun c1 c2 => ?_) (fun c1 c2 cm c3 c4 => ?_)
  · -- kb
    refine ⟨1, List.mem_of_getElem? (i := 0) rfl, 1, rfl, hC.1, ?_⟩
    refine S_X12_hull hV hI (fun r1 rm r2 => ?_) (fun r1 r2 rm r3 => ?_) (fun r1 r2 rm r3 => ?_)
    · exact ⟨_, rfl, acX hC hK r2 (by decide)⟩
    ·
      exact absurd r1 c1
    ·
      exact absurd r1 c1
  · -- kf
    refine ⟨hC.1, 0, rfl, Fx_of (m := m) rfl hC.1, ?_⟩
    refine S_X12_hull hV (hI.out _) (fun r1 rm r2 => ?_) (fun r1 r2 rm r3 => ?_) (fun r1 r2 rm r3 => ?_)
    ·
      exact absurd c1 r1
    ·
      exact ⟨_, rfl, ac0 hC hK r3⟩
    ·
      omega
  · -- k
    have hI1 := hI.noq c3.1 c4.q
    refine ⟨c3.1, 0, rfl, Fx_of (m := cm) rfl c3.1, ?_⟩
    refine S_X12_hull hV (hI1.out _) (fun r1 rm r2 => ?_) (fun r1 r2 rm r3 => ?_) (fun r1 r2 rm r3 => ?_)
    ·
      exact absurd c1 r1
    ·
      omega
    ·
      exact ⟨_, rfl, ac0 c3 hK r3⟩
theorem P_station {g : GG} {m : MM} (hX : XI m) {x s b d : Int32} : Cl g 8 3 18 mL_station [.ref 4, .int x, .int s, .int b, .int d, .ref 283] m (PKi g 2 mX12_station [.ref 167, .int x, .int s, .int b, .int d]) := by
  obtain ⟨f, fs, ic, tp, tn, pl, n1, T1, n2, T2, ts, hC, hI, hK⟩ := hX
  have hV := hC.2.1
  have b1 : n1 ≤ 4 := hI.2.2.2.2.2.1.2
  have b2 : n2 ≤ 3 := hI.2.2.2.2.2.2.1.2
  have b3 : nH f ≤ 6 := hV.1.1.2
  have b4 : nR f ≤ 60 := hV.1.2.2.1.2
  have b5 : nE f ≤ 20 := hV.1.2.2.2.1.2
  have b6 : tn ≤ 400 := hI.2.2.2.1.2.1
  refine W_station hC.1 ?_
  refine S_X11_station hC (fun c1 => ?_) (fun j c1 c2 c3 => ?_) (fun j c1 c2 t c3 c4 c5 => ?_) (fun j c1 c2 t c3 c4 c5 cm c6 c7 => ?_)
  · -- kh
    refine ⟨1, List.mem_of_getElem? (i := 0) rfl, 1, rfl, hC.1, ?_⟩
    refine S_X12_station hV hI (fun r1 rm r2 => ?_) (fun rj r1 r2 r3 rm r4 => ?_) (fun rj r1 r2 rt r3 r4 r5 rm r6 => ?_)
    · exact ⟨_, rfl, acX hC hK r2 (by decide)⟩
    ·
      exact False.elim (nI_spec r1 r2 (by omega) c1)
    ·
      exact False.elim (nI_spec r1 r2 (by omega) c1)
  · -- ks
    have b7 := (hV.2.1 j c2).2.2.2.1
    refine ⟨2, List.mem_of_getElem? (i := 1) rfl, 2, rfl, hC.1, ?_⟩
    refine S_X12_station hV hI (fun r1 rm r2 => ?_) (fun rj r1 r2 r3 rm r4 => ?_) (fun rj r1 r2 rt r3 r4 r5 rm r6 => ?_)
    ·
      exact False.elim (nI_spec c1 c2 (by omega) r1)
    · exact ⟨_, rfl, acX hC hK r4 (by decide)⟩
    ·
      obtain rfl : rj = j := nIj (r1.symm.trans c1) (by omega) (by omega)
      exact False.elim (nI_spec r3 r4 (by omega) c3)
  · -- kb
    have b7 := (hV.2.1 j c2).2.2.2.1
    refine ⟨2, List.mem_of_getElem? (i := 1) rfl, 2, rfl, hC.1, ?_⟩
    refine S_X12_station hV hI (fun r1 rm r2 => ?_) (fun rj r1 r2 r3 rm r4 => ?_) (fun rj r1 r2 rt r3 r4 r5 rm r6 => ?_)
    ·
      exact False.elim (nI_spec c1 c2 (by omega) r1)
    · exact ⟨_, rfl, acX hC hK r4 (by decide)⟩
    ·
      obtain rfl : rj = j := nIj (r1.symm.trans c1) (by omega) (by omega)
      obtain rfl : rt = t := nIj (r3.symm.trans c3) (by omega) (by omega)
      exact absurd r5 c5
  · -- k
    have b7 := (hV.2.1 j c2).2.2.2.1
    have hI1 := hI.noq c6.1 c7.q
    refine ⟨c6.1, 0, rfl, Fx_of (m := cm) rfl c6.1, ?_⟩
    refine S_X12_station hV (hI1.out _) (fun r1 rm r2 => ?_) (fun rj r1 r2 r3 rm r4 => ?_) (fun rj r1 r2 rt r3 r4 r5 rm r6 => ?_)
    ·
      exact False.elim (nI_spec c1 c2 (by omega) r1)
    ·
      obtain rfl : rj = j := nIj (r1.symm.trans c1) (by omega) (by omega)
      exact absurd ⟨(nI_in1 c3 c4 (by omega)), c5⟩ r3
    ·
      obtain rfl : rj = j := nIj (r1.symm.trans c1) (by omega) (by omega)
      obtain rfl : rt = t := nIj (r3.symm.trans c3) (by omega) (by omega)
      exact ⟨_, rfl, ac0 c6 hK r6⟩
theorem P_model {g : GG} {m : MM} (hX : XI m) {x y z : Int32} : Cl g 8 2 12 mL_model [.ref 4, .int x, .int y, .int z, .ref 283] m (PKi g 2 mX12_model [.ref 167, .int x, .int y, .int z]) := by
  obtain ⟨f, fs, ic, tp, tn, pl, n1, T1, n2, T2, ts, hC, hI, hK⟩ := hX
  have hV := hC.2.1
  have b1 : n1 ≤ 4 := hI.2.2.2.2.2.1.2
  have b2 : n2 ≤ 3 := hI.2.2.2.2.2.2.1.2
  have b3 : nH f ≤ 6 := hV.1.1.2
  have b4 : nR f ≤ 60 := hV.1.2.2.1.2
  have b5 : nE f ≤ 20 := hV.1.2.2.2.1.2
  have b6 : tn ≤ 400 := hI.2.2.2.1.2.1
  refine W_model hC.1 ?_
  refine S_X11_model hC (fun c1 => ?_) (fun j c1 c2 c3 => ?_) (fun j c1 c2 c3 i c4 c5 cm c6 c7 => ?_)
  · -- kh
    refine ⟨1, List.mem_of_getElem? (i := 0) rfl, 1, rfl, hC.1, ?_⟩
    refine S_X12_model hV hI (fun r1 rm r2 => ?_) (fun rj r1 r2 r3 rm r4 => ?_) (fun rj r1 r2 r3 ri r4 r5 rm r6 => ?_)
    · exact ⟨_, rfl, acX hC hK r2 (by decide)⟩
    ·
      exact False.elim (nI_spec r1 r2 (by omega) c1)
    ·
      exact False.elim (nI_spec r1 r2 (by omega) c1)
  · -- kb
    refine ⟨2, List.mem_of_getElem? (i := 1) rfl, 2, rfl, hC.1, ?_⟩
    refine S_X12_model hV hI (fun r1 rm r2 => ?_) (fun rj r1 r2 r3 rm r4 => ?_) (fun rj r1 r2 r3 ri r4 r5 rm r6 => ?_)
    ·
      exact False.elim (nI_spec c1 c2 (by omega) r1)
    · exact ⟨_, rfl, acX hC hK r4 (by decide)⟩
    ·
      obtain rfl : rj = j := nIj (r1.symm.trans c1) (by omega) (by omega)
      exact absurd ⟨r3, (nI_rg 5 r5 (by omega) (by omega))⟩ c3
  · -- k
    have hI1 := hI.noq c6.1 c7.q
    refine ⟨c6.1, 0, rfl, Fx_of (m := cm) rfl c6.1, ?_⟩
    refine S_X12_model hV (hI1.out _) (fun r1 rm r2 => ?_) (fun rj r1 r2 r3 rm r4 => ?_) (fun rj r1 r2 r3 ri r4 r5 rm r6 => ?_)
    ·
      exact False.elim (nI_spec c1 c2 (by omega) r1)
    ·
      obtain rfl : rj = j := nIj (r1.symm.trans c1) (by omega) (by omega)
      exact absurd ⟨c3, (nI_rg 5 c5 (by omega) (by omega))⟩ r3
    ·
      obtain rfl : rj = j := nIj (r1.symm.trans c1) (by omega) (by omega)
      obtain rfl : ri = i := nIj (r5.symm.trans c5) (by omega) (by omega)
      exact ⟨_, rfl, ac0 c6 hK r6⟩
theorem P_tank {g : GG} {m : MM} (hX : XI m) {x y : Int32} : Cl g 8 1 6 mL_tank [.ref 4, .int x, .int y, .ref 283] m (PKi g 1 mX12_tank [.ref 167, .int x, .int y]) := by
  obtain ⟨f, fs, ic, tp, tn, pl, n1, T1, n2, T2, ts, hC, hI, hK⟩ := hX
  have hV := hC.2.1
  have b1 : n1 ≤ 4 := hI.2.2.2.2.2.1.2
  have b2 : n2 ≤ 3 := hI.2.2.2.2.2.2.1.2
  have b3 : nH f ≤ 6 := hV.1.1.2
  have b4 : nR f ≤ 60 := hV.1.2.2.1.2
  have b5 : nE f ≤ 20 := hV.1.2.2.2.1.2
  have b6 : tn ≤ 400 := hI.2.2.2.1.2.1
  refine W_tank hC.1 ?_
  refine S_X11_tank hC (fun c1 => ?_) (fun c1 c2 => ?_) (fun c1 c2 cm c3 c4 => ?_)
  · -- kb
    refine ⟨1, List.mem_of_getElem? (i := 0) rfl, 1, rfl, hC.1, ?_⟩
    refine S_X12_tank hV hI (fun r1 rm r2 => ?_) (fun r1 r2 rm r3 => ?_) (fun r1 r2 rm r3 => ?_)
    · exact ⟨_, rfl, acX hC hK r2 (by decide)⟩
    ·
      exact absurd r1 c1
    ·
      exact absurd r1 c1
  · -- kf
    refine ⟨hC.1, 0, rfl, Fx_of (m := m) rfl hC.1, ?_⟩
    refine S_X12_tank hV (hI.out _) (fun r1 rm r2 => ?_) (fun r1 r2 rm r3 => ?_) (fun r1 r2 rm r3 => ?_)
    ·
      exact absurd c1 r1
    ·
      exact ⟨_, rfl, ac0 hC hK r3⟩
    ·
      omega
  · -- k
    have hI1 := hI.noq c3.1 c4.q
    refine ⟨c3.1, 0, rfl, Fx_of (m := cm) rfl c3.1, ?_⟩
    refine S_X12_tank hV (hI1.out _) (fun r1 rm r2 => ?_) (fun r1 r2 rm r3 => ?_) (fun r1 r2 rm r3 => ?_)
    ·
      exact absurd c1 r1
    ·
      omega
    ·
      exact ⟨_, rfl, ac0 c3 hK r3⟩
theorem P_set {g : GG} {m : MM} (hX : XI m) {x y z w : Int32} : Cl g 8 3 18 mL_set [.ref 4, .int x, .int y, .int z, .int w, .ref 283] m (PKi g 2 mX12_set [.ref 167, .int x, .int y, .int z, .int w]) := by
  obtain ⟨f, fs, ic, tp, tn, pl, n1, T1, n2, T2, ts, hC, hI, hK⟩ := hX
  have hV := hC.2.1
  have b1 : n1 ≤ 4 := hI.2.2.2.2.2.1.2
  have b2 : n2 ≤ 3 := hI.2.2.2.2.2.2.1.2
  have b3 : nH f ≤ 6 := hV.1.1.2
  have b4 : nR f ≤ 60 := hV.1.2.2.1.2
  have b5 : nE f ≤ 20 := hV.1.2.2.2.1.2
  have b6 : tn ≤ 400 := hI.2.2.2.1.2.1
  refine W_set hC.1 ?_
  refine S_X11_set hC (fun c1 => ?_) (fun j c1 c2 c3 => ?_) (fun j c1 c2 c3 c4 c5 => ?_) (fun j c1 c2 c3 c4 c5 cm c6 c7 => ?_)
  · -- kh
    refine ⟨1, List.mem_of_getElem? (i := 0) rfl, 1, rfl, hC.1, ?_⟩
    refine S_X12_set hV hI (fun r1 rm r2 => ?_) (fun rj r1 r2 r3 rm r4 => ?_) (fun rj r1 r2 r3 r4 r5 rm r6 => ?_) (fun rj r1 r2 r3 r4 r5 rm r6 => ?_)
    · exact ⟨_, rfl, acX hC hK r2 (by decide)⟩
    ·
      exact False.elim (nI_spec r1 r2 (by omega) c1)
    ·
      exact False.elim (nI_spec r1 r2 (by omega) c1)
    ·
      exact False.elim (nI_spec r1 r2 (by omega) c1)
  · -- kt
    refine ⟨2, List.mem_of_getElem? (i := 1) rfl, 2, rfl, hC.1, ?_⟩
    refine S_X12_set hV hI (fun r1 rm r2 => ?_) (fun rj r1 r2 r3 rm r4 => ?_) (fun rj r1 r2 r3 r4 r5 rm r6 => ?_) (fun rj r1 r2 r3 r4 r5 rm r6 => ?_)
    ·
      exact False.elim (nI_spec c1 c2 (by omega) r1)
    · exact ⟨_, rfl, acX hC hK r4 (by decide)⟩
    ·
      obtain rfl : rj = j := nIj (r1.symm.trans c1) (by omega) (by omega)
      exact absurd ⟨r3, r4⟩ c3
    ·
      obtain rfl : rj = j := nIj (r1.symm.trans c1) (by omega) (by omega)
      exact absurd ⟨r3, r4⟩ c3
  · -- kb
    refine ⟨3, List.mem_of_getElem? (i := 2) rfl, 3, rfl, hC.1, ?_⟩
    refine S_X12_set hV hI (fun r1 rm r2 => ?_) (fun rj r1 r2 r3 rm r4 => ?_) (fun rj r1 r2 r3 r4 r5 rm r6 => ?_) (fun rj r1 r2 r3 r4 r5 rm r6 => ?_)
    ·
      exact False.elim (nI_spec c1 c2 (by omega) r1)
    ·
      obtain rfl : rj = j := nIj (r1.symm.trans c1) (by omega) (by omega)
      exact absurd ⟨c3, c4⟩ r3
    · exact ⟨_, rfl, acX hC hK r6 (by decide)⟩
    ·
      obtain rfl : rj = j := nIj (r1.symm.trans c1) (by omega) (by omega)
      exact absurd r5 c5
  · -- k
    have hI1 := hI.noq c6.1 c7.q
    refine ⟨c6.1, 0, rfl, Fx_of (m := cm) rfl c6.1, ?_⟩
    refine S_X12_set hV (hI1.out _) (fun r1 rm r2 => ?_) (fun rj r1 r2 r3 rm r4 => ?_) (fun rj r1 r2 r3 r4 r5 rm r6 => ?_) (fun rj r1 r2 r3 r4 r5 rm r6 => ?_)
    ·
      exact False.elim (nI_spec c1 c2 (by omega) r1)
    ·
      obtain rfl : rj = j := nIj (r1.symm.trans c1) (by omega) (by omega)
      exact absurd ⟨c3, c4⟩ r3
    ·
      obtain rfl : rj = j := nIj (r1.symm.trans c1) (by omega) (by omega)
      exact absurd c5 r5
    ·
      obtain rfl : rj = j := nIj (r1.symm.trans c1) (by omega) (by omega)
      exact ⟨_, rfl, ac0 c6 hK r6⟩
theorem P_trim {g : GG} {m : MM} (hX : XI m) {x y : Int32} (hx : x = 0 ∨ x = 1) : Cl g 8 1 6 mL_trim [.ref 4, .int x, .int y, .ref 283] m (PKi g 1 mX12_trim [.ref 167, .int x, .int y]) := by
  obtain ⟨f, fs, ic, tp, tn, pl, n1, T1, n2, T2, ts, hC, hI, hK⟩ := hX
  have hV := hC.2.1
  have b1 : n1 ≤ 4 := hI.2.2.2.2.2.1.2
  have b2 : n2 ≤ 3 := hI.2.2.2.2.2.2.1.2
  have b3 : nH f ≤ 6 := hV.1.1.2
  have b4 : nR f ≤ 60 := hV.1.2.2.1.2
  have b5 : nE f ≤ 20 := hV.1.2.2.2.1.2
  have b6 : tn ≤ 400 := hI.2.2.2.1.2.1
  refine W_trim hC.1 ?_
  refine S_X11_trim hC hx (fun c1 => ?_) (fun c1 cm c2 c3 => ?_)
  · -- kb
    refine ⟨1, List.mem_of_getElem? (i := 0) rfl, 1, rfl, hC.1, ?_⟩
    refine S_X12_trim hV hI hx (fun r1 rm r2 => ?_) (fun r1 rm r2 => ?_)
    · exact ⟨_, rfl, acX hC hK r2 (by decide)⟩
    ·
      exact absurd r1 c1
  · -- k
    have hI1 := hI.noq c2.1 c3.q
    refine ⟨c2.1, 0, rfl, Fx_of (m := cm) rfl c2.1, ?_⟩
    refine S_X12_trim hV (hI1.out _) hx (fun r1 rm r2 => ?_) (fun r1 rm r2 => ?_)
    ·
      exact absurd c1 r1
    ·
      exact ⟨_, rfl, ac0 c2 hK r2⟩
theorem P_name {g : GG} {m : MM} (hX : XI m) {x : Int32} : Cl g 8 2 12 mL_name [.ref 4, .int x, .ref 283] m (PKi g 3 mX12_name [.ref 167, .int x]) := by
  obtain ⟨f, fs, ic, tp, tn, pl, n1, T1, n2, T2, ts, hC, hI, hK⟩ := hX
  have hV := hC.2.1
  have b1 : n1 ≤ 4 := hI.2.2.2.2.2.1.2
  have b2 : n2 ≤ 3 := hI.2.2.2.2.2.2.1.2
  have b3 : nH f ≤ 6 := hV.1.1.2
  have b4 : nR f ≤ 60 := hV.1.2.2.1.2
  have b5 : nE f ≤ 20 := hV.1.2.2.2.1.2
  have b6 : tn ≤ 400 := hI.2.2.2.1.2.1
  refine W_name hC.1 ?_
  refine S_X11_name hC (fun c1 => ?_) (fun c1 c2 => ?_) (fun c1 i c2 c3 cm c4 c5 => ?_)
  · -- ke
    refine ⟨1, List.mem_of_getElem? (i := 0) rfl, 1, rfl, hC.1, ?_⟩
    refine S_X12_name hV hI (fun r1 rm r2 => ?_) (fun r1 r2 rm r3 => ?_) (fun r1 ri r2 r3 rm r4 => ?_)
    · exact ⟨_, rfl, acX hC hK r2 (by decide)⟩
    ·
      exact absurd c1 r1
    ·
      exact absurd c1 r1
  · -- kb
    refine ⟨2, List.mem_of_getElem? (i := 1) rfl, 2, rfl, hC.1, ?_⟩
    refine S_X12_name hV hI (fun r1 rm r2 => ?_) (fun r1 r2 rm r3 => ?_) (fun r1 ri r2 r3 rm r4 => ?_)
    ·
      exact absurd r1 c1
    · exact ⟨_, rfl, acX hC hK r3 (by decide)⟩
    ·
      exact absurd (nI_rg 9 r3 (by omega) (by omega)) c2
  · -- k
    have hI1 := hI.noq c4.1 c5.q
    refine ⟨c4.1, 0, rfl, Fx_of (m := cm) rfl c4.1, ?_⟩
    refine S_X12_name hV (hI1.out _) (fun r1 rm r2 => ?_) (fun r1 r2 rm r3 => ?_) (fun r1 ri r2 r3 rm r4 => ?_)
    ·
      exact absurd r1 c1
    ·
      exact absurd (nI_rg 9 c3 (by omega) (by omega)) r2
    ·
      obtain rfl : ri = i := nIj (r3.symm.trans c3) (by omega) (by omega)
      exact ⟨_, rfl, ac0 c4 hK r4⟩
theorem P_pull {g : GG} {m : MM} (hX : XI m) {l x : Int32} : Cl g 8 3 18 mL_pull [.ref 4, .int l, .int x, .ref 283] m (PKl g 36 mX12_pull [.ref 167, .int l, .int x]) := by
  obtain ⟨f, fs, ic, tp, tn, pl, n1, T1, n2, T2, ts, hC, hI, hK⟩ := hX
  have hV := hC.2.1
  have b1 : n1 ≤ 4 := hI.2.2.2.2.2.1.2
  have b2 : n2 ≤ 3 := hI.2.2.2.2.2.2.1.2
  have b3 : nH f ≤ 6 := hV.1.1.2
  have b4 : nR f ≤ 60 := hV.1.2.2.1.2
  have b5 : nE f ≤ 20 := hV.1.2.2.2.1.2
  have b6 : tn ≤ 400 := hI.2.2.2.1.2.1
  refine W_pull hC.1 ?_
  refine S_X11_pull hC (fun c1 => ?_) (fun c1 c2 => ?_) (fun c1 j155 c2 c3 c4 => ?_) (fun c1 j155 c2 c3 i c4 c5 cm c6 c7 => ?_)
  · -- ke
    refine ⟨1, List.mem_of_getElem? (i := 0) rfl, 1, rfl, hC.1, ?_⟩
    refine S_X12_pull hV hI hK (fun r1 rm r2 => ?_) (fun r1 r2 rm r3 => ?_) (fun r1 rj r2 r3 r4 rm r5 => ?_) (fun r1 rj r2 r3 ri r4 r5 rm r6 => ?_)
    · exact ⟨_, rfl, acX hC hK r2 (by decide)⟩
    ·
      exact absurd c1 r1
    ·
      exact absurd c1 r1
    ·
      exact absurd c1 r1
  · -- kl
    refine ⟨2, List.mem_of_getElem? (i := 1) rfl, 2, rfl, hC.1, ?_⟩
    refine S_X12_pull hV hI hK (fun r1 rm r2 => ?_) (fun r1 r2 rm r3 => ?_) (fun r1 rj r2 r3 r4 rm r5 => ?_) (fun r1 rj r2 r3 ri r4 r5 rm r6 => ?_)
    ·
      exact absurd r1 c1
    · exact ⟨_, rfl, acX hC hK r3 (by decide)⟩
    ·
      exact False.elim (nI_spec r2 r3 (by omega) c2)
    ·
      exact False.elim (nI_spec r2 r3 (by omega) c2)
  · -- kb
    refine ⟨3, List.mem_of_getElem? (i := 2) rfl, 3, rfl, hC.1, ?_⟩
    refine S_X12_pull hV hI hK (fun r1 rm r2 => ?_) (fun r1 r2 rm r3 => ?_) (fun r1 rj r2 r3 r4 rm r5 => ?_) (fun r1 rj r2 r3 ri r4 r5 rm r6 => ?_)
    ·
      exact absurd r1 c1
    ·
      exact False.elim (nI_spec c2 c3 (by omega) r2)
    · exact ⟨_, rfl, acX hC hK r5 (by decide)⟩
    ·
      obtain rfl : rj = j155 := nIj (r2.symm.trans c2) (by omega) (by omega)
      exact absurd (nI_rg 4 r5 (by omega) (by omega)) c4
  · -- k
    have hI1 := hI.noq c6.1 c7.q
    refine ⟨c6.1, 0, rfl, Fx_of (m := cm) rfl c6.1, ?_⟩
    refine S_X12_pull hV (hI1.out _) hK (fun r1 rm r2 => ?_) (fun r1 r2 rm r3 => ?_) (fun r1 rj r2 r3 r4 rm r5 => ?_) (fun r1 rj r2 r3 ri r4 r5 rm r6 => ?_)
    ·
      exact absurd r1 c1
    ·
      exact False.elim (nI_spec c2 c3 (by omega) r2)
    ·
      obtain rfl : rj = j155 := nIj (r2.symm.trans c2) (by omega) (by omega)
      exact absurd (nI_rg 4 c5 (by omega) (by omega)) r4
    ·
      obtain rfl : rj = j155 := nIj (r2.symm.trans c2) (by omega) (by omega)
      obtain rfl : ri = i := nIj (r5.symm.trans c5) (by omega) (by omega)
      exact ⟨_, rfl, ac0 c6 hK r6⟩
theorem P_need {g : GG} {m : MM} (hX : XI m) {w y x : Int32} : Cl g 8 3 18 mL_need [.ref 4, .int w, .int y, .int x, .ref 283] m (PKl g 34 mX12_need [.ref 167, .int w, .int y, .int x]) := by
  obtain ⟨f, fs, ic, tp, tn, pl, n1, T1, n2, T2, ts, hC, hI, hK⟩ := hX
  have hV := hC.2.1
  have b1 : n1 ≤ 4 := hI.2.2.2.2.2.1.2
  have b2 : n2 ≤ 3 := hI.2.2.2.2.2.2.1.2
  have b3 : nH f ≤ 6 := hV.1.1.2
  have b4 : nR f ≤ 60 := hV.1.2.2.1.2
  have b5 : nE f ≤ 20 := hV.1.2.2.2.1.2
  have b6 : tn ≤ 400 := hI.2.2.2.1.2.1
  refine W_need hC.1 ?_
  refine S_X11_need hC (fun c1 => ?_) (fun c1 c2 => ?_) (fun c1 j157 c2 c3 c4 => ?_) (fun c1 j157 c2 c3 c4 i c5 c6 cm c7 c8 => ?_)
  · -- ke
    refine ⟨1, List.mem_of_getElem? (i := 0) rfl, 1, rfl, hC.1, ?_⟩
    refine S_X12_need hV hI hK (fun r1 rm r2 => ?_) (fun r1 r2 rm r3 => ?_) (fun r1 rj r2 r3 r4 rm r5 => ?_) (fun r1 rj r2 r3 r4 ri r5 r6 rm r7 => ?_)
    · exact ⟨_, rfl, acX hC hK r2 (by decide)⟩
    ·
      exact absurd c1 r1
    ·
      exact absurd c1 r1
    ·
      exact absurd c1 r1
  · -- kw
    refine ⟨2, List.mem_of_getElem? (i := 1) rfl, 2, rfl, hC.1, ?_⟩
    refine S_X12_need hV hI hK (fun r1 rm r2 => ?_) (fun r1 r2 rm r3 => ?_) (fun r1 rj r2 r3 r4 rm r5 => ?_) (fun r1 rj r2 r3 r4 ri r5 r6 rm r7 => ?_)
    ·
      exact absurd r1 c1
    · exact ⟨_, rfl, acX hC hK r3 (by decide)⟩
    ·
      exact False.elim (nI_spec r2 r3 (by omega) c2)
    ·
      exact False.elim (nI_spec r2 r3 (by omega) c2)
  · -- kb
    refine ⟨3, List.mem_of_getElem? (i := 2) rfl, 3, rfl, hC.1, ?_⟩
    refine S_X12_need hV hI hK (fun r1 rm r2 => ?_) (fun r1 r2 rm r3 => ?_) (fun r1 rj r2 r3 r4 rm r5 => ?_) (fun r1 rj r2 r3 r4 ri r5 r6 rm r7 => ?_)
    ·
      exact absurd r1 c1
    ·
      exact False.elim (nI_spec c2 c3 (by omega) r2)
    · exact ⟨_, rfl, acX hC hK r5 (by decide)⟩
    ·
      obtain rfl : rj = j157 := nIj (r2.symm.trans c2) (by omega) (by omega)
      exact absurd ⟨r4, (nI_rg 3 r6 (by omega) (by omega))⟩ c4
  · -- k
    have hI1 := hI.noq c7.1 c8.q
    refine ⟨c7.1, 0, rfl, Fx_of (m := cm) rfl c7.1, ?_⟩
    refine S_X12_need hV (hI1.out _) hK (fun r1 rm r2 => ?_) (fun r1 r2 rm r3 => ?_) (fun r1 rj r2 r3 r4 rm r5 => ?_) (fun r1 rj r2 r3 r4 ri r5 r6 rm r7 => ?_)
    ·
      exact absurd r1 c1
    ·
      exact False.elim (nI_spec c2 c3 (by omega) r2)
    ·
      obtain rfl : rj = j157 := nIj (r2.symm.trans c2) (by omega) (by omega)
      exact absurd ⟨c4, (nI_rg 3 c6 (by omega) (by omega))⟩ r4
    ·
      obtain rfl : rj = j157 := nIj (r2.symm.trans c2) (by omega) (by omega)
      obtain rfl : ri = i := nIj (r6.symm.trans c6) (by omega) (by omega)
      exact ⟨_, rfl, ac0 c7 hK r7⟩
theorem P_error {g : GG} {m : MM} (hX : XI m) {l w x y : Int32} : Cl g 8 4 24 mL_error [.ref 4, .int l, .int w, .int x, .int y, .ref 283] m (PKl g 37 mX12_error [.ref 167, .int l, .int w, .int x, .int y]) := by
  obtain ⟨f, fs, ic, tp, tn, pl, n1, T1, n2, T2, ts, hC, hI, hK⟩ := hX
  have hV := hC.2.1
  have b1 : n1 ≤ 4 := hI.2.2.2.2.2.1.2
  have b2 : n2 ≤ 3 := hI.2.2.2.2.2.2.1.2
  have b3 : nH f ≤ 6 := hV.1.1.2
  have b4 : nR f ≤ 60 := hV.1.2.2.1.2
  have b5 : nE f ≤ 20 := hV.1.2.2.2.1.2
  have b6 : tn ≤ 400 := hI.2.2.2.1.2.1
  refine W_error hC.1 ?_
  refine S_X11_error hC (fun c1 => ?_) (fun c1 c2 => ?_) (fun c1 j155 c2 c3 c4 => ?_) (fun c1 j155 c2 c3 j157 c4 c5 c6 => ?_) (fun c1 j155 c2 c3 j157 c4 c5 c6 cm c7 c8 => ?_)
  · -- ke
    refine ⟨1, List.mem_of_getElem? (i := 0) rfl, 1, rfl, hC.1, ?_⟩
    refine S_X12_error hV hI hK (fun r1 rm r2 => ?_) (fun r1 r2 rm r3 => ?_) (fun r1 rj r2 r3 ri r4 r5 r6 rm r7 => ?_) (fun r1 rj r2 r3 ri r4 r5 r6 rm r7 => ?_)
    · exact ⟨_, rfl, acX hC hK r2 (by decide)⟩
    ·
      exact absurd c1 r1
    ·
      exact absurd c1 r1
    ·
      exact absurd c1 r1
  · -- kl
    refine ⟨2, List.mem_of_getElem? (i := 1) rfl, 2, rfl, hC.1, ?_⟩
    refine S_X12_error hV hI hK (fun r1 rm r2 => ?_) (fun r1 r2 rm r3 => ?_) (fun r1 rj r2 r3 ri r4 r5 r6 rm r7 => ?_) (fun r1 rj r2 r3 ri r4 r5 r6 rm r7 => ?_)
    ·
      exact absurd r1 c1
    · exact ⟨_, rfl, acX hC hK r3 (by decide)⟩
    ·
      exact False.elim (nI_spec r2 r3 (by omega) c2)
    ·
      exact False.elim (nI_spec r2 r3 (by omega) c2)
  · -- kw
    refine ⟨2, List.mem_of_getElem? (i := 1) rfl, 2, rfl, hC.1, ?_⟩
    refine S_X12_error hV hI hK (fun r1 rm r2 => ?_) (fun r1 r2 rm r3 => ?_) (fun r1 rj r2 r3 ri r4 r5 r6 rm r7 => ?_) (fun r1 rj r2 r3 ri r4 r5 r6 rm r7 => ?_)
    ·
      exact absurd r1 c1
    · exact ⟨_, rfl, acX hC hK r3 (by decide)⟩
    ·
      obtain rfl : rj = j155 := nIj (r2.symm.trans c2) (by omega) (by omega)
      exact False.elim (nI_spec r4 r5 (by omega) c4)
    ·
      obtain rfl : rj = j155 := nIj (r2.symm.trans c2) (by omega) (by omega)
      exact False.elim (nI_spec r4 r5 (by omega) c4)
  · -- kb
    refine ⟨3, List.mem_of_getElem? (i := 2) rfl, 3, rfl, hC.1, ?_⟩
    refine S_X12_error hV hI hK (fun r1 rm r2 => ?_) (fun r1 r2 rm r3 => ?_) (fun r1 rj r2 r3 ri r4 r5 r6 rm r7 => ?_) (fun r1 rj r2 r3 ri r4 r5 r6 rm r7 => ?_)
    ·
      exact absurd r1 c1
    ·
      exact False.elim (r2.elim (fun q => nI_spec c2 c3 (by omega) q) (fun q => nI_spec c4 c5 (by omega) q))
    · exact ⟨_, rfl, acX hC hK r7 (by decide)⟩
    ·
      obtain rfl : rj = j155 := nIj (r2.symm.trans c2) (by omega) (by omega)
      obtain rfl : ri = j157 := nIj (r4.symm.trans c4) (by omega) (by omega)
      exact absurd r6 c6
  · -- k
    have hI1 := hI.noq c7.1 c8.q
    refine ⟨c7.1, 0, rfl, Fx_of (m := cm) rfl c7.1, ?_⟩
    refine S_X12_error hV (hI1.out _) hK (fun r1 rm r2 => ?_) (fun r1 r2 rm r3 => ?_) (fun r1 rj r2 r3 ri r4 r5 r6 rm r7 => ?_) (fun r1 rj r2 r3 ri r4 r5 r6 rm r7 => ?_)
    ·
      exact absurd r1 c1
    ·
      exact False.elim (r2.elim (fun q => nI_spec c2 c3 (by omega) q) (fun q => nI_spec c4 c5 (by omega) q))
    ·
      obtain rfl : rj = j155 := nIj (r2.symm.trans c2) (by omega) (by omega)
      obtain rfl : ri = j157 := nIj (r4.symm.trans c4) (by omega) (by omega)
      exact absurd c6 r6
    ·
      obtain rfl : rj = j155 := nIj (r2.symm.trans c2) (by omega) (by omega)
      obtain rfl : ri = j157 := nIj (r4.symm.trans c4) (by omega) (by omega)
      exact ⟨_, rfl, ac0 c7 hK r7⟩
theorem P_size {g : GG} {m : MM} (hX : XI m) {l w x y : Int32} : Cl g 8 4 24 mL_size [.ref 4, .int l, .int w, .int x, .int y, .ref 283] m (PKi g 37 mX12_size [.ref 167, .int l, .int w, .int x, .int y]) := by
  obtain ⟨f, fs, ic, tp, tn, pl, n1, T1, n2, T2, ts, hC, hI, hK⟩ := hX
  have hV := hC.2.1
  have b1 : n1 ≤ 4 := hI.2.2.2.2.2.1.2
  have b2 : n2 ≤ 3 := hI.2.2.2.2.2.2.1.2
  have b3 : nH f ≤ 6 := hV.1.1.2
  have b4 : nR f ≤ 60 := hV.1.2.2.1.2
  have b5 : nE f ≤ 20 := hV.1.2.2.2.1.2
  have b6 : tn ≤ 400 := hI.2.2.2.1.2.1
  refine W_size hC.1 ?_
  refine S_X11_size hC (fun c1 => ?_) (fun c1 c2 => ?_) (fun c1 j155 c2 c3 c4 => ?_) (fun c1 j155 c2 c3 j157 c4 c5 c6 => ?_) (fun c1 j155 c2 c3 j157 c4 c5 c6 cm c7 c8 => ?_)
  · -- ke
    refine ⟨1, List.mem_of_getElem? (i := 0) rfl, 1, rfl, hC.1, ?_⟩
    refine S_X12_size hV hI hK (fun r1 rm r2 => ?_) (fun r1 r2 rm r3 => ?_) (fun r1 rj r2 r3 ri r4 r5 r6 rm r7 => ?_) (fun r1 rj r2 r3 ri r4 r5 r6 rm r7 => ?_)
    · exact ⟨_, rfl, acX hC hK r2 (by decide)⟩
    ·
      exact absurd c1 r1
    ·
      exact absurd c1 r1
    ·
      exact absurd c1 r1
  · -- kl
    refine ⟨2, List.mem_of_getElem? (i := 1) rfl, 2, rfl, hC.1, ?_⟩
    refine S_X12_size hV hI hK (fun r1 rm r2 => ?_) (fun r1 r2 rm r3 => ?_) (fun r1 rj r2 r3 ri r4 r5 r6 rm r7 => ?_) (fun r1 rj r2 r3 ri r4 r5 r6 rm r7 => ?_)
    ·
      exact absurd r1 c1
    · exact ⟨_, rfl, acX hC hK r3 (by decide)⟩
    ·
      exact False.elim (nI_spec r2 r3 (by omega) c2)
    ·
      exact False.elim (nI_spec r2 r3 (by omega) c2)
  · -- kw
    refine ⟨2, List.mem_of_getElem? (i := 1) rfl, 2, rfl, hC.1, ?_⟩
    refine S_X12_size hV hI hK (fun r1 rm r2 => ?_) (fun r1 r2 rm r3 => ?_) (fun r1 rj r2 r3 ri r4 r5 r6 rm r7 => ?_) (fun r1 rj r2 r3 ri r4 r5 r6 rm r7 => ?_)
    ·
      exact absurd r1 c1
    · exact ⟨_, rfl, acX hC hK r3 (by decide)⟩
    ·
      obtain rfl : rj = j155 := nIj (r2.symm.trans c2) (by omega) (by omega)
      exact False.elim (nI_spec r4 r5 (by omega) c4)
    ·
      obtain rfl : rj = j155 := nIj (r2.symm.trans c2) (by omega) (by omega)
      exact False.elim (nI_spec r4 r5 (by omega) c4)
  · -- kb
    refine ⟨3, List.mem_of_getElem? (i := 2) rfl, 3, rfl, hC.1, ?_⟩
    refine S_X12_size hV hI hK (fun r1 rm r2 => ?_) (fun r1 r2 rm r3 => ?_) (fun r1 rj r2 r3 ri r4 r5 r6 rm r7 => ?_) (fun r1 rj r2 r3 ri r4 r5 r6 rm r7 => ?_)
    ·
      exact absurd r1 c1
    ·
      exact False.elim (r2.elim (fun q => nI_spec c2 c3 (by omega) q) (fun q => nI_spec c4 c5 (by omega) q))
    · exact ⟨_, rfl, acX hC hK r7 (by decide)⟩
    ·
      obtain rfl : rj = j155 := nIj (r2.symm.trans c2) (by omega) (by omega)
      obtain rfl : ri = j157 := nIj (r4.symm.trans c4) (by omega) (by omega)
      exact absurd r6 c6
  · -- k
    have hI1 := hI.noq c7.1 c8.q
    refine ⟨c7.1, 0, rfl, Fx_of (m := cm) rfl c7.1, ?_⟩
    refine S_X12_size hV (hI1.out _) hK (fun r1 rm r2 => ?_) (fun r1 r2 rm r3 => ?_) (fun r1 rj r2 r3 ri r4 r5 r6 rm r7 => ?_) (fun r1 rj r2 r3 ri r4 r5 r6 rm r7 => ?_)
    ·
      exact absurd r1 c1
    ·
      exact False.elim (r2.elim (fun q => nI_spec c2 c3 (by omega) q) (fun q => nI_spec c4 c5 (by omega) q))
    ·
      obtain rfl : rj = j155 := nIj (r2.symm.trans c2) (by omega) (by omega)
      obtain rfl : ri = j157 := nIj (r4.symm.trans c4) (by omega) (by omega)
      exact absurd c6 r6
    ·
      obtain rfl : rj = j155 := nIj (r2.symm.trans c2) (by omega) (by omega)
      obtain rfl : ri = j157 := nIj (r4.symm.trans c4) (by omega) (by omega)
      exact ⟨_, rfl, ac0 c7 hK r7⟩
theorem P_sides {g : GG} {m : MM} (hX : XI m) {l : Int32} : Cl g 8 2 12 mL_sides [.ref 4, .int l, .ref 283] m (PKl g 37 mX12_sides [.ref 167, .int l]) := by
  obtain ⟨f, fs, ic, tp, tn, pl, n1, T1, n2, T2, ts, hC, hI, hK⟩ := hX
  have hV := hC.2.1
  have b1 : n1 ≤ 4 := hI.2.2.2.2.2.1.2
  have b2 : n2 ≤ 3 := hI.2.2.2.2.2.2.1.2
  have b3 : nH f ≤ 6 := hV.1.1.2
  have b4 : nR f ≤ 60 := hV.1.2.2.1.2
  have b5 : nE f ≤ 20 := hV.1.2.2.2.1.2
  have b6 : tn ≤ 400 := hI.2.2.2.1.2.1
  refine W_sides hC.1 ?_
  refine S_X11_sides hC (fun c1 => ?_) (fun c1 c2 => ?_) (fun c1 j155 c2 c3 cm c4 c5 => ?_)
  · -- ke
    refine ⟨1, List.mem_of_getElem? (i := 0) rfl, 1, rfl, hC.1, ?_⟩
    refine S_X12_sides hV hI hK (fun r1 rm r2 => ?_) (fun r1 r2 rm r3 => ?_) (fun r1 rj r2 r3 rm r4 => ?_)
    · exact ⟨_, rfl, acX hC hK r2 (by decide)⟩
    ·
      exact absurd c1 r1
    ·
      exact absurd c1 r1
  · -- kl
    refine ⟨2, List.mem_of_getElem? (i := 1) rfl, 2, rfl, hC.1, ?_⟩
    refine S_X12_sides hV hI hK (fun r1 rm r2 => ?_) (fun r1 r2 rm r3 => ?_) (fun r1 rj r2 r3 rm r4 => ?_)
    ·
      exact absurd r1 c1
    · exact ⟨_, rfl, acX hC hK r3 (by decide)⟩
    ·
      exact False.elim (nI_spec r2 r3 (by omega) c2)
  · -- k
    have hI1 := hI.noq c4.1 c5.q
    refine ⟨c4.1, 0, rfl, Fx_of (m := cm) rfl c4.1, ?_⟩
    refine S_X12_sides hV (hI1.out _) hK (fun r1 rm r2 => ?_) (fun r1 r2 rm r3 => ?_) (fun r1 rj r2 r3 rm r4 => ?_)
    ·
      exact absurd r1 c1
    ·
      exact False.elim (nI_spec c2 c3 (by omega) r2)
    ·
      obtain rfl : rj = j155 := nIj (r2.symm.trans c2) (by omega) (by omega)
      exact ⟨_, rfl, ac0 c4 hK r4⟩
theorem P_widest {g : GG} {m : MM} (hX : XI m) {l x : Int32} : Cl g 8 3 18 mL_widest [.ref 4, .int l, .int x, .ref 283] m (PKi g 37 mX12_widest [.ref 167, .int l, .int x]) := by
  obtain ⟨f, fs, ic, tp, tn, pl, n1, T1, n2, T2, ts, hC, hI, hK⟩ := hX
  have hV := hC.2.1
  have b1 : n1 ≤ 4 := hI.2.2.2.2.2.1.2
  have b2 : n2 ≤ 3 := hI.2.2.2.2.2.2.1.2
  have b3 : nH f ≤ 6 := hV.1.1.2
  have b4 : nR f ≤ 60 := hV.1.2.2.1.2
  have b5 : nE f ≤ 20 := hV.1.2.2.2.1.2
  have b6 : tn ≤ 400 := hI.2.2.2.1.2.1
  refine W_widest hC.1 ?_
  refine S_X11_widest hC (fun c1 => ?_) (fun c1 c2 => ?_) (fun c1 j155 c2 c3 c4 => ?_) (fun c1 j155 c2 c3 c4 v c5 cm c6 c7 => ?_)
  · -- ke
    refine ⟨1, List.mem_of_getElem? (i := 0) rfl, 1, rfl, hC.1, ?_⟩
    refine S_X12_widest hV hI hK (fun r1 rm r2 => ?_) (fun r1 r2 rm r3 => ?_) (fun r1 rj r2 r3 r4 rm r5 => ?_) (fun r1 rj r2 r3 r4 rv r5 rm r6 => ?_)
    · exact ⟨_, rfl, acX hC hK r2 (by decide)⟩
    ·
      exact absurd c1 r1
    ·
      exact absurd c1 r1
    ·
      exact absurd c1 r1
  · -- kl
    refine ⟨2, List.mem_of_getElem? (i := 1) rfl, 2, rfl, hC.1, ?_⟩
    refine S_X12_widest hV hI hK (fun r1 rm r2 => ?_) (fun r1 r2 rm r3 => ?_) (fun r1 rj r2 r3 r4 rm r5 => ?_) (fun r1 rj r2 r3 r4 rv r5 rm r6 => ?_)
    ·
      exact absurd r1 c1
    · exact ⟨_, rfl, acX hC hK r3 (by decide)⟩
    ·
      exact False.elim (nI_spec r2 r3 (by omega) c2)
    ·
      exact False.elim (nI_spec r2 r3 (by omega) c2)
  · -- kb
    refine ⟨3, List.mem_of_getElem? (i := 2) rfl, 3, rfl, hC.1, ?_⟩
    refine S_X12_widest hV hI hK (fun r1 rm r2 => ?_) (fun r1 r2 rm r3 => ?_) (fun r1 rj r2 r3 r4 rm r5 => ?_) (fun r1 rj r2 r3 r4 rv r5 rm r6 => ?_)
    ·
      exact absurd r1 c1
    ·
      exact False.elim (nI_spec c2 c3 (by omega) r2)
    · exact ⟨_, rfl, acX hC hK r5 (by decide)⟩
    ·
      obtain rfl : rj = j155 := nIj (r2.symm.trans c2) (by omega) (by omega)
      exact absurd r4 c4
  · -- k
    have hI1 := hI.noq c6.1 c7.q
    refine ⟨c6.1, 0, rfl, Fx_of (m := cm) rfl c6.1, ?_⟩
    refine S_X12_widest hV (hI1.out _) hK (fun r1 rm r2 => ?_) (fun r1 r2 rm r3 => ?_) (fun r1 rj r2 r3 r4 rm r5 => ?_) (fun r1 rj r2 r3 r4 rv r5 rm r6 => ?_)
    ·
      exact absurd r1 c1
    ·
      exact False.elim (nI_spec c2 c3 (by omega) r2)
    ·
      obtain rfl : rj = j155 := nIj (r2.symm.trans c2) (by omega) (by omega)
      exact absurd c4 r4
    ·
      obtain rfl : rj = j155 := nIj (r2.symm.trans c2) (by omega) (by omega)
      obtain rfl : rv = v := wd_un r5 c5
      exact ⟨_, rfl, ac0 c6 hK r6⟩
theorem P_run {g : GG} {m : MM} (hX : XI m) {p : Int32} : Cl g 8 2 12 mL_run [.ref 4, .int p, .ref 283] m (PKi g 1 mX12_run [.ref 167, .int p]) := by
  obtain ⟨f, fs, ic, tp, tn, pl, n1, T1, n2, T2, ts, hC, hI, hK⟩ := hX
  have hV := hC.2.1
  have b1 : n1 ≤ 4 := hI.2.2.2.2.2.1.2
  have b2 : n2 ≤ 3 := hI.2.2.2.2.2.2.1.2
  have b3 : nH f ≤ 6 := hV.1.1.2
  have b4 : nR f ≤ 60 := hV.1.2.2.1.2
  have b5 : nE f ≤ 20 := hV.1.2.2.2.1.2
  have b6 : tn ≤ 400 := hI.2.2.2.1.2.1
  refine W_run hC.1 ?_
  refine S_X11_run hC (fun c1 => ?_) (fun c1 c2 => ?_) (fun c1 c2 c3 => ?_) (fun c1 c2 c3 cm c4 c5 => ?_)
  · -- ke
    refine ⟨1, List.mem_of_getElem? (i := 0) rfl, 1, rfl, hC.1, ?_⟩
    refine S_X12_run hV hI (fun r1 rm r2 => ?_) (fun r1 r2 rm r3 => ?_) (fun r1 r2 r3 rm r4 => ?_) (fun r1 r2 r3 rm r4 => ?_)
    · exact ⟨_, rfl, acX hC hK r2 (by decide)⟩
    ·
      exact absurd c1 r1
    ·
      exact absurd c1 r1
    ·
      exact absurd c1 r1
  · -- kb
    refine ⟨2, List.mem_of_getElem? (i := 1) rfl, 2, rfl, hC.1, ?_⟩
    refine S_X12_run hV hI (fun r1 rm r2 => ?_) (fun r1 r2 rm r3 => ?_) (fun r1 r2 r3 rm r4 => ?_) (fun r1 r2 r3 rm r4 => ?_)
    ·
      exact absurd r1 c1
    · exact ⟨_, rfl, acX hC hK r3 (by decide)⟩
    ·
      exact absurd r2 c2
    ·
      exact absurd r2 c2
  · -- kf
    refine ⟨hC.1, 0, rfl, Fx_of (m := m) rfl hC.1, ?_⟩
    refine S_X12_run hV (hI.out _) (fun r1 rm r2 => ?_) (fun r1 r2 rm r3 => ?_) (fun r1 r2 r3 rm r4 => ?_) (fun r1 r2 r3 rm r4 => ?_)
    ·
      exact absurd r1 c1
    ·
      exact absurd c2 r2
    ·
      exact ⟨_, rfl, ac0 hC hK r4⟩
    ·
      omega
  · -- k
    have hI1 := hI.noq c4.1 c5.q
    refine ⟨c4.1, 0, rfl, Fx_of (m := cm) rfl c4.1, ?_⟩
    refine S_X12_run hV (hI1.out _) (fun r1 rm r2 => ?_) (fun r1 r2 rm r3 => ?_) (fun r1 r2 r3 rm r4 => ?_) (fun r1 r2 r3 rm r4 => ?_)
    ·
      exact absurd r1 c1
    ·
      exact absurd c2 r2
    ·
      omega
    ·
      exact ⟨_, rfl, ac0 c4 hK r4⟩
theorem P_tow {g : GG} {m : MM} (hX : XI m) {l x : Int32} : Cl g 8 3 18 mL_tow [.ref 4, .int l, .int x, .ref 283] m (PKi g 36 mX12_tow [.ref 167, .int l, .int x]) := by
  obtain ⟨f, fs, ic, tp, tn, pl, n1, T1, n2, T2, ts, hC, hI, hK⟩ := hX
  have hV := hC.2.1
  have b1 : n1 ≤ 4 := hI.2.2.2.2.2.1.2
  have b2 : n2 ≤ 3 := hI.2.2.2.2.2.2.1.2
  have b3 : nH f ≤ 6 := hV.1.1.2
  have b4 : nR f ≤ 60 := hV.1.2.2.1.2
  have b5 : nE f ≤ 20 := hV.1.2.2.2.1.2
  have b6 : tn ≤ 400 := hI.2.2.2.1.2.1
  refine W_tow hC.1 ?_
  refine S_X11_tow hC (fun c1 => ?_) (fun c1 c2 => ?_) (fun c1 j155 c2 c3 c4 => ?_) (fun c1 j155 c2 c3 c4 c5 => ?_) (fun c1 j155 c2 c3 c4 c5 cm c6 c7 => ?_)
  · -- ke
    refine ⟨1, List.mem_of_getElem? (i := 0) rfl, 1, rfl, hC.1, ?_⟩
    refine S_X12_tow hV hI hK (fun r1 rm r2 => ?_) (fun r1 r2 rm r3 => ?_) (fun r1 rj r2 r3 r4 rm r5 => ?_) (fun r1 rj r2 r3 r4 r5 rm r6 => ?_) (fun r1 rj r2 r3 r4 r5 rm r6 => ?_)
    · exact ⟨_, rfl, acX hC hK r2 (by decide)⟩
    ·
      exact absurd c1 r1
    ·
      exact absurd c1 r1
    ·
      exact absurd c1 r1
    ·
      exact absurd c1 r1
  · -- kl
    refine ⟨2, List.mem_of_getElem? (i := 1) rfl, 2, rfl, hC.1, ?_⟩
    refine S_X12_tow hV hI hK (fun r1 rm r2 => ?_) (fun r1 r2 rm r3 => ?_) (fun r1 rj r2 r3 r4 rm r5 => ?_) (fun r1 rj r2 r3 r4 r5 rm r6 => ?_) (fun r1 rj r2 r3 r4 r5 rm r6 => ?_)
    ·
      exact absurd r1 c1
    · exact ⟨_, rfl, acX hC hK r3 (by decide)⟩
    ·
      exact False.elim (nI_spec r2 r3 (by omega) c2)
    ·
      exact False.elim (nI_spec r2 r3 (by omega) c2)
    ·
      exact False.elim (nI_spec r2 r3 (by omega) c2)
  · -- kb
    refine ⟨3, List.mem_of_getElem? (i := 2) rfl, 3, rfl, hC.1, ?_⟩
    refine S_X12_tow hV hI hK (fun r1 rm r2 => ?_) (fun r1 r2 rm r3 => ?_) (fun r1 rj r2 r3 r4 rm r5 => ?_) (fun r1 rj r2 r3 r4 r5 rm r6 => ?_) (fun r1 rj r2 r3 r4 r5 rm r6 => ?_)
    ·
      exact absurd r1 c1
    ·
      exact False.elim (nI_spec c2 c3 (by omega) r2)
    · exact ⟨_, rfl, acX hC hK r5 (by decide)⟩
    ·
      obtain rfl : rj = j155 := nIj (r2.symm.trans c2) (by omega) (by omega)
      exact absurd r4 c4
    ·
      obtain rfl : rj = j155 := nIj (r2.symm.trans c2) (by omega) (by omega)
      exact absurd r4 c4
  · -- kf
    refine ⟨hC.1, 0, rfl, Fx_of (m := m) rfl hC.1, ?_⟩
    refine S_X12_tow hV (hI.out _) hK (fun r1 rm r2 => ?_) (fun r1 r2 rm r3 => ?_) (fun r1 rj r2 r3 r4 rm r5 => ?_) (fun r1 rj r2 r3 r4 r5 rm r6 => ?_) (fun r1 rj r2 r3 r4 r5 rm r6 => ?_)
    ·
      exact absurd r1 c1
    ·
      exact False.elim (nI_spec c2 c3 (by omega) r2)
    ·
      obtain rfl : rj = j155 := nIj (r2.symm.trans c2) (by omega) (by omega)
      exact absurd c4 r4
    ·
      obtain rfl : rj = j155 := nIj (r2.symm.trans c2) (by omega) (by omega)
      exact ⟨_, rfl, ac0 hC hK r6⟩
    ·
      obtain rfl : rj = j155 := nIj (r2.symm.trans c2) (by omega) (by omega)
      omega
  · -- k
    have hI1 := hI.noq c6.1 c7.q
    refine ⟨c6.1, 0, rfl, Fx_of (m := cm) rfl c6.1, ?_⟩
    refine S_X12_tow hV (hI1.out _) hK (fun r1 rm r2 => ?_) (fun r1 r2 rm r3 => ?_) (fun r1 rj r2 r3 r4 rm r5 => ?_) (fun r1 rj r2 r3 r4 r5 rm r6 => ?_) (fun r1 rj r2 r3 r4 r5 rm r6 => ?_)
    ·
      exact absurd r1 c1
    ·
      exact False.elim (nI_spec c2 c3 (by omega) r2)
    ·
      obtain rfl : rj = j155 := nIj (r2.symm.trans c2) (by omega) (by omega)
      exact absurd c4 r4
    ·
      obtain rfl : rj = j155 := nIj (r2.symm.trans c2) (by omega) (by omega)
      omega
    ·
      obtain rfl : rj = j155 := nIj (r2.symm.trans c2) (by omega) (by omega)
      exact ⟨_, rfl, ac0 c6 hK r6⟩
theorem P_ran {g : GG} {m : MM} (hX : XI m) {x y : Int32} : Cl g 8 1 6 mL_ran [.ref 4, .int x, .int y, .ref 283] m (PKi g 1 mX12_ran [.ref 167, .int x, .int y]) := by
  obtain ⟨f, fs, ic, tp, tn, pl, n1, T1, n2, T2, ts, hC, hI, hK⟩ := hX
  have hV := hC.2.1
  have b1 : n1 ≤ 4 := hI.2.2.2.2.2.1.2
  have b2 : n2 ≤ 3 := hI.2.2.2.2.2.2.1.2
  have b3 : nH f ≤ 6 := hV.1.1.2
  have b4 : nR f ≤ 60 := hV.1.2.2.1.2
  have b5 : nE f ≤ 20 := hV.1.2.2.2.1.2
  have b6 : tn ≤ 400 := hI.2.2.2.1.2.1
  refine W_ran hC.1 ?_
  refine S_X11_ran hC (fun c1 => ?_) (fun c1 c2 => ?_) (fun r c1 c2 i c3 c4 => ?_)
  · -- kh
    refine ⟨1, List.mem_of_getElem? (i := 0) rfl, 1, rfl, hC.1, ?_⟩
    refine S_X12_ran hV hI (fun r1 rm r2 => ?_) (fun r1 r2 rm r3 => ?_) (fun rr r1 r2 ri r3 r4 rm r5 => ?_)
    · exact ⟨_, rfl, acX hC hK r2 (by decide)⟩
    ·
      exact absurd r1 c1
    ·
      exact absurd (nI_in1 r2 r1 (by omega)) c1
  · -- kb
    refine ⟨2, List.mem_of_getElem? (i := 1) rfl, 2, rfl, hC.1, ?_⟩
    refine S_X12_ran hV hI (fun r1 rm r2 => ?_) (fun r1 r2 rm r3 => ?_) (fun rr r1 r2 ri r3 r4 rm r5 => ?_)
    ·
      exact absurd c1 r1
    · exact ⟨_, rfl, acX hC hK r3 (by decide)⟩
    ·
      exact absurd (nI_rg 6 r4 (by omega) (by omega)) c2
  · -- k
    refine ⟨hC.1, 0, rfl, Fx_of (m := m) rfl hC.1, ?_⟩
    refine S_X12_ran hV (hI.out _) (fun r1 rm r2 => ?_) (fun r1 r2 rm r3 => ?_) (fun rr r1 r2 ri r3 r4 rm r5 => ?_)
    ·
      exact absurd (nI_in1 c2 c1 (by omega)) r1
    ·
      exact absurd (nI_rg 6 c4 (by omega) (by omega)) r2
    ·
      obtain rfl : rr = r := nIj (r2.symm.trans c2) (by omega) (by omega)
      obtain rfl : ri = i := nIj (r4.symm.trans c4) (by omega) (by omega)
      exact ⟨_, rfl, ac0 hC hK r5⟩
theorem P_wire {g : GG} {m : MM} (hX : XI m) : Cl g 8 1 6 mL_wire [.ref 4, .ref 283] m (PKl g 1 mX12_wire [.ref 167]) := by
  obtain ⟨f, fs, ic, tp, tn, pl, n1, T1, n2, T2, ts, hC, hI, hK⟩ := hX
  have hV := hC.2.1
  have b1 : n1 ≤ 4 := hI.2.2.2.2.2.1.2
  have b2 : n2 ≤ 3 := hI.2.2.2.2.2.2.1.2
  have b3 : nH f ≤ 6 := hV.1.1.2
  have b4 : nR f ≤ 60 := hV.1.2.2.1.2
  have b5 : nE f ≤ 20 := hV.1.2.2.2.1.2
  have b6 : tn ≤ 400 := hI.2.2.2.1.2.1
  refine W_wire hC.1 ?_
  refine S_X11_wire hC (fun c1 => ?_) (fun c1 cm c2 c3 => ?_)
  · -- ke
    refine ⟨1, List.mem_of_getElem? (i := 0) rfl, 1, rfl, hC.1, ?_⟩
    refine S_X12_wire hV hI (fun r1 rm r2 => ?_) (fun r1 rm r2 => ?_)
    · exact ⟨_, rfl, acX hC hK r2 (by decide)⟩
    ·
      exact absurd c1 r1
  · -- k
    have hI1 := hI.noq c2.1 c3.q
    refine ⟨c2.1, 0, rfl, Fx_of (m := cm) rfl c2.1, ?_⟩
    refine S_X12_wire hV (hI1.out _) (fun r1 rm r2 => ?_) (fun r1 rm r2 => ?_)
    ·
      exact absurd r1 c1
    ·
      exact ⟨_, rfl, ac0 c2 hK r2⟩
theorem P_fits {g : GG} {m : MM} (hX : XI m) {x : Int32} : Cl g 8 1 6 mL_fits [.ref 4, .int x, .ref 283] m (PKi g 38 mX12_fits [.ref 167, .int x]) := by
  obtain ⟨f, fs, ic, tp, tn, pl, n1, T1, n2, T2, ts, hC, hI, hK⟩ := hX
  have hV := hC.2.1
  have b1 : n1 ≤ 4 := hI.2.2.2.2.2.1.2
  have b2 : n2 ≤ 3 := hI.2.2.2.2.2.2.1.2
  have b3 : nH f ≤ 6 := hV.1.1.2
  have b4 : nR f ≤ 60 := hV.1.2.2.1.2
  have b5 : nE f ≤ 20 := hV.1.2.2.2.1.2
  have b6 : tn ≤ 400 := hI.2.2.2.1.2.1
  refine W_fits hC.1 ?_
  refine S_X11_fits hC (fun c1 => ?_) (fun c1 cm c2 c3 => ?_)
  · -- kb
    refine ⟨1, List.mem_of_getElem? (i := 0) rfl, 1, rfl, hC.1, ?_⟩
    refine S_X12_fits hV hI hK (fun r1 rm r2 => ?_) (fun r1 rm r2 => ?_)
    · exact ⟨_, rfl, acX hC hK r2 (by decide)⟩
    ·
      exact absurd r1 c1
  · -- k
    have hI1 := hI.noq c2.1 c3.q
    refine ⟨c2.1, 0, rfl, Fx_of (m := cm) rfl c2.1, ?_⟩
    refine S_X12_fits hV (hI1.out _) hK (fun r1 rm r2 => ?_) (fun r1 rm r2 => ?_)
    ·
      exact absurd c1 r1
    ·
      exact ⟨_, rfl, ac0 c2 hK r2⟩
theorem P_telling {g : GG} {m : MM} (hX : XI m) {x : Int32} : Cl g 8 2 12 mL_telling [.ref 4, .int x, .ref 283] m (PKi g 38 mX12_telling [.ref 167, .int x]) := by
  obtain ⟨f, fs, ic, tp, tn, pl, n1, T1, n2, T2, ts, hC, hI, hK⟩ := hX
  have hV := hC.2.1
  have b1 : n1 ≤ 4 := hI.2.2.2.2.2.1.2
  have b2 : n2 ≤ 3 := hI.2.2.2.2.2.2.1.2
  have b3 : nH f ≤ 6 := hV.1.1.2
  have b4 : nR f ≤ 60 := hV.1.2.2.1.2
  have b5 : nE f ≤ 20 := hV.1.2.2.2.1.2
  have b6 : tn ≤ 400 := hI.2.2.2.1.2.1
  refine W_telling hC.1 ?_
  refine S_X11_telling hC (fun c1 => ?_) (fun c1 c2 => ?_) (fun c1 c2 cm c3 c4 => ?_)
  · -- ke
    refine ⟨1, List.mem_of_getElem? (i := 0) rfl, 1, rfl, hC.1, ?_⟩
    refine S_X12_telling hV hI hK (fun r1 rm r2 => ?_) (fun r1 r2 rm r3 => ?_) (fun r1 r2 rm r3 => ?_)
    · exact ⟨_, rfl, acX hC hK r2 (by decide)⟩
    ·
      exact absurd c1 r1
    ·
      exact absurd c1 r1
  · -- kb
    refine ⟨2, List.mem_of_getElem? (i := 1) rfl, 2, rfl, hC.1, ?_⟩
    refine S_X12_telling hV hI hK (fun r1 rm r2 => ?_) (fun r1 r2 rm r3 => ?_) (fun r1 r2 rm r3 => ?_)
    ·
      exact absurd r1 c1
    · exact ⟨_, rfl, acX hC hK r3 (by decide)⟩
    ·
      exact absurd r2 c2
  · -- k
    have hI1 := hI.noq c3.1 c4.q
    refine ⟨c3.1, 0, rfl, Fx_of (m := cm) rfl c3.1, ?_⟩
    refine S_X12_telling hV (hI1.out _) hK (fun r1 rm r2 => ?_) (fun r1 r2 rm r3 => ?_) (fun r1 r2 rm r3 => ?_)
    ·
      exact absurd r1 c1
    ·
      exact absurd c2 r2
    ·
      exact ⟨_, rfl, ac0 c3 hK r3⟩
theorem P_earlier {g : GG} {m : MM} (hX : XI m) {x y : Int32} : Cl g 8 1 6 mL_earlier [.ref 4, .int x, .int y, .ref 283] m (PKi g 1 mX12_earlier [.ref 167, .int x, .int y]) := by
  obtain ⟨f, fs, ic, tp, tn, pl, n1, T1, n2, T2, ts, hC, hI, hK⟩ := hX
  have hV := hC.2.1
  have b1 : n1 ≤ 4 := hI.2.2.2.2.2.1.2
  have b2 : n2 ≤ 3 := hI.2.2.2.2.2.2.1.2
  have b3 : nH f ≤ 6 := hV.1.1.2
  have b4 : nR f ≤ 60 := hV.1.2.2.1.2
  have b5 : nE f ≤ 20 := hV.1.2.2.2.1.2
  have b6 : tn ≤ 400 := hI.2.2.2.1.2.1
  refine W_earlier hC.1 ?_
  refine S_X11_earlier hC (fun c1 => ?_) (fun c1 c2 => ?_) (fun c1 c2 cm c3 c4 => ?_)
  · -- kb
    refine ⟨1, List.mem_of_getElem? (i := 0) rfl, 1, rfl, hC.1, ?_⟩
    refine S_X12_earlier hV hI (fun r1 rm r2 => ?_) (fun r1 r2 rm r3 => ?_) (fun r1 r2 rm r3 => ?_)
    · exact ⟨_, rfl, acX hC hK r2 (by decide)⟩
    ·
      exact absurd r1 c1
    ·
      exact absurd r1 c1
  · -- kf
    refine ⟨hC.1, 0, rfl, Fx_of (m := m) rfl hC.1, ?_⟩
    refine S_X12_earlier hV (hI.out _) (fun r1 rm r2 => ?_) (fun r1 r2 rm r3 => ?_) (fun r1 r2 rm r3 => ?_)
    ·
      exact absurd c1 r1
    ·
      exact ⟨_, rfl, ac0 hC hK r3⟩
    ·
      omega
  · -- k
    have hI1 := hI.noq c3.1 c4.q
    refine ⟨c3.1, 0, rfl, Fx_of (m := cm) rfl c3.1, ?_⟩
    refine S_X12_earlier hV (hI1.out _) (fun r1 rm r2 => ?_) (fun r1 r2 rm r3 => ?_) (fun r1 r2 rm r3 => ?_)
    ·
      exact absurd c1 r1
    ·
      omega
    ·
      exact ⟨_, rfl, ac0 c3 hK r3⟩
theorem P_ratio {g : GG} {m : MM} (hX : XI m) {x : Int32} : Cl g 7 1 6 mL_ratio [.ref 4, .int x, .ref 283] m (PKi g 3 mX12_ratio [.ref 167, .int x]) := by
  obtain ⟨f, fs, ic, tp, tn, pl, n1, T1, n2, T2, ts, hC, hI, hK⟩ := hX
  have hV := hC.2.1
  have b1 : n1 ≤ 4 := hI.2.2.2.2.2.1.2
  have b2 : n2 ≤ 3 := hI.2.2.2.2.2.2.1.2
  have b3 : nH f ≤ 6 := hV.1.1.2
  have b4 : nR f ≤ 60 := hV.1.2.2.1.2
  have b5 : nE f ≤ 20 := hV.1.2.2.2.1.2
  have b6 : tn ≤ 400 := hI.2.2.2.1.2.1
  refine W_ratio hC.1 ?_
  obtain ⟨w0, e0⟩ := Mid_ex (rtS f) (nE f)
  refine S_X11_ratio hC (fun c1 => ?_) (fun c1 c2 v c3 => ?_) (fun j c1 c2 => ?_)
  · -- kh
    refine ⟨1, List.mem_of_getElem? (i := 0) rfl, 1, rfl, hC.1, ?_⟩
    refine S_X12_ratio hV hI e0 (fun r1 rm r2 => ?_) (fun r1 r2 rm r3 => ?_) (fun rj r1 r2 rm r3 => ?_)
    · exact ⟨_, rfl, acX hC hK r2 (by decide)⟩
    ·
      exact absurd r1 c1
    ·
      exact absurd (rt_in hV r1 r2) c1
  · -- km
    refine ⟨hC.1, 0, rfl, Fx_of (m := m) rfl hC.1, ?_⟩
    refine S_X12_ratio hV (hI.out _) c3 (fun r1 rm r2 => ?_) (fun r1 r2 rm r3 => ?_) (fun rj r1 r2 rm r3 => ?_)
    ·
      exact absurd c1 r1
    ·
      exact ⟨_, rfl, ac0 hC hK r3⟩
    ·
      exact (rt_ne r2 (by omega) c2).elim
  · -- k
    refine ⟨hC.1, 0, rfl, Fx_of (m := m) rfl hC.1, ?_⟩
    refine S_X12_ratio hV (hI.out _) e0 (fun r1 rm r2 => ?_) (fun r1 r2 rm r3 => ?_) (fun rj r1 r2 rm r3 => ?_)
    ·
      exact absurd (rt_in hV c1 c2) r1
    ·
      exact (rt_ne c2 (by omega) r2).elim
    ·
      obtain rfl : rj = j := nIj (r2.symm.trans c2) (by omega) (by omega)
      exact ⟨_, rfl, ac0 hC hK r3⟩
theorem P_strange {g : GG} {m : MM} (hX : XI m) {x : Int32} : Cl g 8 1 6 mL_strange [.ref 4, .int x, .ref 283] m (PKi g 4 mX12_strange [.ref 167, .int x]) := by
  obtain ⟨f, fs, ic, tp, tn, pl, n1, T1, n2, T2, ts, hC, hI, hK⟩ := hX
  have hV := hC.2.1
  have b1 : n1 ≤ 4 := hI.2.2.2.2.2.1.2
  have b2 : n2 ≤ 3 := hI.2.2.2.2.2.2.1.2
  have b3 : nH f ≤ 6 := hV.1.1.2
  have b4 : nR f ≤ 60 := hV.1.2.2.1.2
  have b5 : nE f ≤ 20 := hV.1.2.2.2.1.2
  have b6 : tn ≤ 400 := hI.2.2.2.1.2.1
  refine W_strange hC.1 ?_
  obtain ⟨w0, e0⟩ := Mid_ex (rtS f) (nE f)
  refine S_X11_strange hC (fun c1 => ?_) (fun c1 v c2 => ?_)
  · -- kb
    refine ⟨1, List.mem_of_getElem? (i := 0) rfl, 1, rfl, hC.1, ?_⟩
    refine S_X12_strange hV hI e0 (fun r1 rm r2 => ?_) (fun r1 rm r2 => ?_)
    · exact ⟨_, rfl, acX hC hK r2 (by decide)⟩
    ·
      exact absurd r1 c1
  · -- k
    refine ⟨hC.1, 0, rfl, Fx_of (m := m) rfl hC.1, ?_⟩
    refine S_X12_strange hV (hI.out _) c2 (fun r1 rm r2 => ?_) (fun r1 rm r2 => ?_)
    ·
      exact absurd c1 r1
    ·
      exact ⟨_, rfl, ac0 hC hK r2⟩
theorem P_span {g : GG} {m : MM} (hX : XI m) {x y : Int32} : Cl g 8 1 6 mL_span [.ref 4, .int x, .int y, .ref 283] m (PKl g 4 mX12_span [.ref 167, .int x, .int y]) := by
  obtain ⟨f, fs, ic, tp, tn, pl, n1, T1, n2, T2, ts, hC, hI, hK⟩ := hX
  have hV := hC.2.1
  have b1 : n1 ≤ 4 := hI.2.2.2.2.2.1.2
  have b2 : n2 ≤ 3 := hI.2.2.2.2.2.2.1.2
  have b3 : nH f ≤ 6 := hV.1.1.2
  have b4 : nR f ≤ 60 := hV.1.2.2.1.2
  have b5 : nE f ≤ 20 := hV.1.2.2.2.1.2
  have b6 : tn ≤ 400 := hI.2.2.2.1.2.1
  refine W_span hC.1 ?_
  obtain ⟨w0, e0⟩ := Mid_ex (rtS f) (nE f)
  refine S_X11_span hC (fun c1 => ?_) (fun c1 v c2 => ?_)
  · -- kb
    refine ⟨1, List.mem_of_getElem? (i := 0) rfl, 1, rfl, hC.1, ?_⟩
    refine S_X12_span hV hI e0 (fun r1 rm r2 => ?_) (fun r1 rm r2 => ?_)
    · exact ⟨_, rfl, acX hC hK r2 (by decide)⟩
    ·
      exact absurd r1 c1
  · -- k
    refine ⟨hC.1, 0, rfl, Fx_of (m := m) rfl hC.1, ?_⟩
    refine S_X12_span hV (hI.out _) c2 (fun r1 rm r2 => ?_) (fun r1 rm r2 => ?_)
    ·
      exact absurd c1 r1
    ·
      exact ⟨_, rfl, ac0 hC hK r2⟩
theorem P_better {g : GG} {m : MM} (hX : XI m) {l x : Int32} : Cl g 8 3 18 mL_better [.ref 4, .int l, .int x, .ref 283] m (PKl g 37 mX12_better [.ref 167, .int l, .int x]) := by
  obtain ⟨f, fs, ic, tp, tn, pl, n1, T1, n2, T2, ts, hC, hI, hK⟩ := hX
  have hV := hC.2.1
  have b1 : n1 ≤ 4 := hI.2.2.2.2.2.1.2
  have b2 : n2 ≤ 3 := hI.2.2.2.2.2.2.1.2
  have b3 : nH f ≤ 6 := hV.1.1.2
  have b4 : nR f ≤ 60 := hV.1.2.2.1.2
  have b5 : nE f ≤ 20 := hV.1.2.2.2.1.2
  have b6 : tn ≤ 400 := hI.2.2.2.1.2.1
  refine W_better hC.1 ?_
  refine S_X11_better hC (fun c1 => ?_) (fun c1 c2 => ?_) (fun c1 j155 c2 c3 c4 => ?_) (fun c1 j155 c2 c3 c4 c5 cm c6 c7 => ?_) (fun c1 j155 c2 c3 c4 c5 cm c6 c7 => ?_)
  · -- ke
    refine ⟨1, List.mem_of_getElem? (i := 0) rfl, 1, rfl, hC.1, ?_⟩
    refine S_X12_better hV hI hK (fun r1 rm r2 => ?_) (fun r1 r2 rm r3 => ?_) (fun r1 rj r2 r3 r4 rm r5 => ?_) (fun r1 rj r2 r3 r4 r5 rm r6 => ?_) (fun r1 rj r2 r3 r4 r5 rm r6 => ?_)
    · exact ⟨_, rfl, acX hC hK r2 (by decide)⟩
    ·
      exact absurd c1 r1
    ·
      exact absurd c1 r1
    ·
      exact absurd c1 r1
    ·
      exact absurd c1 r1
  · -- kl
    refine ⟨2, List.mem_of_getElem? (i := 1) rfl, 2, rfl, hC.1, ?_⟩
    refine S_X12_better hV hI hK (fun r1 rm r2 => ?_) (fun r1 r2 rm r3 => ?_) (fun r1 rj r2 r3 r4 rm r5 => ?_) (fun r1 rj r2 r3 r4 r5 rm r6 => ?_) (fun r1 rj r2 r3 r4 r5 rm r6 => ?_)
    ·
      exact absurd r1 c1
    · exact ⟨_, rfl, acX hC hK r3 (by decide)⟩
    ·
      exact False.elim (nI_spec r2 r3 (by omega) c2)
    ·
      exact False.elim (nI_spec r2 r3 (by omega) c2)
    ·
      exact False.elim (nI_spec r2 r3 (by omega) c2)
  · -- kb
    refine ⟨3, List.mem_of_getElem? (i := 2) rfl, 3, rfl, hC.1, ?_⟩
    refine S_X12_better hV hI hK (fun r1 rm r2 => ?_) (fun r1 r2 rm r3 => ?_) (fun r1 rj r2 r3 r4 rm r5 => ?_) (fun r1 rj r2 r3 r4 r5 rm r6 => ?_) (fun r1 rj r2 r3 r4 r5 rm r6 => ?_)
    ·
      exact absurd r1 c1
    ·
      exact False.elim (nI_spec c2 c3 (by omega) r2)
    · exact ⟨_, rfl, acX hC hK r5 (by decide)⟩
    ·
      obtain rfl : rj = j155 := nIj (r2.symm.trans c2) (by omega) (by omega)
      exact absurd r4 c4
    ·
      obtain rfl : rj = j155 := nIj (r2.symm.trans c2) (by omega) (by omega)
      exact absurd r4 c4
  · -- k0
    have hI1 := hI.noq c6.1 c7.q
    refine ⟨c6.1, 0, rfl, Fx_of (m := cm) rfl c6.1, ?_⟩
    refine S_X12_better hV (hI1.out _) hK (fun r1 rm r2 => ?_) (fun r1 r2 rm r3 => ?_) (fun r1 rj r2 r3 r4 rm r5 => ?_) (fun r1 rj r2 r3 r4 r5 rm r6 => ?_) (fun r1 rj r2 r3 r4 r5 rm r6 => ?_)
    ·
      exact absurd r1 c1
    ·
      exact False.elim (nI_spec c2 c3 (by omega) r2)
    ·
      obtain rfl : rj = j155 := nIj (r2.symm.trans c2) (by omega) (by omega)
      exact absurd c4 r4
    ·
      obtain rfl : rj = j155 := nIj (r2.symm.trans c2) (by omega) (by omega)
      exact ⟨_, rfl, ac0 c6 hK r6⟩
    ·
      obtain rfl : rj = j155 := nIj (r2.symm.trans c2) (by omega) (by omega)
      exact absurd c5 r5
  · -- k
    have hI1 := hI.noq c6.1 c7.q
    refine ⟨c6.1, 0, rfl, Fx_of (m := cm) rfl c6.1, ?_⟩
    refine S_X12_better hV (hI1.out _) hK (fun r1 rm r2 => ?_) (fun r1 r2 rm r3 => ?_) (fun r1 rj r2 r3 r4 rm r5 => ?_) (fun r1 rj r2 r3 r4 r5 rm r6 => ?_) (fun r1 rj r2 r3 r4 r5 rm r6 => ?_)
    ·
      exact absurd r1 c1
    ·
      exact False.elim (nI_spec c2 c3 (by omega) r2)
    ·
      obtain rfl : rj = j155 := nIj (r2.symm.trans c2) (by omega) (by omega)
      exact absurd c4 r4
    ·
      obtain rfl : rj = j155 := nIj (r2.symm.trans c2) (by omega) (by omega)
      exact absurd r5 c5
    ·
      obtain rfl : rj = j155 := nIj (r2.symm.trans c2) (by omega) (by omega)
      exact ⟨_, rfl, ac0 c6 hK r6⟩
theorem P_lines {g : GG} {m : MM} (hX : XI m) {l x : Int32} : Cl g 8 3 18 mL_lines [.ref 4, .int l, .int x, .ref 283] m (PKi g 37 mX12_lines [.ref 167, .int l, .int x]) := by
  obtain ⟨f, fs, ic, tp, tn, pl, n1, T1, n2, T2, ts, hC, hI, hK⟩ := hX
  have hV := hC.2.1
  have b1 : n1 ≤ 4 := hI.2.2.2.2.2.1.2
  have b2 : n2 ≤ 3 := hI.2.2.2.2.2.2.1.2
  have b3 : nH f ≤ 6 := hV.1.1.2
  have b4 : nR f ≤ 60 := hV.1.2.2.1.2
  have b5 : nE f ≤ 20 := hV.1.2.2.2.1.2
  have b6 : tn ≤ 400 := hI.2.2.2.1.2.1
  refine W_lines hC.1 ?_
  refine S_X11_lines hC (fun c1 => ?_) (fun c1 c2 => ?_) (fun c1 j155 c2 c3 c4 => ?_) (fun c1 j155 c2 c3 N c4 c5 cm c6 c7 => ?_)
  · -- ke
    refine ⟨1, List.mem_of_getElem? (i := 0) rfl, 1, rfl, hC.1, ?_⟩
    refine S_X12_lines hV hI hK (fun r1 rm r2 => ?_) (fun r1 r2 rm r3 => ?_) (fun r1 rj r2 r3 r4 rm r5 => ?_) (fun r1 rj r2 r3 rN r4 r5 rm r6 => ?_)
    · exact ⟨_, rfl, acX hC hK r2 (by decide)⟩
    ·
      exact absurd c1 r1
    ·
      exact absurd c1 r1
    ·
      exact absurd c1 r1
  · -- kl
    refine ⟨2, List.mem_of_getElem? (i := 1) rfl, 2, rfl, hC.1, ?_⟩
    refine S_X12_lines hV hI hK (fun r1 rm r2 => ?_) (fun r1 r2 rm r3 => ?_) (fun r1 rj r2 r3 r4 rm r5 => ?_) (fun r1 rj r2 r3 rN r4 r5 rm r6 => ?_)
    ·
      exact absurd r1 c1
    · exact ⟨_, rfl, acX hC hK r3 (by decide)⟩
    ·
      exact False.elim (nI_spec r2 r3 (by omega) c2)
    ·
      exact False.elim (nI_spec r2 r3 (by omega) c2)
  · -- kb
    refine ⟨3, List.mem_of_getElem? (i := 2) rfl, 3, rfl, hC.1, ?_⟩
    refine S_X12_lines hV hI hK (fun r1 rm r2 => ?_) (fun r1 r2 rm r3 => ?_) (fun r1 rj r2 r3 r4 rm r5 => ?_) (fun r1 rj r2 r3 rN r4 r5 rm r6 => ?_)
    ·
      exact absurd r1 c1
    ·
      exact False.elim (nI_spec c2 c3 (by omega) r2)
    · exact ⟨_, rfl, acX hC hK r5 (by decide)⟩
    ·
      obtain rfl : rj = j155 := nIj (r2.symm.trans c2) (by omega) (by omega)
      exact absurd (nI_rg 20 r5 (by omega) (by omega)) c4
  · -- k
    have hI1 := hI.noq c6.1 c7.q
    refine ⟨c6.1, 0, rfl, Fx_of (m := cm) rfl c6.1, ?_⟩
    refine S_X12_lines hV (hI1.out _) hK (fun r1 rm r2 => ?_) (fun r1 r2 rm r3 => ?_) (fun r1 rj r2 r3 r4 rm r5 => ?_) (fun r1 rj r2 r3 rN r4 r5 rm r6 => ?_)
    ·
      exact absurd r1 c1
    ·
      exact False.elim (nI_spec c2 c3 (by omega) r2)
    ·
      obtain rfl : rj = j155 := nIj (r2.symm.trans c2) (by omega) (by omega)
      exact absurd (nI_rg 20 c5 (by omega) (by omega)) r4
    ·
      obtain rfl : rj = j155 := nIj (r2.symm.trans c2) (by omega) (by omega)
      obtain rfl : rN = N := nIj (r5.symm.trans c5) (by omega) (by omega)
      exact ⟨_, rfl, ac0 c6 hK r6⟩
theorem P_mile {g : GG} {m : MM} (hX : XI m) {x y : Int32} : Cl g 8 1 6 mL_mile [.ref 4, .int x, .int y, .ref 283] m (PKi g 1 mX12_mile [.ref 167, .int x, .int y]) := by
  obtain ⟨f, fs, ic, tp, tn, pl, n1, T1, n2, T2, ts, hC, hI, hK⟩ := hX
  have hV := hC.2.1
  have b1 : n1 ≤ 4 := hI.2.2.2.2.2.1.2
  have b2 : n2 ≤ 3 := hI.2.2.2.2.2.2.1.2
  have b3 : nH f ≤ 6 := hV.1.1.2
  have b4 : nR f ≤ 60 := hV.1.2.2.1.2
  have b5 : nE f ≤ 20 := hV.1.2.2.2.1.2
  have b6 : tn ≤ 400 := hI.2.2.2.1.2.1
  refine W_mile hC.1 ?_
  refine S_X11_mile hC (fun c1 => ?_) (fun c1 c2 => ?_) (fun c1 c2 cm c3 c4 => ?_)
  · -- kb
    refine ⟨1, List.mem_of_getElem? (i := 0) rfl, 1, rfl, hC.1, ?_⟩
    refine S_X12_mile hV hI (fun r1 rm r2 => ?_) (fun r1 r2 rm r3 => ?_) (fun r1 r2 rm r3 => ?_)
    · exact ⟨_, rfl, acX hC hK r2 (by decide)⟩
    ·
      exact absurd r1 c1
    ·
      exact absurd r1 c1
  · -- kf
    refine ⟨hC.1, 0, rfl, Fx_of (m := m) rfl hC.1, ?_⟩
    refine S_X12_mile hV (hI.out _) (fun r1 rm r2 => ?_) (fun r1 r2 rm r3 => ?_) (fun r1 r2 rm r3 => ?_)
    ·
      exact absurd c1 r1
    ·
      exact ⟨_, rfl, ac0 hC hK r3⟩
    ·
      omega
  · -- k
    have hI1 := hI.noq c3.1 c4.q
    refine ⟨c3.1, 0, rfl, Fx_of (m := cm) rfl c3.1, ?_⟩
    refine S_X12_mile hV (hI1.out _) (fun r1 rm r2 => ?_) (fun r1 r2 rm r3 => ?_) (fun r1 r2 rm r3 => ?_)
    ·
      exact absurd c1 r1
    ·
      omega
    ·
      exact ⟨_, rfl, ac0 c3 hK r3⟩
theorem P_odds {g : GG} {m : MM} (hX : XI m) {x y : Int32} : Cl g 8 1 6 mL_odds [.ref 4, .int x, .int y, .ref 283] m (PKi g 5 mX12_odds [.ref 167, .int x, .int y]) := by
  obtain ⟨f, fs, ic, tp, tn, pl, n1, T1, n2, T2, ts, hC, hI, hK⟩ := hX
  have hV := hC.2.1
  have b1 : n1 ≤ 4 := hI.2.2.2.2.2.1.2
  have b2 : n2 ≤ 3 := hI.2.2.2.2.2.2.1.2
  have b3 : nH f ≤ 6 := hV.1.1.2
  have b4 : nR f ≤ 60 := hV.1.2.2.1.2
  have b5 : nE f ≤ 20 := hV.1.2.2.2.1.2
  have b6 : tn ≤ 400 := hI.2.2.2.1.2.1
  refine W_odds hC.1 ?_
  obtain ⟨w0, e0⟩ := Mid_ex (rtS f) (nE f)
  refine S_X11_odds hC (fun c1 => ?_) (fun c1 v c2 => ?_)
  · -- kb
    refine ⟨1, List.mem_of_getElem? (i := 0) rfl, 1, rfl, hC.1, ?_⟩
    refine S_X12_odds hV hI e0 (fun r1 rm r2 => ?_) (fun r1 rm r2 => ?_)
    · exact ⟨_, rfl, acX hC hK r2 (by decide)⟩
    ·
      exact absurd r1 c1
  · -- k
    refine ⟨hC.1, 0, rfl, Fx_of (m := m) rfl hC.1, ?_⟩
    refine S_X12_odds hV (hI.out _) c2 (fun r1 rm r2 => ?_) (fun r1 rm r2 => ?_)
    ·
      exact absurd c1 r1
    ·
      exact ⟨_, rfl, ac0 hC hK r2⟩
theorem P_price {g : GG} {m : MM} (hX : XI m) {x y z w : Int32} : Cl g 8 2 12 mL_price [.ref 4, .int x, .int y, .int z, .int w, .ref 283] m (PKi g 5 mX12_price [.ref 167, .int x, .int y, .int z, .int w]) := by
  obtain ⟨f, fs, ic, tp, tn, pl, n1, T1, n2, T2, ts, hC, hI, hK⟩ := hX
  have hV := hC.2.1
  have b1 : n1 ≤ 4 := hI.2.2.2.2.2.1.2
  have b2 : n2 ≤ 3 := hI.2.2.2.2.2.2.1.2
  have b3 : nH f ≤ 6 := hV.1.1.2
  have b4 : nR f ≤ 60 := hV.1.2.2.1.2
  have b5 : nE f ≤ 20 := hV.1.2.2.2.1.2
  have b6 : tn ≤ 400 := hI.2.2.2.1.2.1
  refine W_price hC.1 ?_
  obtain ⟨w0, e0⟩ := Mid_ex (rtS f) (nE f)
  refine S_X11_price hC (fun c1 => ?_) (fun c1 v c2 u c3 => ?_)
  · -- kb
    refine ⟨1, List.mem_of_getElem? (i := 0) rfl, 1, rfl, hC.1, ?_⟩
    refine S_X12_price hV hI e0 (fun r1 rm r2 => ?_) (fun r1 rm r2 => ?_)
    · exact ⟨_, rfl, acX hC hK r2 (by decide)⟩
    ·
      exact absurd r1 c1
  · -- k
    refine ⟨hC.1, 0, rfl, Fx_of (m := m) rfl hC.1, ?_⟩
    refine S_X12_price hV (hI.out _) c2 (fun r1 rm r2 => ?_) (fun r1 rm r2 => ?_)
    ·
      exact absurd c1 r1
    ·
      obtain rfl := Mid_un c3 c2
      exact ⟨_, rfl, ac0 hC hK r2⟩
theorem P_foul {g : GG} {m : MM} (hX : XI m) {x y : Int32} : Cl g 8 1 6 mL_foul [.ref 4, .int x, .int y, .ref 283] m (PKi g 1 mX12_foul [.ref 167, .int x, .int y]) := by
  obtain ⟨f, fs, ic, tp, tn, pl, n1, T1, n2, T2, ts, hC, hI, hK⟩ := hX
  have hV := hC.2.1
  have b1 : n1 ≤ 4 := hI.2.2.2.2.2.1.2
  have b2 : n2 ≤ 3 := hI.2.2.2.2.2.2.1.2
  have b3 : nH f ≤ 6 := hV.1.1.2
  have b4 : nR f ≤ 60 := hV.1.2.2.1.2
  have b5 : nE f ≤ 20 := hV.1.2.2.2.1.2
  have b6 : tn ≤ 400 := hI.2.2.2.1.2.1
  refine W_foul hC.1 ?_
  refine S_X11_foul hC (fun c1 => ?_) (fun c1 c2 => ?_) (fun c1 c2 c3 c4 => ?_) (fun c1 c2 c3 cm c4 c5 => ?_)
  · -- kb
    refine ⟨1, List.mem_of_getElem? (i := 0) rfl, 1, rfl, hC.1, ?_⟩
    refine S_X12_foul hV hI (fun r1 rm r2 => ?_) (fun r1 r2 rm r3 => ?_) (fun r1 r2 r3 r4 rm r5 => ?_) (fun r1 r2 r3 rm r4 => ?_)
    · exact ⟨_, rfl, acX hC hK r2 (by decide)⟩
    ·
      exact absurd r1 c1
    ·
      exact absurd r1 c1
    ·
      exact absurd r1 c1
  · -- k8
    refine ⟨hC.1, 0, rfl, Fx_of (m := m) rfl hC.1, ?_⟩
    refine S_X12_foul hV (hI.out _) (fun r1 rm r2 => ?_) (fun r1 r2 rm r3 => ?_) (fun r1 r2 r3 r4 rm r5 => ?_) (fun r1 r2 r3 rm r4 => ?_)
    ·
      exact absurd c1 r1
    ·
      exact ⟨_, rfl, ac0 hC hK r3⟩
    ·
      omega
    ·
      omega
  · -- k2
    refine ⟨hC.1, 0, rfl, Fx_of (m := m) rfl hC.1, ?_⟩
    refine S_X12_foul hV (hI.out _) (fun r1 rm r2 => ?_) (fun r1 r2 rm r3 => ?_) (fun r1 r2 r3 r4 rm r5 => ?_) (fun r1 r2 r3 rm r4 => ?_)
    ·
      exact absurd c1 r1
    ·
      omega
    ·
      exact ⟨_, rfl, ac0 hC hK r5⟩
    ·
      exact r3.elim (fun q => by omega) (fun q => False.elim (by have z1 := Int32.lt_iff_toInt_lt.mp q; have z2 := Int32.le_iff_toInt_le.mp c4; omega))
  · -- k
    have hI1 := hI.noq c4.1 c5.q
    refine ⟨c4.1, 0, rfl, Fx_of (m := cm) rfl c4.1, ?_⟩
    refine S_X12_foul hV (hI1.out _) (fun r1 rm r2 => ?_) (fun r1 r2 rm r3 => ?_) (fun r1 r2 r3 r4 rm r5 => ?_) (fun r1 r2 r3 rm r4 => ?_)
    ·
      exact absurd c1 r1
    ·
      omega
    ·
      exact c3.elim (fun q => by omega) (fun q => False.elim (by have z1 := Int32.lt_iff_toInt_lt.mp q; have z2 := Int32.le_iff_toInt_le.mp r4; omega))
    ·
      exact ⟨_, rfl, ac0 c4 hK r4⟩
theorem P_grown {g : GG} {m : MM} (hX : XI m) {x : Int32} : Cl g 8 1 6 mL_grown [.ref 4, .int x, .ref 283] m (PKi g 1 mX12_grown [.ref 167, .int x]) := by
  obtain ⟨f, fs, ic, tp, tn, pl, n1, T1, n2, T2, ts, hC, hI, hK⟩ := hX
  have hV := hC.2.1
  have b1 : n1 ≤ 4 := hI.2.2.2.2.2.1.2
  have b2 : n2 ≤ 3 := hI.2.2.2.2.2.2.1.2
  have b3 : nH f ≤ 6 := hV.1.1.2
  have b4 : nR f ≤ 60 := hV.1.2.2.1.2
  have b5 : nE f ≤ 20 := hV.1.2.2.2.1.2
  have b6 : tn ≤ 400 := hI.2.2.2.1.2.1
  refine W_grown hC.1 ?_
  obtain ⟨w0, e0⟩ := Lead_ex (foM f) x (nFo f)
  refine S_X11_grown hC (fun c1 => ?_) (fun c1 b c2 => ?_)
  · -- kb
    refine ⟨1, List.mem_of_getElem? (i := 0) rfl, 1, rfl, hC.1, ?_⟩
    refine S_X12_grown hV hI e0 (fun r1 rm r2 => ?_) (fun r1 rm r2 => ?_)
    · exact ⟨_, rfl, acX hC hK r2 (by decide)⟩
    ·
      exact absurd r1 c1
  · -- k
    refine ⟨hC.1, 0, rfl, Fx_of (m := m) rfl hC.1, ?_⟩
    refine S_X12_grown hV (hI.out _) c2 (fun r1 rm r2 => ?_) (fun r1 rm r2 => ?_)
    ·
      exact absurd c1 r1
    ·
      exact ⟨_, rfl, ac0 hC hK r2⟩
theorem P_feed {g : GG} {m : MM} (hX : XI m) {a0 b0 c0 d0 e0 : Int32} : Cl g 2 0 0 mX11_feed [.ref 4, .int a0, .int b0, .int c0, .int d0, .int e0] m (PD g 0 mX12_feed [.ref 167, .int a0, .int b0, .int c0, .int d0, .int e0]) := by
  obtain ⟨f, fs, ic, tp, tn, pl, n1, T1, n2, T2, ts, hC, hI, hK⟩ := hX
  have hV := hC.2.1
  have b1 : n1 ≤ 4 := hI.2.2.2.2.2.1.2
  have b2 : n2 ≤ 3 := hI.2.2.2.2.2.2.1.2
  have b3 : nH f ≤ 6 := hV.1.1.2
  have b4 : nR f ≤ 60 := hV.1.2.2.1.2
  have b5 : nE f ≤ 20 := hV.1.2.2.2.1.2
  have b6 : tn ≤ 400 := hI.2.2.2.1.2.1
  refine S_X11_feed hC (fun c1 => ?_) (fun c1 cm c2 c3 => ?_)
  · -- kf
    refine ⟨_, rfl, hC.1, ?_⟩
    refine S_X12_feed hV hI (fun r1 rm r2 => ?_) (fun r1 rm r2 => ?_)
    ·
      exact ⟨rfl, acD hC hK r2⟩
    ·
      exact absurd r1 c1
  · -- k
    rw [show tn + 4 + 4 + 4 + 4 + 4 = tn + 20 from by omega] at c2 ⊢
    have hI1 := hI.noq c2.1 c3.q
    refine ⟨_, rfl, c2.1, ?_⟩
    refine S_X12_feed hV hI1 (fun r1 rm r2 => ?_) (fun r1 rm r2 => ?_)
    ·
      exact absurd c1 r1
    ·
      exact ⟨rfl, acD c2 hK r2⟩
theorem P_fault {g : GG} {m : MM} (hX : XI m) : Cl g 0 0 0 mX11_fault [.ref 4] m (PD g 0 mX12_fault [.ref 167]) := by
  obtain ⟨f, fs, ic, tp, tn, pl, n1, T1, n2, T2, ts, hC, hI, hK⟩ := hX
  have hV := hC.2.1
  have b1 : n1 ≤ 4 := hI.2.2.2.2.2.1.2
  have b2 : n2 ≤ 3 := hI.2.2.2.2.2.2.1.2
  have b3 : nH f ≤ 6 := hV.1.1.2
  have b4 : nR f ≤ 60 := hV.1.2.2.1.2
  have b5 : nE f ≤ 20 := hV.1.2.2.2.1.2
  have b6 : tn ≤ 400 := hI.2.2.2.1.2.1
  refine S_X11_fault hC ?_
  · -- k
    refine ⟨_, rfl, hC.1, ?_⟩
    refine S_X12_fault hV hI (fun rm r1 => ?_)
    ·
      exact ⟨rfl, acD hC hK r1⟩
theorem P_seed {g : GG} {m : MM} (hX : XI m) {x : Int32} : Cl g 0 0 0 mX11_seed [.ref 4, .int x] m (PD g 0 mX12_seed [.ref 167, .int x]) := by
  obtain ⟨f, fs, ic, tp, tn, pl, n1, T1, n2, T2, ts, hC, hI, hK⟩ := hX
  have hV := hC.2.1
  have b1 : n1 ≤ 4 := hI.2.2.2.2.2.1.2
  have b2 : n2 ≤ 3 := hI.2.2.2.2.2.2.1.2
  have b3 : nH f ≤ 6 := hV.1.1.2
  have b4 : nR f ≤ 60 := hV.1.2.2.1.2
  have b5 : nE f ≤ 20 := hV.1.2.2.2.1.2
  have b6 : tn ≤ 400 := hI.2.2.2.1.2.1
  refine S_X11_seed hC (fun cm c1 c2 => ?_)
  · -- k
    have hI1 := hI.noq c1.1 c2.q
    refine ⟨_, rfl, c1.1, ?_⟩
    refine S_X12_seed hV hI1 (fun rm r1 => ?_)
    ·
      exact ⟨rfl, acD c1 hK r1⟩
theorem P_mean {g : GG} {m : MM} (hX : XI m) {t0 : Int32} : Cl g 2 0 0 mX11_mean [.ref 4, .int t0] m (PD g 1 mX12_mean [.ref 167, .int t0]) := by
  obtain ⟨f, fs, ic, tp, tn, pl, n1, T1, n2, T2, ts, hC, hI, hK⟩ := hX
  have hV := hC.2.1
  have b1 : n1 ≤ 4 := hI.2.2.2.2.2.1.2
  have b2 : n2 ≤ 3 := hI.2.2.2.2.2.2.1.2
  have b3 : nH f ≤ 6 := hV.1.1.2
  have b4 : nR f ≤ 60 := hV.1.2.2.1.2
  have b5 : nE f ≤ 20 := hV.1.2.2.2.1.2
  have b6 : tn ≤ 400 := hI.2.2.2.1.2.1
  refine S_X11_mean hC (fun c1 => ?_) (fun c1 => ?_)
  · -- k0
    refine ⟨_, rfl, hC.1, ?_⟩
    refine S_X12_mean hV hI (fun r1 rm r2 => ?_) (fun r1 rm r2 => ?_)
    ·
      exact ⟨rfl, acD hC hK r2⟩
    ·
      exact absurd r1 c1
  · -- k1
    refine ⟨_, rfl, hC.1, ?_⟩
    refine S_X12_mean hV hI (fun r1 rm r2 => ?_) (fun r1 rm r2 => ?_)
    ·
      exact absurd c1 r1
    ·
      exact ⟨rfl, acD hC hK r2⟩
theorem P_anew {g : GG} {m : MM} (hX : XI m) : Cl g 1 0 0 mX11_anew [.ref 4] m (PD g 0 mX12_anew [.ref 167]) := by
  obtain ⟨f, fs, ic, tp, tn, pl, n1, T1, n2, T2, ts, hC, hI, hK⟩ := hX
  have hV := hC.2.1
  have b1 : n1 ≤ 4 := hI.2.2.2.2.2.1.2
  have b2 : n2 ≤ 3 := hI.2.2.2.2.2.2.1.2
  have b3 : nH f ≤ 6 := hV.1.1.2
  have b4 : nR f ≤ 60 := hV.1.2.2.1.2
  have b5 : nE f ≤ 20 := hV.1.2.2.2.1.2
  have b6 : tn ≤ 400 := hI.2.2.2.1.2.1
  refine S_X11_anew hC (fun cm c1 c2 => ?_)
  · -- k
    have hI1 := hI.noq c1.1 c2.q
    refine ⟨_, rfl, c1.1, ?_⟩
    refine S_X12_anew hV hI1 (fun rm r1 => ?_)
    ·
      exact ⟨rfl, acD c1 hK r1⟩
theorem P_image {g : GG} {m : MM} (hX : XI m) : Cl g 6 0 0 mX11_image [.ref 4] m (PD g 3 mX12_image [.ref 167]) := by
  obtain ⟨f, fs, ic, tp, tn, pl, n1, T1, n2, T2, ts, hC, hI, hK⟩ := hX
  have hV := hC.2.1
  have b1 : n1 ≤ 4 := hI.2.2.2.2.2.1.2
  have b2 : n2 ≤ 3 := hI.2.2.2.2.2.2.1.2
  have b3 : nH f ≤ 6 := hV.1.1.2
  have b4 : nR f ≤ 60 := hV.1.2.2.1.2
  have b5 : nE f ≤ 20 := hV.1.2.2.2.1.2
  have b6 : tn ≤ 400 := hI.2.2.2.1.2.1
  refine S_X11_image hC (fun c1 => ?_) (fun c1 cm c2 c3 => ?_)
  · -- kf
    refine ⟨_, rfl, hC.1, ?_⟩
    refine S_X12_image hI (fun r1 rm r2 => ?_) (fun r1 rm r2 => ?_)
    ·
      exact ⟨rfl, acD hC hK r2⟩
    ·
      omega
  · -- k
    have hI1 := hI.noq c2.1 c3.q
    refine ⟨_, rfl, c2.1, ?_⟩
    refine S_X12_image hI1 (fun r1 rm r2 => ?_) (fun r1 rm r2 => ?_)
    ·
      omega
    ·
      exact ⟨rfl, acD c2 hK r2⟩
theorem P_restore {g : GG} {m : MM} (hX : XI m) : Cl g 6 0 0 mX11_restore [.ref 4] m (PD g 3 mX12_restore [.ref 167]) := by
  obtain ⟨f, fs, ic, tp, tn, pl, n1, T1, n2, T2, ts, hC, hI, hK⟩ := hX
  have hV := hC.2.1
  have b1 : n1 ≤ 4 := hI.2.2.2.2.2.1.2
  have b2 : n2 ≤ 3 := hI.2.2.2.2.2.2.1.2
  have b3 : nH f ≤ 6 := hV.1.1.2
  have b4 : nR f ≤ 60 := hV.1.2.2.1.2
  have b5 : nE f ≤ 20 := hV.1.2.2.2.1.2
  have b6 : tn ≤ 400 := hI.2.2.2.1.2.1
  refine S_X11_restore hC (fun c1 => ?_) (fun q c1 cm c2 c3 => ?_)
  · -- kf
    refine ⟨_, rfl, hC.1, ?_⟩
    refine S_X12_restore hI (fun r1 rm r2 => ?_) (fun rq r1 rm r2 => ?_)
    ·
      exact ⟨rfl, acD hC hK r2⟩
    ·
      omega
  · -- k
    have hI1 := hI.noq c2.1 c3.q
    refine ⟨_, rfl, c2.1, ?_⟩
    refine S_X12_restore hI1 (fun r1 rm r2 => ?_) (fun rq r1 rm r2 => ?_)
    ·
      omega
    ·
      obtain rfl : rq = q := by omega
      exact ⟨rfl, acD c2 hK r2⟩
theorem P_count {g : GG} {m : MM} (hX : XI m) {x : Int32} : Cl g 2 0 0 mX11_count [.ref 4, .int x] m (PD g 0 mX12_count [.ref 167, .int x]) := by
  obtain ⟨f, fs, ic, tp, tn, pl, n1, T1, n2, T2, ts, hC, hI, hK⟩ := hX
  have hV := hC.2.1
  have b1 : n1 ≤ 4 := hI.2.2.2.2.2.1.2
  have b2 : n2 ≤ 3 := hI.2.2.2.2.2.2.1.2
  have b3 : nH f ≤ 6 := hV.1.1.2
  have b4 : nR f ≤ 60 := hV.1.2.2.1.2
  have b5 : nE f ≤ 20 := hV.1.2.2.2.1.2
  have b6 : tn ≤ 400 := hI.2.2.2.1.2.1
  refine S_X11_count hC (fun j c1 c2 => ?_) (fun c1 => ?_)
  · -- k1
    refine ⟨_, rfl, hC.1, ?_⟩
    refine S_X12_count hV hI (fun rj r1 r2 rm r3 => ?_) (fun r1 rm r2 => ?_)
    ·
      obtain rfl : rj = j := nIj (r2.symm.trans c2) (by omega) (by omega)
      exact ⟨rfl, acD hC hK r3⟩
    ·
      exact absurd (nI_rg 10 c2 (by omega) (by omega)) r1
  · -- k0
    refine ⟨_, rfl, hC.1, ?_⟩
    refine S_X12_count hV hI (fun rj r1 r2 rm r3 => ?_) (fun r1 rm r2 => ?_)
    ·
      exact absurd (nI_rg 10 r2 (by omega) (by omega)) c1
    ·
      exact ⟨rfl, acD hC hK r2⟩
