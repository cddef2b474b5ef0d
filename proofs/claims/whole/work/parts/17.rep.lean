def nH (f : Nat → Int32) : Nat := (f 0).toNatClampNeg
def nT (f : Nat → Int32) : Nat := (f 1).toNatClampNeg
def nR (f : Nat → Int32) : Nat := (f 2).toNatClampNeg
def nE (f : Nat → Int32) : Nat := (f 3).toNatClampNeg
def nM (f : Nat → Int32) : Nat := (f 4).toNatClampNeg
def nFo (f : Nat → Int32) : Nat := (f 5).toNatClampNeg
def nS (f : Nat → Int32) (h : Nat) : Nat := (f (13 + h)).toNatClampNeg
def iv (lo hi : Int) (x : Int32) : Prop := lo ≤ x.toInt ∧ x.toInt ≤ hi
/-- a running's row of six is in order, for a hull that stands -/
def VR (f g : Nat → Int32) : Prop := (∃ h, g 0 = nI h ∧ h < nH f) ∧ iv 1 40 (g 1) ∧ iv 1 99 (g 2) ∧ (g 3 = -1 ∨ ∃ t, g 3 = nI t ∧ t < nT f) ∧ (g 4 = 0 ∨ g 4 = 1) ∧ iv 0 99 (g 5)
def VH (f : Nat → Int32) (h : Nat) : Prop := iv 10 400 (f (7 + h)) ∧ f (13 + h) = nI (nS f h) ∧ 2 ≤ nS f h ∧ nS f h ≤ 12 ∧ ∀ s, s < nS f h → iv 0 60 (f (73 + 24 * h + s)) ∧ iv 0 60 (f (85 + 24 * h + s))
def VC (f : Nat → Int32) : Prop := (f 0 = nI (nH f) ∧ nH f ≤ 6) ∧ (f 1 = nI (nT f) ∧ nT f ≤ 4) ∧ (f 2 = nI (nR f) ∧ nR f ≤ 60) ∧ (f 3 = nI (nE f) ∧ nE f ≤ 20) ∧ (f 4 = nI (nM f) ∧ nM f ≤ 6) ∧ (f 5 = nI (nFo f) ∧ nFo f ≤ 8)
def hd (f : Nat → Int32) : Nat → Int32 := fun j => f (27 + j)
def rn (f : Nat → Int32) (r : Nat) : Nat → Int32 := fun j => f (217 + 7 * r + j)
def Vf (f : Nat → Int32) : Prop := VC f ∧ (∀ h, h < nH f → VH f h) ∧ (∀ j, j < nT f → iv 1 200 (f (19 + j)) ∧ iv 1 200 (f (23 + j))) ∧
  ((∃ h, f 27 = nI h ∧ (h < nH f ∨ h = 0)) ∧ iv 1 40 (f 28) ∧ iv 1 99 (f 29) ∧ (f 30 = -1 ∨ ∃ t, f 30 = nI t ∧ t < nT f) ∧ (f 31 = 0 ∨ f 31 = 1) ∧ iv 0 99 (f 32)) ∧
  (∀ r, r < nR f → VR f (rn f r) ∧ iv 0 1000000000 (rn f r 6)) ∧
  (∀ j, j < nE f → iv 1 1000000000 (f (33 + j)) ∧ iv 0 1000000000 (f (53 + j))) ∧
  (∀ j, j < nM f → iv 0 999 (f (637 + 2 * j)) ∧ iv (-99) 99 (f (638 + 2 * j))) ∧
  (∀ j, j < nFo f → iv 0 999 (f (649 + 2 * j)) ∧ iv 0 999 (f (650 + 2 * j))) ∧
  (∀ j, j + 1 < nFo f → f (649 + 2 * j) < f (651 + 2 * j))
/-- the class's world at base w shows f -/
def Wd (f : Nat → Int32) (w : Nat) (m : MM) : Prop := (ldI m w 1 = f 0 ∧ ldI m w 10 = f 6) ∧
  (∀ i, i < nH f → ldI m (w + 2 + 3 * i) 0 = f (7 + i) ∧ ldI m (w + 2 + 3 * i) 1 = f (13 + i) ∧ ∀ s, s < nS f i → ldI m (w + 3 + 3 * i) s = f (73 + 24 * i + s) ∧ ldI m (w + 4 + 3 * i) s = f (85 + 24 * i + s)) ∧
  (ldI m (w + 20) 1 = f 1 ∧ ldI m (w + 22) 1 = f 1 ∧ ∀ j, j < nT f → ldI m (w + 21) j = f (19 + j) ∧ ldI m (w + 23) j = f (23 + j)) ∧
  (∀ j, j < 6 → ldI m (w + 24) j = f (27 + j)) ∧
  (ldI m (w + 25) 1 = nI (7 * nR f) ∧ ∀ j, j < 7 * nR f → ldI m (w + 26) j = f (217 + j)) ∧
  (ldI m (w + 28) 1 = f 3 ∧ ∀ j, j < nE f → ldI m (w + 29) j = rat (f (33 + j)) (f (53 + j))) ∧
  (ldI m (w + 30) 1 = f 4 ∧ ∀ j, j < nM f → ldI m (w + 31) j = f (637 + 2 * j) + f (638 + 2 * j) / 10) ∧
  (ldI m (w + 32) 1 = f 5 ∧ ldI m (w + 34) 1 = f 5 ∧ ∀ j, j < nFo f → ldI m (w + 33) j = f (649 + 2 * j) ∧ ldI m (w + 35) j = f (650 + 2 * j))
/-- m' is m off the addresses lo..hi, all refs and shapes as they were -/
def Off (lo hi : Nat) (m m' : MM) : Prop := m'.2.2 = m.2.2 ∧ ∀ a, a < lo ∨ hi < a → (∀ k, ldI m' a k = ldI m a k) ∧ (∀ k, ldL m' a k = ldL m a k)
theorem Off.rf {lo hi : Nat} {m : MM} : Off lo hi m m := ⟨rfl, fun _ _ => ⟨fun _ => rfl, fun _ => rfl⟩⟩
theorem Off.tr {lo hi : Nat} {m m' m2 : MM} (h : Off lo hi m m') (h2 : Off lo hi m' m2) : Off lo hi m m2 := ⟨h2.1.trans h.1, fun a ha => ⟨fun k => ((h2.2 a ha).1 k).trans ((h.2 a ha).1 k), fun k => ((h2.2 a ha).2 k).trans ((h.2 a ha).2 k)⟩⟩
theorem Off.wd {lo hi lo2 hi2 : Nat} {m m' : MM} (h : Off lo hi m m') (h1 : lo2 ≤ lo) (h2 : hi ≤ hi2) : Off lo2 hi2 m m' := ⟨h.1, fun a ha => h.2 a (by omega)⟩
theorem Fx_of {m m' : MM} (h : m'.2.2 = m.2.2) (hF : Fx m) : Fx m' := by
  obtain ⟨⟨ext, h1⟩, h2⟩ := hF
  exact ⟨⟨ext, (congrArg (fun z : (Nat → Nat → Nat) × List (Nat × Nat) => z.2) h).trans h1⟩, fun a k ha => (congrArg (fun z : (Nat → Nat → Nat) × List (Nat × Nat) => z.1 a k) h).trans (h2 a k ha)⟩
theorem kdl_of {m m' : MM} (h : m'.2.2 = m.2.2) (a : Nat) : kdl m' a = kdl m a := by unfold kdl; rw [show shp m' = shp m from congrArg (fun z : (Nat → Nat → Nat) × List (Nat × Nat) => z.2) h]
theorem ldR_of {m m' : MM} (h : m'.2.2 = m.2.2) (a k : Nat) : ldR m' a k = ldR m a k := congrArg (fun z : (Nat → Nat → Nat) × List (Nat × Nat) => z.1 a k) h
theorem Off.stI {lo hi a k : Nat} {m m' : MM} {v : Int32} (h : Off lo hi m m') (h1 : lo ≤ a) (h2 : a ≤ hi) : Off lo hi m (stI m' a k v) := ⟨h.1, fun b hb => ⟨fun j => ld_n (by omega) ((h.2 b hb).1 j), (h.2 b hb).2⟩⟩
theorem Off.stL {lo hi a k : Nat} {m m' : MM} {v : Int64} (h : Off lo hi m m') (h1 : lo ≤ a) (h2 : a ≤ hi) : Off lo hi m (stL m' a k v) := ⟨h.1, fun b hb => ⟨(h.2 b hb).1, fun j => (if_neg (by omega)).trans ((h.2 b hb).2 j)⟩⟩
theorem Off.stRow {lo hi a : Nat} {m m' : MM} {v : Nat → Int32} (h : Off lo hi m m') (h1 : lo ≤ a) (h2 : a ≤ hi) : Off lo hi m (stRow m' a v) := ⟨h.1, fun b hb => ⟨fun j => (if_neg (by omega)).trans ((h.2 b hb).1 j), (h.2 b hb).2⟩⟩
theorem Off.stRowL {lo hi a : Nat} {m m' : MM} {v : Nat → Int64} (h : Off lo hi m m') (h1 : lo ≤ a) (h2 : a ≤ hi) : Off lo hi m (stRowL m' a v) := ⟨h.1, fun b hb => ⟨(h.2 b hb).1, fun j => (if_neg (by omega)).trans ((h.2 b hb).2 j)⟩⟩
theorem Wd.of {f : Nat → Int32} {w : Nat} {m m' : MM} (h : Wd f w m) (e : ∀ a, w ≤ a → a ≤ w + 35 → ∀ k, ldI m' a k = ldI m a k) (hf : nH f ≤ 6) : Wd f w m' := by
  obtain ⟨⟨a1, a2⟩, b, ⟨c1, c2, c3⟩, d, ⟨e1, e2⟩, ⟨f1, f2⟩, ⟨g1, g2⟩, h1, h2, h3⟩ := h
  refine ⟨⟨(e _ (by omega) (by omega) _).trans a1, (e _ (by omega) (by omega) _).trans a2⟩, fun i hi => ⟨(e _ (by omega) (by omega) _).trans (b i hi).1, (e _ (by omega) (by omega) _).trans (b i hi).2.1, fun s hs => ⟨(e _ (by omega) (by omega) _).trans ((b i hi).2.2 s hs).1, (e _ (by omega) (by omega) _).trans ((b i hi).2.2 s hs).2⟩⟩, ⟨(e _ (by omega) (by omega) _).trans c1, (e _ (by omega) (by omega) _).trans c2, fun j hj => ⟨(e _ (by omega) (by omega) _).trans (c3 j hj).1, (e _ (by omega) (by omega) _).trans (c3 j hj).2⟩⟩, fun j hj => (e _ (by omega) (by omega) _).trans (d j hj), ⟨(e _ (by omega) (by omega) _).trans e1, fun j hj => (e _ (by omega) (by omega) _).trans (e2 j hj)⟩, ⟨(e _ (by omega) (by omega) _).trans f1, fun j hj => (e _ (by omega) (by omega) _).trans (f2 j hj)⟩, ⟨(e _ (by omega) (by omega) _).trans g1, fun j hj => (e _ (by omega) (by omega) _).trans (g2 j hj)⟩, (e _ (by omega) (by omega) _).trans h1, (e _ (by omega) (by omega) _).trans h2, fun j hj => ⟨(e _ (by omega) (by omega) _).trans (h3 j hj).1, (e _ (by omega) (by omega) _).trans (h3 j hj).2⟩⟩
theorem Wd.off {f : Nat → Int32} {lo hi : Nat} {w : Nat} {m m' : MM} (h : Wd f w m) (o : Off lo hi m m') (hw : w + 35 < lo ∨ hi < w) (hf : nH f ≤ 6) : Wd f w m' := h.of (fun a h1 h2 k => (o.2 a (by omega)).1 k) hf
theorem sumF_congr {p q : Nat → Int32} : ∀ {n : Nat}, (∀ j, j < n → p j = q j) → sumF p n = sumF q n
  | 0, _ => rfl
  | n + 1, h => by show sumF p n + p n = sumF q n + q n; rw [sumF_congr (fun j hj => h j (by omega)), h n (by omega)]
theorem maxF_congr {p q : Nat → Int32} : ∀ {n : Nat}, (∀ j, j < n → p j = q j) → maxF p n = maxF q n
  | 0, _ => rfl
  | n + 1, h => by show (if _ then _ else _) = (if _ then _ else _); rw [maxF_congr (fun j hj => h j (by omega)), h n (by omega)]
def hB (f : Nat → Int32) (h : Nat) : Nat → Int32 := fun j => f (73 + 24 * h + j)
def hD (f : Nat → Int32) (h : Nat) : Nat → Int32 := fun j => f (85 + 24 * h + j)
def mdH (f : Nat → Int32) (h : Nat) (sc : Int32) : Nat → Int32 := mVal (f (7 + h)) (f (13 + h)) (sumF (fun j => hB f h j + 2 * hD f h j) (nS f h)) (sumF (fun j => hB f h j * hD f h j) (nS f h)) (maxF (hB f h) (nS f h)) (maxF (hD f h) (nS f h)) (maxF (fun j => hB f h j * hD f h j) (nS f h)) sc
theorem mHull_eq {f : Nat → Int32} {m : MM} {h : Nat} (hW : Wd f 5 m) (hh : h < nH f) (sc : Int32) : mHull m (7 + 3 * h) (8 + 3 * h) (9 + 3 * h) (nS f h) sc = mdH f h sc := by
  obtain ⟨-, b, -⟩ := hW
  obtain ⟨b1, b2, b3⟩ := b h hh
  have q1 : ∀ s, s < nS f h → ldI m (8 + 3 * h) s = hB f h s := fun s hs => (b3 s hs).1
  have q2 : ∀ s, s < nS f h → ldI m (9 + 3 * h) s = hD f h s := fun s hs => (b3 s hs).2
  unfold mHull mdH
  rw [show ldI m (7 + 3 * h) 0 = f (7 + h) from b1, show ldI m (7 + 3 * h) 1 = f (13 + h) from b2, sumF_congr (p := arG m _ _) (fun j hj => by unfold arG; rw [q1 j hj, q2 j hj]), sumF_congr (p := unG m _ _) (fun j hj => by unfold unG; rw [q1 j hj, q2 j hj]), maxF_congr q1, maxF_congr q2, maxF_congr (p := unG m _ _) (fun j hj => by unfold unG; rw [q1 j hj, q2 j hj])]
def atV (ρ : Nat → Int32) (n : Nat) (x : Int32) : Int32 := if 0 ≤ x ∧ x < nI n then ρ x.toNatClampNeg else 0
theorem atV_in {ρ : Nat → Int32} {n j : Nat} (h : j < n) (hn : n < 1000) : atV ρ n (nI j) = ρ j := by unfold atV; rw [if_pos ⟨i32_nlt.mp (nI_pos (by omega)), nI_lt h (by omega)⟩, nI_cl j (by omega)]
theorem atV_out {ρ : Nat → Int32} {n : Nat} {x : Int32} (h : x < 0 ∨ nI n ≤ x) : atV ρ n x = 0 := if_neg (fun q => h.elim (fun z => i32_nlt.mpr q.1 z) (fun z => i32_nle.mpr q.2 z))
theorem S_atV {g : GG} {m : MM} {Q : Out → Prop} {a c z n : Nat} (ha : kdl m a = some (5, 0)) (hr : ldR m a 0 = c) (hc : kdl m c = some (13, z)) (hz : z < 1000) (hn : ldI m a 1 = nI n) (hnz : n ≤ z) {x : Int32} (k : Q (.inl (some (.int (atV (ldI m c) n x))), m)) : Cl g 0 0 0 mX5_at [.ref a, .int x] m Q := by
  refine S_X5_at ha hr hc (by omega) hn hnz (fun j hj hjn => ?_) (fun h9 => ?_)
  · rw [hj, atV_in hjn (by omega)] at k; exact k
  · rw [atV_out h9] at k; exact k
theorem atV_congr {ρ η : Nat → Int32} {n : Nat} {x : Int32} (hn : n < 1000) (h : ∀ j, j < n → ρ j = η j) : atV ρ n x = atV η n x := by
  unfold atV
  by_cases q : 0 ≤ x ∧ x < nI n
  · rw [if_pos q, if_pos q]
    obtain ⟨j, rfl, hj⟩ := vin_of (i32_nlt.mpr q.1) (i32_nle.mpr q.2) (by omega)
    rw [nI_cl j (by omega)]; exact h j hj
  · rw [if_neg q, if_neg q]
def sdV (f : Nat → Int32) (s x : Int32) : Int64 := ovF (100 * s.toInt64) ((atV (fun j => f (19 + j)) (nT f) x).toInt64 * (atV (fun j => f (23 + j)) (nT f) x).toInt64)
theorem S_X0_sideOf {g : GG} {m : MM} {Q : Out → Prop} (hF : Fx m) {f : Nat → Int32} (hV : VC f) (hW : Wd f 5 m) {x : Int32} (k : Q (.inl (some (.long (sdV f (ldI m 164 5) x))), m)) : Cl g 1 0 0 mX0_sideOf [.ref 159, .int x] m Q := by
  refine Cl.of rfl (by decide) (Nat.le_of_ble_eq_true rfl) ?_
  show Wp g mX0_sideOf 1 0 0 0 [.ref 159, .int x] [] m Q
  have hT4 := hV.2.1.2
  refine r_ldc2 (100) dX0_sideOf_0 ctX0_93 ?_
  refine r_aload_n dX0_sideOf_3 rfl ?_
  refine r_getRc dX0_sideOf_4 fgX0_25 rfl (by exact k_159 hF) (by exact r_159_2 hF) ?_
  refine r_getI dX0_sideOf_7 fgX0_112 rfl (by exact k_164 hF) ?_
  refine r_i2l dX0_sideOf_10 ?_
  refine r_lmul dX0_sideOf_11 ?_
  refine r_aload_n dX0_sideOf_12 rfl ?_
  refine r_getRc dX0_sideOf_13 fgX0_9 rfl (by exact k_159 hF) (by exact r_159_0 hF) ?_
  refine r_getRc dX0_sideOf_16 fgX0_115 rfl (by exact k_5 hF) (by exact r_5_2 hF) ?_
  refine r_iload_n dX0_sideOf_19 rfl ?_
  refine r_callV1 (ci := 5) (d1 := 0) (c1 := 0) (n1 := 0) dX0_sideOf_20 mvX0_119 rfl ⟨(Nat.le_of_ble_eq_true rfl), rfl⟩ (Nat.le_of_ble_eq_true rfl) (by exact Nat.le_of_ble_eq_true rfl) (by exact k_25 hF) ?_
  refine S_atV (a := 25) (c := 26) (z := 4) (n := nT f) (by exact k_25 hF) (by exact r_25_0 hF) (by exact k_26 hF) (by omega) (by exact (hW.2.2.1.1.trans hV.2.1.1)) (by omega) ?_
  show Wp g mX0_sideOf _ _ _ 23 _ (_ :: _) _ Q
  dsimp only
  refine r_i2l dX0_sideOf_23 ?_
  refine r_aload_n dX0_sideOf_24 rfl ?_
  refine r_getRc dX0_sideOf_25 fgX0_9 rfl (by exact k_159 hF) (by exact r_159_0 hF) ?_
  refine r_getRc dX0_sideOf_28 fgX0_124 rfl (by exact k_5 hF) (by exact r_5_3 hF) ?_
  refine r_iload_n dX0_sideOf_31 rfl ?_
  refine r_callV1 (ci := 5) (d1 := 0) (c1 := 0) (n1 := 0) dX0_sideOf_32 mvX0_119 rfl ⟨(Nat.le_of_ble_eq_true rfl), rfl⟩ (Nat.le_of_ble_eq_true rfl) (by exact Nat.le_of_ble_eq_true rfl) (by exact k_27 hF) ?_
  refine S_atV (a := 27) (c := 28) (z := 4) (n := nT f) (by exact k_27 hF) (by exact r_27_0 hF) (by exact k_28 hF) (by omega) (by exact (hW.2.2.1.2.1.trans hV.2.1.1)) (by omega) ?_
  show Wp g mX0_sideOf _ _ _ 35 _ (_ :: _) _ Q
  dsimp only
  refine r_i2l dX0_sideOf_35 ?_
  refine r_lmul dX0_sideOf_36 ?_
  refine r_callN2 (d1 := 0) (c1 := 0) (n1 := 0) dX0_sideOf_37 msX0_95 (Nat.le_of_ble_eq_true rfl) (by exact Nat.le_of_ble_eq_true rfl) ?_
  refine S_over ?_
  show Wp g mX0_sideOf _ _ _ 40 _ (_ :: _) _ Q
  dsimp only
  refine r_lreturn dX0_sideOf_40 rfl ?_
  rw [atV_congr (ρ := ldI m 26) (η := fun j => f (19 + j)) (by omega) (fun j hj => (hW.2.2.1.2.2 j hj).1), atV_congr (ρ := ldI m 28) (η := fun j => f (23 + j)) (by omega) (fun j hj => (hW.2.2.1.2.2 j hj).2)]; exact k
