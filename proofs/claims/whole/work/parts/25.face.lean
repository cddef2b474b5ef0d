def TT : Type := (Nat → Int64) → Nat → Int64
/-- the class as it stands: f now, fs images, ic their number, tp the tape, tn its length, pl the fault's place, n1 T1 laws, n2 T2 ways -/
def CI (f : Nat → Int32) (fs : Nat → Nat → Int32) (ic : Nat) (tp : Nat → Int32) (tn : Nat) (pl : Int32) (n1 : Nat) (T1 : Nat → (Nat → Int64) → Nat → Int64) (n2 : Nat) (T2 : Nat → (Nat → Int64) → Nat → Int64) (m : MM) : Prop :=
  Fx m ∧ Vf f ∧ Wd f 5 m ∧ (ldI m 4 7 = nI ic ∧ ic ≤ 3 ∧ ∀ k, k < ic → Vf (fs k) ∧ Wd (fs k) (42 + 36 * k) m) ∧ (ldI m 150 1 = nI tn ∧ tn ≤ 400 ∧ ∀ j, j < tn → ldI m 151 j = tp j ∧ iv 0 255 (tp j)) ∧ ldI m 4 8 = pl ∧ Shf 155 156 4 n1 T1 m ∧ Shf 157 158 3 n2 T2 m
section CIs
variable {f : Nat → Int32} {fs : Nat → Nat → Int32} {ic : Nat} {tp : Nat → Int32} {tn : Nat} {pl : Int32} {n1 : Nat} {T1 : Nat → (Nat → Int64) → Nat → Int64} {n2 : Nat} {T2 : Nat → (Nat → Int64) → Nat → Int64} {m m' : MM}
/-- what lies off the class's own rows leaves it as it stands: scratch, or the reference -/
theorem CI.off {lo hi : Nat} (h : CI f fs ic tp tn pl n1 T1 n2 T2 m) (o : Off lo hi m m') (hl : 159 ≤ lo) (hh : hi < 284) : CI f fs ic tp tn pl n1 T1 n2 T2 m' := by
  obtain ⟨a, b, c, ⟨d1, d2, d3⟩, ⟨e1, e2, e3⟩, g1, h1, h2⟩ := h
  exact ⟨Fx_of o.1 a, b, c.off o (by omega) b.1.1.2, ⟨((o.2 4 (by omega)).1 7).trans d1, d2, fun k hk => ⟨(d3 k hk).1, (d3 k hk).2.off o (by omega) (d3 k hk).1.1.1.2⟩⟩, ⟨((o.2 150 (by omega)).1 1).trans e1, e2, fun j hj => ⟨((o.2 151 (by omega)).1 j).trans (e3 j hj).1, (e3 j hj).2⟩⟩, ((o.2 4 (by omega)).1 8).trans g1, h1.off o (by omega) (by omega), h2.off o (by omega) (by omega)⟩
/-- a new world now -/
theorem CI.now {f' : Nat → Int32} (h : CI f fs ic tp tn pl n1 T1 n2 T2 m) (o : Off 5 40 m m') (hV : Vf f') (hW : Wd f' 5 m') : CI f' fs ic tp tn pl n1 T1 n2 T2 m' := by
  obtain ⟨a, b, c, ⟨d1, d2, d3⟩, ⟨e1, e2, e3⟩, g1, h1, h2⟩ := h
  exact ⟨Fx_of o.1 a, hV, hW, ⟨((o.2 4 (by omega)).1 7).trans d1, d2, fun k hk => ⟨(d3 k hk).1, (d3 k hk).2.off o (by omega) (d3 k hk).1.1.1.2⟩⟩, ⟨((o.2 150 (by omega)).1 1).trans e1, e2, fun j hj => ⟨((o.2 151 (by omega)).1 j).trans (e3 j hj).1, (e3 j hj).2⟩⟩, ((o.2 4 (by omega)).1 8).trans g1, h1.off o (by omega) (by omega), h2.off o (by omega) (by omega)⟩
end CIs
theorem S_X11_demandAnyHull {g : GG} {m : MM} {Q : Out → Prop} (hF : Fx m) {f : Nat → Int32} (hV : Vf f) (hW : Wd f 5 m) (k1 : ¬ f 0 = 0 → Q (.inl none, m)) (k0 : f 0 = 0 → Q (.inr EISE, m)) : Cl g 6 1 6 mX11_demandAnyHull [.ref 4] m Q := by
  refine Cl.of rfl (by decide) (Nat.le_of_ble_eq_true rfl) ?_
  show Wp g mX11_demandAnyHull 6 1 6 0 [.ref 4] [] m Q
  refine r_aload_n dX11_demandAnyHull_0 rfl ?_
  refine r_getRc dX11_demandAnyHull_1 fgX11_12 rfl (by exact k_4 hF) (by exact r_4_0 hF) ?_
  refine r_getIc (f 0) dX11_demandAnyHull_4 fgX11_286 rfl (by exact k_5 hF) (by exact hW.1.1) ?_
  refine r_if_ne 18 dX11_demandAnyHull_7 rfl (fun h1 => ?_) (fun h1 => ?_)
  ·
    refine r_return dX11_demandAnyHull_18 rfl ?_
    exact k1 h1
  ·
    refine th_ISE rfl rfl dX11_demandAnyHull_10 dX11_demandAnyHull_13 dX11_demandAnyHull_14 dX11_demandAnyHull_17 (Nat.le_of_ble_eq_true rfl) (by exact Nat.le_of_ble_eq_true rfl) ?_
    exact k0 h1
theorem S_X11_demandHull {g : GG} {m : MM} {Q : Out → Prop} (hF : Fx m) {f : Nat → Int32} (hV : Vf f) (hW : Wd f 5 m) {x : Int32} (k1 : ∀ j, x = nI j → j < nH f → Q (.inl (some (.ref (7 + 3 * j))), m)) (k0 : (x < 0 ∨ nI (nH f) ≤ x) → Q (.inr ENSE, m)) : Cl g 6 1 6 mX11_demandHull [.ref 4, .int x] m Q := by
  refine Cl.of rfl (by decide) (Nat.le_of_ble_eq_true rfl) ?_
  show Wp g mX11_demandHull 6 1 6 0 [.ref 4, .int x, .retAddr 0] [] m Q
  refine r_aload_n dX11_demandHull_0 rfl ?_
  refine r_getRc dX11_demandHull_1 fgX11_12 rfl (by exact k_4 hF) (by exact r_4_0 hF) ?_
  refine r_iload_n dX11_demandHull_4 rfl ?_
  refine r_callV1 (ci := 10) (d1 := 0) (c1 := 0) (n1 := 0) dX11_demandHull_5 mvX11_302 rfl ⟨(Nat.le_of_ble_eq_true rfl), rfl⟩ (Nat.le_of_ble_eq_true rfl) (by exact Nat.le_of_ble_eq_true rfl) (by exact k_5 hF) ?_
  refine S_X10_hullAt (n := nH f) hF (by exact hW.1.1.trans hV.1.1.1) hV.1.1.2 (fun j hj hjn => ?_) (fun h9 => ?_)
  ·
    show Wp g mX11_demandHull _ _ _ 8 _ (_ :: _) _ Q
    refine sa_2 dX11_demandHull_8 rfl (Nat.le_of_ble_eq_true rfl) ?_
    refine r_aload_n dX11_demandHull_9 rfl ?_
    refine r_ifnonnull 21 dX11_demandHull_10 rfl (fun hnull => ?_) (fun hnull => ?_)
    ·
      refine r_aload_n dX11_demandHull_21 rfl ?_
      refine r_areturn dX11_demandHull_22 rfl rfl ?_
      exact k1 j hj hjn
    ·
      refine th_NSE rfl rfl dX11_demandHull_13 dX11_demandHull_16 dX11_demandHull_17 dX11_demandHull_20 (Nat.le_of_ble_eq_true rfl) (by exact Nat.le_of_ble_eq_true rfl) ?_
      exact absurd hnull (by omega)
  ·
    show Wp g mX11_demandHull _ _ _ 8 _ (_ :: _) _ Q
    refine sa_2 dX11_demandHull_8 rfl (Nat.le_of_ble_eq_true rfl) ?_
    refine r_aload_n dX11_demandHull_9 rfl ?_
    refine r_ifnonnull 21 dX11_demandHull_10 rfl (fun hz => absurd hz (by decide)) (fun _ => ?_)
    refine th_NSE rfl rfl dX11_demandHull_13 dX11_demandHull_16 dX11_demandHull_17 dX11_demandHull_20 (Nat.le_of_ble_eq_true rfl) (by exact Nat.le_of_ble_eq_true rfl) ?_
    exact k0 h9
