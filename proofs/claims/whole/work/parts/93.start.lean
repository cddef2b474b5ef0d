/-! WHERE THE LAW BEGINS -/
def M0 : MM := (fun _ _ => 0, fun _ _ => 0, fun _ _ => 0, [])
theorem cln0 : Cln M0 := fun _ _ _ => ⟨rfl, rfl, rfl⟩
def IT : List (List Int32) := [[0, 0, 0, 0, 0, 0, 0, 0, (-1)], [0, 0, 0, 0, 0, 0, 0, 0, 0, 0, 1], [], [0, 0, 0, 0], [], [], [0, 0, 0, 0], [], [], [0, 0, 0, 0], [], [], [0, 0, 0, 0], [], [], [0, 0, 0, 0], [], [], [0, 0, 0, 0], [], [], [0, 0], [], [0, 0], [], [0, 1, 1, (-1), 0, 0], [0, 0], [], [0], [0, 0], [], [0, 0], [], [0, 0], [], [0, 0], [], [], [0, 0, 0, 0, 0, 0, 0, 0, 0, 0, 1], [], [0, 0, 0, 0], [], [], [0, 0, 0, 0], [], [], [0, 0, 0, 0], [], [], [0, 0, 0, 0], [], [], [0, 0, 0, 0], [], [], [0, 0, 0, 0], [], [], [0, 0], [], [0, 0], [], [0, 1, 1, (-1), 0, 0], [0, 0], [], [0], [0, 0], [], [0, 0], [], [0, 0], [], [0, 0], [], [0, 0, 0, 0, 0, 0, 0, 0, 0, 0, 1], [], [0, 0, 0, 0], [], [], [0, 0, 0, 0], [], [], [0, 0, 0, 0], [], [], [0, 0, 0, 0], [], [], [0, 0, 0, 0], [], [], [0, 0, 0, 0], [], [], [0, 0], [], [0, 0], [], [0, 1, 1, (-1), 0, 0], [0, 0], [], [0], [0, 0], [], [0, 0], [], [0, 0], [], [0, 0], [], [0, 0, 0, 0, 0, 0, 0, 0, 0, 0, 1], [], [0, 0, 0, 0], [], [], [0, 0, 0, 0], [], [], [0, 0, 0, 0], [], [], [0, 0, 0, 0], [], [], [0, 0, 0, 0], [], [], [0, 0, 0, 0], [], [], [0, 0], [], [0, 0], [], [0, 1, 1, (-1), 0, 0], [0, 0], [], [0], [0, 0], [], [0, 0], [], [0, 0], [], [0, 0], [], [0, 0], [], [0, 0, 0, 0, 0, 0, 0, 0, 0, 0, 0], [], [], [0, 0], [], [0, 0], [], [0, 0, 0, 0, 0, 0, 0, 0, 0], [0, 0, 0, 0, 0, 0], [], [], [], [0, 0, 0, 0, 0, 0], [0, 1, 1, (-1), 0, 0], [0, 1, 1, (-1), 0, 0], [0, 0, 0, (-1), 0, 0, 0, 0, 0, 0, 0, 0, 0, 0, 0, 0, 0, 0, 0, 0, 0, 0, 0, 0, 0, 0, 0, 0, 0, 0, 0, 1, 0, 0, 0, 0, 0, 0, 0, 0, 0, 0, 0, 0, 0], [], [], [], [], [], [], [], [], [], [], [], [], [], [], [], [], [], [], [], [], [], [], [], [], [], [], [], [], [], [], [0, 1, 1, (-1), 0, 0], [], [], [], [], [], [], [], [], [], [], [], [], [], [], [], [], [], [], [], [], [], [], [], [], [], [], [], [], [], [], [], [], [], [], [], [], [], [], [], [], [], [], [], [], [], [], [], [], [], [], [], [], [], [], [], [], [], [], [], [], [], [], [], [], [], [], [], [], [], [], [], [], [], [], [], [], [], [], [], [], [], [], [], [], []]
def zS1 : List (Nat × Nat) := fX11_S ++ fX12_S
def zR1 : List (List Nat) := fX11_R ++ fX12_R
def zI1 : List (List Int32) := fX11_I ++ fX12_I
def MF : MM := ((ap M0 S0 RT IT).1, (ap M0 S0 RT IT).2.1, R0, S0)
theorem RT_lt : ∀ r ∈ RT, ∀ x ∈ r, x < 284 := by decide +kernel
theorem R0_lt (a k : Nat) : R0 a k < 284 := by
  have hr : RT.getD (a - 4) [] = [] ∨ RT.getD (a - 4) [] ∈ RT := by
    cases h : RT[a - 4]? with
    | none => left; rw [List.getD_eq_getElem?_getD, h]; rfl
    | some r => right; rw [List.getD_eq_getElem?_getD, h]; exact List.mem_of_getElem? h
  unfold R0
  generalize RT.getD (a - 4) [] = r at hr ⊢
  rw [List.getD_eq_getElem?_getD]
  cases h2 : r[k]? with
  | none => exact (by decide : (0 : Nat) < 284)
  | some x =>
    rcases hr with rfl | hr
    · simp at h2
    · exact RT_lt r hr x (List.mem_of_getElem? h2)
theorem nxF : 284 = nx MF := by decide +kernel
def f0 : Nat → Int32 := fun z => if z = 6 ∨ z = 28 ∨ z = 29 then 1 else if z = 30 then -1 else 0
theorem F0x : Fx MF := ⟨⟨[], (List.append_nil S0).symm⟩, fun _ _ _ => rfl⟩
theorem z0 : nH f0 = 0 ∧ nT f0 = 0 ∧ nR f0 = 0 ∧ nE f0 = 0 ∧ nM f0 = 0 ∧ nFo f0 = 0 := by decide
theorem V0 : Vf f0 := by
  obtain ⟨a1, a2, a3, a4, a5, a6⟩ := z0
  refine ⟨⟨⟨by decide, by decide⟩, ⟨by decide, by decide⟩, ⟨by decide, by decide⟩, ⟨by decide, by decide⟩, ⟨by decide, by decide⟩, ⟨by decide, by decide⟩⟩, fun h hh => by omega, fun j hj => by omega, ⟨⟨0, by decide, Or.inr rfl⟩, ⟨by decide, by decide⟩, ⟨by decide, by decide⟩, Or.inl (by decide), Or.inl (by decide), ⟨by decide, by decide⟩⟩, fun r hr => by omega, fun j hj => by omega, fun j hj => by omega, fun j hj => by omega, fun j hj => by omega⟩
theorem W0 : Wd f0 5 MF := by
  obtain ⟨a1, a2, a3, a4, a5, a6⟩ := z0
  refine ⟨⟨by decide +kernel, by decide +kernel⟩, fun i hi => by omega, ⟨by decide +kernel, by decide +kernel, fun j hj => by omega⟩, by decide +kernel, ⟨by decide +kernel, fun j hj => by omega⟩, ⟨by decide +kernel, fun j hj => by omega⟩, ⟨by decide +kernel, fun j hj => by omega⟩, ⟨by decide +kernel, by decide +kernel, fun j hj => by omega⟩⟩
theorem Rd0 : Rd f0 MF := by
  have h : ∀ z, z < 665 → ldI MF (lA z) (lK z) = f0 z := by decide +kernel
  exact h
def T0 : Nat → TL := fun _ _ _ => 0
theorem XI0 : XI MF := ⟨f0, fun _ _ => 0, 0, fun _ => 0, 0, -1, 0, T0, 0, T0, fun _ => (fun _ => 0, 0), ⟨F0x, V0, W0, ⟨by decide +kernel, by omega, fun k hk => absurd hk (Nat.not_lt_zero k)⟩, ⟨by decide +kernel, by omega, fun k hk => absurd hk (Nat.not_lt_zero k)⟩, by decide +kernel, ⟨by decide +kernel, by omega, fun k hk => absurd hk (Nat.not_lt_zero k)⟩, ⟨by decide +kernel, by omega, fun k hk => absurd hk (Nat.not_lt_zero k)⟩⟩,
  ⟨F0x, Rd0, ⟨by decide +kernel, by omega, fun k hk => absurd hk (Nat.not_lt_zero k)⟩, ⟨by decide +kernel, by omega, fun k hk => absurd hk (Nat.not_lt_zero k)⟩, by decide +kernel, ⟨by decide +kernel, by omega⟩, ⟨by decide +kernel, by omega⟩, fun l hl => by omega⟩, ⟨fun l hl => absurd hl (Nat.not_lt_zero l), fun l hl => absurd hl (Nat.not_lt_zero l)⟩⟩
theorem law_start {g : GG} (hL : gL g ≤ 3072) : Cl g 60 2328 218884 mL_law_ [.ref 1] M0 QL := by
  refine Cl.of rfl (by decide) (Nat.le_of_ble_eq_true rfl) ?_
  show Wp g mL_law_ 60 2328 218884 0 [.ref 1, .retAddr 0, .retAddr 0, .retAddr 0, .retAddr 0, .retAddr 0, .retAddr 0, .retAddr 0] [] M0 QL
  refine r_new (ci := 11) dL_law__0 (Nat.le_of_ble_eq_true rfl) clL_8 inX11.1 inX11.2 ?_
  show Wp g mL_law_ _ _ _ 3 _ [.ref 4] (mk M0 (11, 0)) QL
  rw [mk_ap 9 9 cln0]
  refine r_dup dL_law__3 rfl ?_
  refine r_callI0 (d1 := 4) (c1 := 162) (n1 := 4046) dL_law__4 miL_122 (Nat.le_of_ble_eq_true rfl) (by exact Nat.le_of_ble_eq_true rfl) (by omega) ?_
  refine C_X11 rfl ?_
  show Wp g mL_law_ _ _ _ 7 _ (_ :: _) _ QL
  refine sa_1 dL_law__7 rfl (Nat.le_of_ble_eq_true rfl) ?_
  refine b_new (ci := 12) 45 45 ⟨by decide +kernel, by decide +kernel⟩ dL_law__8 (Nat.le_of_ble_eq_true rfl) clL_123 inX12.1 inX12.2 (show nx M0 = 4 from rfl) (a := 167) (by decide +kernel) ?_
  refine r_dup dL_law__11 rfl ?_
  refine r_callI0 (d1 := 1) (c1 := 115) (n1 := 6399) dL_law__12 miL_125 (Nat.le_of_ble_eq_true rfl) (by exact Nat.le_of_ble_eq_true rfl) (by omega) ?_
  refine C_X12 (nx_at (show nx M0 = 4 from rfl) (by decide +kernel)) ?_
  show Wp g mL_law_ _ _ _ 15 _ (_ :: _) _ QL
  refine a_merge ⟨by decide +kernel, by decide +kernel⟩ (S' := zS1) (R' := zR1) (I' := zI1) rfl rfl rfl ?_
  refine sa_2 dL_law__15 rfl (Nat.le_of_ble_eq_true rfl) ?_
  refine r_iconst (1) dL_law__16 rfl ?_
  refine a_newL 1 ⟨by decide +kernel, by decide +kernel⟩ dL_law__17 (by decide) (by decide) (by decide) (show nx M0 = 4 from rfl) (S' := S0) (R' := RT) (I' := IT) (by decide +kernel) (by decide +kernel) (by decide +kernel) (a := 283) (by decide +kernel) ?_
  refine sa_3 dL_law__19 rfl (Nat.le_of_ble_eq_true rfl) ?_
  refine r_iconst (0) dL_law__20 rfl ?_
  refine si_4 dL_law__21 rfl (Nat.le_of_ble_eq_true rfl) ?_
  refine w_ghost (m' := MF) rfl rfl (fun a k h => (if_neg (show ¬ a < nx M0 from Nat.not_lt.mpr h)).symm) rfl (fun a k => Nat.lt_of_lt_of_eq (R0_lt a k) nxF) ?_
  refine w_wide (c' := 4 * 512) (n' := 407 * 512) (by omega) (by omega) ?_
  exact law_loop hL 512 0 MF XI0 (by omega) (by omega)
