def r6 (x y z w u v : Int32) : Nat → Int32 := fun j => match j with
  | 0 => x
  | 1 => y
  | 2 => z
  | 3 => w
  | 4 => u
  | _ => v
theorem r6_ld {m : MM} {a : Nat} {x y z w u v : Int32} : ∀ j, j < 6 → ldI (rDr (rPl m a x y z w) a u v) a j = r6 x y z w u v j
  | 0, _ => ld_n (by omega) (ld_n (by omega) (ld_n (by omega) (ld_n (by omega) (ld_n (by omega) ld_s))))
  | 1, _ => ld_n (by omega) (ld_n (by omega) (ld_n (by omega) (ld_n (by omega) ld_s)))
  | 2, _ => ld_n (by omega) (ld_n (by omega) (ld_n (by omega) ld_s))
  | 3, _ => ld_n (by omega) (ld_n (by omega) ld_s)
  | 4, _ => ld_n (by omega) ld_s
  | 5, _ => ld_s
  | j + 6, h => absurd h (by omega)
theorem rDrPl_off {m : MM} {a : Nat} {x y z w u v : Int32} : Off a a m (rDr (rPl m a x y z w) a u v) := (((((Off.rf.stI (by omega) (by omega)).stI (by omega) (by omega)).stI (by omega) (by omega)).stI (by omega) (by omega)).stI (by omega) (by omega)).stI (by omega) (by omega)
def PvV (f : Nat → Int32) (h : Nat) (T : (Nat → Int64) → Nat → Int64) (rv : Nat → Int32) : Int64 := puF (T (cut (NmH f h rv)))
theorem S_X0_calm {g : GG} {m : MM} {Q : Out → Prop} (hF : Fx m) {f : Nat → Int32} (hV : Vf f) (hW : Wd f 5 m) {h : Nat} (hh0 : f 27 = nI h) (hh : h < nH f) {x y : Int32} (k : ∀ m', Off 165 165 m m' → (∀ j, j < 6 → ldI m' 165 j = r6 (f 27) x y (-1) 0 0 j) → Q (.inl (some (.ref 165)), m')) : Cl g 1 0 0 mX0_calm [.ref 159, .int x, .int y] m Q := by
  refine Cl.of rfl (by decide) (Nat.le_of_ble_eq_true rfl) ?_
  show Wp g mX0_calm 1 0 0 0 [.ref 159, .int x, .int y] [] m Q
  refine r_aload_n dX0_calm_0 rfl ?_
  refine r_getRc dX0_calm_1 fgX0_32 rfl (by exact k_159 hF) (by exact r_159_3 hF) ?_
  refine r_aload_n dX0_calm_4 rfl ?_
  refine r_getRc dX0_calm_5 fgX0_9 rfl (by exact k_159 hF) (by exact r_159_0 hF) ?_
  refine r_getRc dX0_calm_8 fgX0_47 rfl (by exact k_5 hF) (by exact r_5_4 hF) ?_
  refine r_getIc (f 27) dX0_calm_11 fgX0_60 rfl (by exact k_29 hF) (by exact hW.2.2.2.1 0 (by omega)) ?_
  refine r_iload_n dX0_calm_14 rfl ?_
  refine r_iload_n dX0_calm_15 rfl ?_
  refine r_iconst (-1) dX0_calm_16 rfl ?_
  refine r_callV4 (ci := 6) (d1 := 0) (c1 := 0) (n1 := 0) dX0_calm_17 mvX0_138 rfl ⟨(Nat.le_of_ble_eq_true rfl), rfl⟩ (Nat.le_of_ble_eq_true rfl) (by exact Nat.le_of_ble_eq_true rfl) (by exact k_165 hF) ?_
  refine S_X6_place (by exact k_165 hF) ?_
  show Wp g mX0_calm _ _ _ 20 _ [] _ Q
  refine r_aload_n dX0_calm_20 rfl ?_
  refine r_getRc dX0_calm_21 fgX0_32 rfl (by exact k_159 hF) (by exact r_159_3 hF) ?_
  refine r_iconst (0) dX0_calm_24 rfl ?_
  refine r_iconst (0) dX0_calm_25 rfl ?_
  refine r_callV2 (ci := 6) (d1 := 0) (c1 := 0) (n1 := 0) dX0_calm_26 mvX0_142 rfl ⟨(Nat.le_of_ble_eq_true rfl), rfl⟩ (Nat.le_of_ble_eq_true rfl) (by exact Nat.le_of_ble_eq_true rfl) (by exact k_165 hF) ?_
  refine S_X6_dress (by exact k_165 hF) (Or.inl rfl) ?_
  show Wp g mX0_calm _ _ _ 29 _ [] _ Q
  refine r_aload_n dX0_calm_29 rfl ?_
  refine r_getRc dX0_calm_30 fgX0_32 rfl (by exact k_159 hF) (by exact r_159_3 hF) ?_
  refine r_areturn dX0_calm_33 rfl rfl ?_
  exact k _ rDrPl_off r6_ld
theorem rPl_o {m : MM} {a b k : Nat} {x y z w : Int32} (h : b ≠ a) : ldI (rPl m a x y z w) b k = ldI m b k := ld_n (by omega) (ld_n (by omega) (ld_n (by omega) (ld_n (by omega) rfl)))
theorem mvM_ld {m : MM} {a : Nat} {x y z w u v s t : Int32} : ∀ j, j < 6 → ldI (stI (stI (rDr (rPl m a x y z w) a u v) a 1 s) a 3 t) a j = r6 x s z t u v j
  | 0, _ => ld_n (by omega) (ld_n (by omega) (r6_ld 0 (by omega)))
  | 1, _ => ld_n (by omega) ld_s
  | 2, _ => ld_n (by omega) (ld_n (by omega) (r6_ld 2 (by omega)))
  | 3, _ => ld_s
  | 4, _ => ld_n (by omega) (ld_n (by omega) (r6_ld 4 (by omega)))
  | 5, _ => ld_n (by omega) (ld_n (by omega) (r6_ld 5 (by omega)))
  | j + 6, h => absurd h (by omega)
theorem S_X0_moved {g : GG} {m : MM} {Q : Out → Prop} (hF : Fx m) {f : Nat → Int32} (hV : Vf f) (hW : Wd f 5 m) {h : Nat} (hh0 : f 27 = nI h) (hh : h < nH f) {x y : Int32} (k : ∀ m', Off 165 165 m m' → (∀ j, j < 6 → ldI m' 165 j = r6 (f 27) x (f 29) y (f 31) (f 32) j) → Q (.inl (some (.ref 165)), m')) : Cl g 2 0 0 mX0_moved [.ref 159, .int x, .int y] m Q := by
  refine Cl.of rfl (by decide) (Nat.le_of_ble_eq_true rfl) ?_
  show Wp g mX0_moved 2 0 0 0 [.ref 159, .int x, .int y] [] m Q
  have e0 : ∀ k, k < 6 → ldI (rPl m 165 (ldI m 29 0) (ldI m 29 1) (ldI m 29 2) (ldI m 29 3)) 29 k = f (27 + k) := fun k hk => (rPl_o (by omega)).trans (hW.2.2.2.1 k hk)
  refine r_aload_n dX0_moved_0 rfl ?_
  refine r_getRc dX0_moved_1 fgX0_32 rfl (by exact k_159 hF) (by exact r_159_3 hF) ?_
  refine r_aload_n dX0_moved_4 rfl ?_
  refine r_getRc dX0_moved_5 fgX0_9 rfl (by exact k_159 hF) (by exact r_159_0 hF) ?_
  refine r_getRc dX0_moved_8 fgX0_47 rfl (by exact k_5 hF) (by exact r_5_4 hF) ?_
  refine r_callV1 (ci := 6) (d1 := 1) (c1 := 0) (n1 := 0) dX0_moved_11 mvX0_146 rfl ⟨(Nat.le_of_ble_eq_true rfl), rfl⟩ (Nat.le_of_ble_eq_true rfl) (by exact Nat.le_of_ble_eq_true rfl) (by exact k_165 hF) ?_
  refine S_X6_copyFrom (by exact k_165 hF) (by exact k_29 hF) (by rw [e0 4 (by omega)]; exact hV.2.2.2.1.2.2.2.2.1) ?_
  show Wp g mX0_moved _ _ _ 14 _ [] _ Q
  refine r_aload_n dX0_moved_14 rfl ?_
  refine r_getRc dX0_moved_15 fgX0_32 rfl (by exact k_159 hF) (by exact r_159_3 hF) ?_
  refine r_iload_n dX0_moved_18 rfl ?_
  refine r_putI dX0_moved_19 (fpX0_68 _ rfl) rfl (by exact k_165 hF) ⟨rfl, rfl⟩ ?_
  refine r_aload_n dX0_moved_22 rfl ?_
  refine r_getRc dX0_moved_23 fgX0_32 rfl (by exact k_159 hF) (by exact r_159_3 hF) ?_
  refine r_iload_n dX0_moved_26 rfl ?_
  refine r_putI dX0_moved_27 (fpX0_103 _ rfl) rfl (by exact k_165 hF) ⟨rfl, rfl⟩ ?_
  refine r_aload_n dX0_moved_30 rfl ?_
  refine r_getRc dX0_moved_31 fgX0_32 rfl (by exact k_159 hF) (by exact r_159_3 hF) ?_
  refine r_areturn dX0_moved_34 rfl rfl ?_
  have k9 := k (stI (stI (rDr (rPl m 165 (f 27) (f 28) (f 29) (f 30)) 165 (f 31) (f 32)) 165 1 x) 165 3 y) ((rDrPl_off.stI (by omega) (by omega)).stI (by omega) (by omega)) mvM_ld
  rw [show rDr (rPl m 165 (f 27) (f 28) (f 29) (f 30)) 165 (f 31) (f 32) = rCp m 165 29 from (by unfold rCp; rw [hW.2.2.2.1 0 (by omega), hW.2.2.2.1 1 (by omega), hW.2.2.2.1 2 (by omega), hW.2.2.2.1 3 (by omega), rPl_o (by omega), rPl_o (by omega), hW.2.2.2.1 4 (by omega), hW.2.2.2.1 5 (by omega)])] at k9
  exact k9
theorem S_pullPart0 {g : GG} {m : MM} {Q : Out → Prop} (hF : Fx m) {f : Nat → Int32} (hV : Vf f) (hW : Wd f 5 m) {h : Nat} (hh0 : f 27 = nI h) (hh : h < nH f) {p : Nat} {T : (Nat → Int64) → Nat → Int64} (hp : Pr T p m) (k : ∀ m', Off 160 166 m m' → Q (.inl (some (.long (PvV f h T (hd f)))), m')) : Cl g 4 0 0 mX0_pullPart [.ref 159, .ref p, .int 0] m Q := by
  refine Cl.of rfl (by decide) (Nat.le_of_ble_eq_true rfl) ?_
  show Wp g mX0_pullPart 4 0 0 0 [.ref 159, .ref p, .int 0, .retAddr 0, .retAddr 0] [] m Q
  have hn6 := hV.1.1.2
  refine r_aload_n dX0_pullPart_0 rfl ?_
  refine r_aload_n dX0_pullPart_1 rfl ?_
  refine r_aload_n dX0_pullPart_2 rfl ?_
  refine r_getRc dX0_pullPart_3 fgX0_9 rfl (by exact k_159 hF) (by exact r_159_0 hF) ?_
  refine r_getRc dX0_pullPart_6 fgX0_47 rfl (by exact k_5 hF) (by exact r_5_4 hF) ?_
  refine r_callV2 (ci := 0) (d1 := 3) (c1 := 0) (n1 := 0) dX0_pullPart_9 mvX0_149 rfl ⟨(Nat.le_of_ble_eq_true rfl), rfl⟩ (Nat.le_of_ble_eq_true rfl) (by exact Nat.le_of_ble_eq_true rfl) (by exact k_159 hF) ?_
  refine S_X0_pullOf hF hV hW (r := 29) (h := h) (rv := hd f) (by exact k_29 hF) (by omega) (fun j hj => hW.2.2.2.1 j hj) hh0 hh hp (fun m1 q1 hT1 hs1 ha1 => ?_)
  have o1 := (Off.rf (lo := 160) (hi := 166) (m := m)).tr ((q1).wd (by omega) (by omega))
  have hF1 := Fx_of o1.1 hF
  have hW1 := hW.off o1 (by omega) hn6
  show Wp g mX0_pullPart _ _ _ 12 _ (_ :: _) _ Q
  refine sl_3 dX0_pullPart_12 rfl (Nat.le_of_ble_eq_true rfl) ?_
  refine r_iload_n dX0_pullPart_13 rfl ?_
  refine r_tabIn 44 dX0_pullPart_14 (by decide) (by decide) rfl rfl ?_
  refine r_lload_n dX0_pullPart_44 rfl ?_
  refine r_lreturn dX0_pullPart_45 rfl ?_
  exact k m1 o1
theorem S_pullPart1 {g : GG} {m : MM} {Q : Out → Prop} (hF : Fx m) {f : Nat → Int32} (hV : Vf f) (hW : Wd f 5 m) {h : Nat} (hh0 : f 27 = nI h) (hh : h < nH f) {p : Nat} {T : (Nat → Int64) → Nat → Int64} (hp : Pr T p m) (k : ∀ m', Off 160 166 m m' → Q (.inl (some (.long (skF (T (cut (NmH f h (hd f))))))), m')) : Cl g 4 0 0 mX0_pullPart [.ref 159, .ref p, .int 1] m Q := by
  refine Cl.of rfl (by decide) (Nat.le_of_ble_eq_true rfl) ?_
  show Wp g mX0_pullPart 4 0 0 0 [.ref 159, .ref p, .int 1, .retAddr 0, .retAddr 0] [] m Q
  have hn6 := hV.1.1.2
  refine r_aload_n dX0_pullPart_0 rfl ?_
  refine r_aload_n dX0_pullPart_1 rfl ?_
  refine r_aload_n dX0_pullPart_2 rfl ?_
  refine r_getRc dX0_pullPart_3 fgX0_9 rfl (by exact k_159 hF) (by exact r_159_0 hF) ?_
  refine r_getRc dX0_pullPart_6 fgX0_47 rfl (by exact k_5 hF) (by exact r_5_4 hF) ?_
  refine r_callV2 (ci := 0) (d1 := 3) (c1 := 0) (n1 := 0) dX0_pullPart_9 mvX0_149 rfl ⟨(Nat.le_of_ble_eq_true rfl), rfl⟩ (Nat.le_of_ble_eq_true rfl) (by exact Nat.le_of_ble_eq_true rfl) (by exact k_159 hF) ?_
  refine S_X0_pullOf hF hV hW (r := 29) (h := h) (rv := hd f) (by exact k_29 hF) (by omega) (fun j hj => hW.2.2.2.1 j hj) hh0 hh hp (fun m1 q1 hT1 hs1 ha1 => ?_)
  have o1 := (Off.rf (lo := 160) (hi := 166) (m := m)).tr ((q1).wd (by omega) (by omega))
  have hF1 := Fx_of o1.1 hF
  have hW1 := hW.off o1 (by omega) hn6
  show Wp g mX0_pullPart _ _ _ 12 _ (_ :: _) _ Q
  refine sl_3 dX0_pullPart_12 rfl (Nat.le_of_ble_eq_true rfl) ?_
  refine r_iload_n dX0_pullPart_13 rfl ?_
  refine r_tabIn 46 dX0_pullPart_14 (by decide) (by decide) rfl rfl ?_
  refine r_aload_n dX0_pullPart_46 rfl ?_
  refine r_getRc dX0_pullPart_47 fgX0_18 rfl (by exact k_159 hF1) (by exact r_159_1 hF1) ?_
  refine r_getL dX0_pullPart_50 fgX0_153 rfl (by exact k_160 hF1) ?_
  refine r_lreturn dX0_pullPart_53 rfl ?_
  rw [show ldL m1 160 4 = _ from hs1]; exact k m1 o1
theorem S_pullPart2 {g : GG} {m : MM} {Q : Out → Prop} (hF : Fx m) {f : Nat → Int32} (hV : Vf f) (hW : Wd f 5 m) {h : Nat} (hh0 : f 27 = nI h) (hh : h < nH f) {p : Nat} {T : (Nat → Int64) → Nat → Int64} (hp : Pr T p m) (k : ∀ m', Off 160 166 m m' → Q (.inl (some (.long (capT 1 (T (cut (NmH f h (hd f))) 1)))), m')) : Cl g 4 0 0 mX0_pullPart [.ref 159, .ref p, .int 2] m Q := by
  refine Cl.of rfl (by decide) (Nat.le_of_ble_eq_true rfl) ?_
  show Wp g mX0_pullPart 4 0 0 0 [.ref 159, .ref p, .int 2, .retAddr 0, .retAddr 0] [] m Q
  have hn6 := hV.1.1.2
  refine r_aload_n dX0_pullPart_0 rfl ?_
  refine r_aload_n dX0_pullPart_1 rfl ?_
  refine r_aload_n dX0_pullPart_2 rfl ?_
  refine r_getRc dX0_pullPart_3 fgX0_9 rfl (by exact k_159 hF) (by exact r_159_0 hF) ?_
  refine r_getRc dX0_pullPart_6 fgX0_47 rfl (by exact k_5 hF) (by exact r_5_4 hF) ?_
  refine r_callV2 (ci := 0) (d1 := 3) (c1 := 0) (n1 := 0) dX0_pullPart_9 mvX0_149 rfl ⟨(Nat.le_of_ble_eq_true rfl), rfl⟩ (Nat.le_of_ble_eq_true rfl) (by exact Nat.le_of_ble_eq_true rfl) (by exact k_159 hF) ?_
  refine S_X0_pullOf hF hV hW (r := 29) (h := h) (rv := hd f) (by exact k_29 hF) (by omega) (fun j hj => hW.2.2.2.1 j hj) hh0 hh hp (fun m1 q1 hT1 hs1 ha1 => ?_)
  have o1 := (Off.rf (lo := 160) (hi := 166) (m := m)).tr ((q1).wd (by omega) (by omega))
  have hF1 := Fx_of o1.1 hF
  have hW1 := hW.off o1 (by omega) hn6
  show Wp g mX0_pullPart _ _ _ 12 _ (_ :: _) _ Q
  refine sl_3 dX0_pullPart_12 rfl (Nat.le_of_ble_eq_true rfl) ?_
  refine r_iload_n dX0_pullPart_13 rfl ?_
  refine r_tabIn 54 dX0_pullPart_14 (by decide) (by decide) rfl rfl ?_
  refine r_aload_n dX0_pullPart_54 rfl ?_
  refine r_getRc dX0_pullPart_55 fgX0_18 rfl (by exact k_159 hF1) (by exact r_159_1 hF1) ?_
  refine r_iconst (1) dX0_pullPart_58 rfl ?_
  refine r_callV1 (ci := 9) (d1 := 1) (c1 := 0) (n1 := 0) dX0_pullPart_59 mvX0_131 rfl ⟨(Nat.le_of_ble_eq_true rfl), rfl⟩ (Nat.le_of_ble_eq_true rfl) (by exact Nat.le_of_ble_eq_true rfl) (by exact k_160 hF1) ?_
  refine S_told1 hF1 ?_
  show Wp g mX0_pullPart _ _ _ 62 _ (_ :: _) _ Q
  refine r_lreturn dX0_pullPart_62 rfl ?_
  rw [hT1 1 (by omega)]; exact k m1 o1
theorem S_pullPart3 {g : GG} {m : MM} {Q : Out → Prop} (hF : Fx m) {f : Nat → Int32} (hV : Vf f) (hW : Wd f 5 m) {h : Nat} (hh0 : f 27 = nI h) (hh : h < nH f) {p : Nat} {T : (Nat → Int64) → Nat → Int64} (hp : Pr T p m) (k : ∀ m', Off 160 166 m m' → Q (.inl (some (.long (capT 2 (T (cut (NmH f h (hd f))) 2)))), m')) : Cl g 4 0 0 mX0_pullPart [.ref 159, .ref p, .int 3] m Q := by
  refine Cl.of rfl (by decide) (Nat.le_of_ble_eq_true rfl) ?_
  show Wp g mX0_pullPart 4 0 0 0 [.ref 159, .ref p, .int 3, .retAddr 0, .retAddr 0] [] m Q
  have hn6 := hV.1.1.2
  refine r_aload_n dX0_pullPart_0 rfl ?_
  refine r_aload_n dX0_pullPart_1 rfl ?_
  refine r_aload_n dX0_pullPart_2 rfl ?_
  refine r_getRc dX0_pullPart_3 fgX0_9 rfl (by exact k_159 hF) (by exact r_159_0 hF) ?_
  refine r_getRc dX0_pullPart_6 fgX0_47 rfl (by exact k_5 hF) (by exact r_5_4 hF) ?_
  refine r_callV2 (ci := 0) (d1 := 3) (c1 := 0) (n1 := 0) dX0_pullPart_9 mvX0_149 rfl ⟨(Nat.le_of_ble_eq_true rfl), rfl⟩ (Nat.le_of_ble_eq_true rfl) (by exact Nat.le_of_ble_eq_true rfl) (by exact k_159 hF) ?_
  refine S_X0_pullOf hF hV hW (r := 29) (h := h) (rv := hd f) (by exact k_29 hF) (by omega) (fun j hj => hW.2.2.2.1 j hj) hh0 hh hp (fun m1 q1 hT1 hs1 ha1 => ?_)
  have o1 := (Off.rf (lo := 160) (hi := 166) (m := m)).tr ((q1).wd (by omega) (by omega))
  have hF1 := Fx_of o1.1 hF
  have hW1 := hW.off o1 (by omega) hn6
  show Wp g mX0_pullPart _ _ _ 12 _ (_ :: _) _ Q
  refine sl_3 dX0_pullPart_12 rfl (Nat.le_of_ble_eq_true rfl) ?_
  refine r_iload_n dX0_pullPart_13 rfl ?_
  refine r_tabIn 63 dX0_pullPart_14 (by decide) (by decide) rfl rfl ?_
  refine r_aload_n dX0_pullPart_63 rfl ?_
  refine r_getRc dX0_pullPart_64 fgX0_18 rfl (by exact k_159 hF1) (by exact r_159_1 hF1) ?_
  refine r_iconst (2) dX0_pullPart_67 rfl ?_
  refine r_callV1 (ci := 9) (d1 := 1) (c1 := 0) (n1 := 0) dX0_pullPart_68 mvX0_131 rfl ⟨(Nat.le_of_ble_eq_true rfl), rfl⟩ (Nat.le_of_ble_eq_true rfl) (by exact Nat.le_of_ble_eq_true rfl) (by exact k_160 hF1) ?_
  refine S_told2 hF1 ?_
  show Wp g mX0_pullPart _ _ _ 71 _ (_ :: _) _ Q
  refine r_lreturn dX0_pullPart_71 rfl ?_
  rw [hT1 2 (by omega)]; exact k m1 o1
theorem S_pullPart4 {g : GG} {m : MM} {Q : Out → Prop} (hF : Fx m) {f : Nat → Int32} (hV : Vf f) (hW : Wd f 5 m) {h : Nat} (hh0 : f 27 = nI h) (hh : h < nH f) {p : Nat} {T : (Nat → Int64) → Nat → Int64} (hp : Pr T p m) (k : ∀ m', Off 160 166 m m' → Q (.inl (some (.long (alF (T (cut (NmH f h (hd f))))))), m')) : Cl g 4 0 0 mX0_pullPart [.ref 159, .ref p, .int 4] m Q := by
  refine Cl.of rfl (by decide) (Nat.le_of_ble_eq_true rfl) ?_
  show Wp g mX0_pullPart 4 0 0 0 [.ref 159, .ref p, .int 4, .retAddr 0, .retAddr 0] [] m Q
  have hn6 := hV.1.1.2
  refine r_aload_n dX0_pullPart_0 rfl ?_
  refine r_aload_n dX0_pullPart_1 rfl ?_
  refine r_aload_n dX0_pullPart_2 rfl ?_
  refine r_getRc dX0_pullPart_3 fgX0_9 rfl (by exact k_159 hF) (by exact r_159_0 hF) ?_
  refine r_getRc dX0_pullPart_6 fgX0_47 rfl (by exact k_5 hF) (by exact r_5_4 hF) ?_
  refine r_callV2 (ci := 0) (d1 := 3) (c1 := 0) (n1 := 0) dX0_pullPart_9 mvX0_149 rfl ⟨(Nat.le_of_ble_eq_true rfl), rfl⟩ (Nat.le_of_ble_eq_true rfl) (by exact Nat.le_of_ble_eq_true rfl) (by exact k_159 hF) ?_
  refine S_X0_pullOf hF hV hW (r := 29) (h := h) (rv := hd f) (by exact k_29 hF) (by omega) (fun j hj => hW.2.2.2.1 j hj) hh0 hh hp (fun m1 q1 hT1 hs1 ha1 => ?_)
  have o1 := (Off.rf (lo := 160) (hi := 166) (m := m)).tr ((q1).wd (by omega) (by omega))
  have hF1 := Fx_of o1.1 hF
  have hW1 := hW.off o1 (by omega) hn6
  show Wp g mX0_pullPart _ _ _ 12 _ (_ :: _) _ Q
  refine sl_3 dX0_pullPart_12 rfl (Nat.le_of_ble_eq_true rfl) ?_
  refine r_iload_n dX0_pullPart_13 rfl ?_
  refine r_tabOut 72 dX0_pullPart_14 (by decide) rfl ?_
  refine r_aload_n dX0_pullPart_72 rfl ?_
  refine r_getRc dX0_pullPart_73 fgX0_18 rfl (by exact k_159 hF1) (by exact r_159_1 hF1) ?_
  refine r_getL dX0_pullPart_76 fgX0_157 rfl (by exact k_160 hF1) ?_
  refine r_lreturn dX0_pullPart_79 rfl ?_
  rw [show ldL m1 160 5 = _ from ha1]; exact k m1 o1
def shS (rv : Nat → Int32) : Int64 := if 99 < rtF ((rv 1).toInt64 * (rv 2).toInt64 * (rv 2).toInt64) then 99 else rtF ((rv 1).toInt64 * (rv 2).toInt64 * (rv 2).toInt64)
def ndR (f : Nat → Int32) (h : Nat) (T : (Nat → Int64) → Nat → Int64) (rv : Nat → Int32) (pl : Int64) : Int64 := if 0 < pl - capT 5 (T (cut (NmH f h rv)) 5) then pl - capT 5 (T (cut (NmH f h rv)) 5) else 0
def ndG (f : Nat → Int32) (h : Nat) (T : (Nat → Int64) → Nat → Int64) (rv : Nat → Int32) (pl : Int64) : Int64 := ndR f h T rv pl * (rv 1).toInt64 * (rv 1).toInt64 * (rv 1).toInt64
def shR (rv : Nat → Int32) : Nat → Int32 := r6 (rv 0) 1 (shS rv).toInt32 (-1) 0 (rv 5)
def ndA (f : Nat → Int32) (h : Nat) (T : (Nat → Int64) → Nat → Int64) (rv : Nat → Int32) (pl : Int64) : Int64 := ndG f h T rv pl + capT 6 (T (cut (NmH f h (shR rv))) 6)
def ndV (f : Nat → Int32) (h : Nat) (T : (Nat → Int64) → Nat → Int64) (rv : Nat → Int32) (pl : Int64) : Int64 := ndA f h T rv pl + ndA f h T rv pl * capT 7 (T (cut (NmH f h (shR rv))) 7) / 100
theorem S_need29_0 {g : GG} {m : MM} {Q : Out → Prop} (hF : Fx m) {f : Nat → Int32} (hV : Vf f) (hW : Wd f 5 m) {h : Nat} (hh0 : f 27 = nI h) (hh : h < nH f) {p : Nat} {T : (Nat → Int64) → Nat → Int64} (hp : Pr T p m) {pl : Int64} (k : ∀ m', Off 160 166 m m' → Q (.inl (some (.long (ndR f h T (hd f) pl))), m')) : Cl g 4 0 0 mX0_needPart [.ref 159, .ref p, .ref 29, .long pl, .int 0] m Q := by
  refine Cl.of rfl (by decide) (Nat.le_of_ble_eq_true rfl) ?_
  show Wp g mX0_needPart 4 0 0 0 [.ref 159, .ref p, .ref 29, .long pl, .retAddr 0, .int 0, .retAddr 0, .retAddr 0, .retAddr 0, .retAddr 0, .retAddr 0, .retAddr 0, .retAddr 0, .retAddr 0, .retAddr 0, .retAddr 0] [] m Q
  have hn6 := hV.1.1.2
  refine r_aload_n dX0_needPart_0 rfl ?_
  refine r_getIc (hd f 1) dX0_needPart_1 fgX0_68 rfl (by exact k_29 hF) (by exact hW.2.2.2.1 1 (by omega)) ?_
  refine r_i2l dX0_needPart_4 ?_
  refine sl_6 dX0_needPart_5 rfl (Nat.le_of_ble_eq_true rfl) ?_
  refine r_lload dX0_needPart_7 rfl ?_
  refine r_aload_n dX0_needPart_9 rfl ?_
  refine r_getIc (hd f 2) dX0_needPart_10 fgX0_78 rfl (by exact k_29 hF) (by exact hW.2.2.2.1 2 (by omega)) ?_
  refine r_i2l dX0_needPart_13 ?_
  refine r_lmul dX0_needPart_14 ?_
  refine r_aload_n dX0_needPart_15 rfl ?_
  refine r_getIc (hd f 2) dX0_needPart_16 fgX0_78 rfl (by exact k_29 hF) (by exact hW.2.2.2.1 2 (by omega)) ?_
  refine r_i2l dX0_needPart_19 ?_
  refine r_lmul dX0_needPart_20 ?_
  refine r_callN1 (d1 := 0) (c1 := 0) (n1 := 0) dX0_needPart_21 msX0_160 (Nat.le_of_ble_eq_true rfl) (by exact Nat.le_of_ble_eq_true rfl) ?_
  refine S_X11_rootOf ?_
  show Wp g mX0_needPart _ _ _ 24 _ (_ :: _) _ Q
  refine r_ldc2 (99) dX0_needPart_24 ctX0_164 ?_
  refine r_mminL dX0_needPart_27 msX0_166 (Nat.le_of_ble_eq_true rfl) (by exact Nat.le_of_ble_eq_true rfl) ?_
  refine sl_8 dX0_needPart_30 (by first | rfl | assumption) (Nat.le_of_ble_eq_true rfl) ?_
  refine r_iload dX0_needPart_32 rfl ?_
  refine r_iconst (3) dX0_needPart_34 rfl ?_
  refine r_icmp_ne 41 dX0_needPart_35 rfl (fun _ => ?_) (fun hz => absurd hz (by decide))
  refine r_lload_n dX0_needPart_41 rfl ?_
  refine r_aload_n dX0_needPart_42 rfl ?_
  refine r_aload_n dX0_needPart_43 rfl ?_
  refine r_aload_n dX0_needPart_44 rfl ?_
  refine r_iconst (5) dX0_needPart_45 rfl ?_
  refine r_callV3 (ci := 0) (d1 := 3) (c1 := 0) (n1 := 0) dX0_needPart_46 mvX0_171 rfl ⟨(Nat.le_of_ble_eq_true rfl), rfl⟩ (Nat.le_of_ble_eq_true rfl) (by exact Nat.le_of_ble_eq_true rfl) (by exact k_159 hF) ?_
  refine S_toldBy5 hF hV hW (r := 29) (h := h) (rv := hd f) (by exact k_29 hF) (by omega) (fun j hj => hW.2.2.2.1 j hj) hh0 hh hp (fun m1 q1 hT1 => ?_)
  have o1 := (Off.rf (lo := 160) (hi := 166) (m := m)).tr ((q1).wd (by omega) (by omega))
  have hF1 := Fx_of o1.1 hF
  have hW1 := hW.off o1 (by omega) hn6
  show Wp g mX0_needPart _ _ _ 49 _ (_ :: _) _ Q
  refine r_lsub dX0_needPart_49 ?_
  refine r_lconst (0) dX0_needPart_50 rfl ?_
  refine r_mmaxL dX0_needPart_51 msX0_175 (Nat.le_of_ble_eq_true rfl) (by exact Nat.le_of_ble_eq_true rfl) ?_
  refine sl_10 dX0_needPart_54 (by first | rfl | assumption) (Nat.le_of_ble_eq_true rfl) ?_
  refine r_iload dX0_needPart_56 rfl ?_
  refine r_if_ne 64 dX0_needPart_58 rfl (fun hz => absurd hz (by decide)) (fun _ => ?_)
  refine r_lload dX0_needPart_61 rfl ?_
  refine r_lreturn dX0_needPart_63 rfl ?_
  exact k m1 o1
theorem S_need29_1 {g : GG} {m : MM} {Q : Out → Prop} (hF : Fx m) {f : Nat → Int32} (hV : Vf f) (hW : Wd f 5 m) {h : Nat} (hh0 : f 27 = nI h) (hh : h < nH f) {p : Nat} {T : (Nat → Int64) → Nat → Int64} (hp : Pr T p m) {pl : Int64} (k : ∀ m', Off 160 166 m m' → Q (.inl (some (.long (ndG f h T (hd f) pl))), m')) : Cl g 4 0 0 mX0_needPart [.ref 159, .ref p, .ref 29, .long pl, .int 1] m Q := by
  refine Cl.of rfl (by decide) (Nat.le_of_ble_eq_true rfl) ?_
  show Wp g mX0_needPart 4 0 0 0 [.ref 159, .ref p, .ref 29, .long pl, .retAddr 0, .int 1, .retAddr 0, .retAddr 0, .retAddr 0, .retAddr 0, .retAddr 0, .retAddr 0, .retAddr 0, .retAddr 0, .retAddr 0, .retAddr 0] [] m Q
  have hn6 := hV.1.1.2
  refine r_aload_n dX0_needPart_0 rfl ?_
  refine r_getIc (hd f 1) dX0_needPart_1 fgX0_68 rfl (by exact k_29 hF) (by exact hW.2.2.2.1 1 (by omega)) ?_
  refine r_i2l dX0_needPart_4 ?_
  refine sl_6 dX0_needPart_5 rfl (Nat.le_of_ble_eq_true rfl) ?_
  refine r_lload dX0_needPart_7 rfl ?_
  refine r_aload_n dX0_needPart_9 rfl ?_
  refine r_getIc (hd f 2) dX0_needPart_10 fgX0_78 rfl (by exact k_29 hF) (by exact hW.2.2.2.1 2 (by omega)) ?_
  refine r_i2l dX0_needPart_13 ?_
  refine r_lmul dX0_needPart_14 ?_
  refine r_aload_n dX0_needPart_15 rfl ?_
  refine r_getIc (hd f 2) dX0_needPart_16 fgX0_78 rfl (by exact k_29 hF) (by exact hW.2.2.2.1 2 (by omega)) ?_
  refine r_i2l dX0_needPart_19 ?_
  refine r_lmul dX0_needPart_20 ?_
  refine r_callN1 (d1 := 0) (c1 := 0) (n1 := 0) dX0_needPart_21 msX0_160 (Nat.le_of_ble_eq_true rfl) (by exact Nat.le_of_ble_eq_true rfl) ?_
  refine S_X11_rootOf ?_
  show Wp g mX0_needPart _ _ _ 24 _ (_ :: _) _ Q
  refine r_ldc2 (99) dX0_needPart_24 ctX0_164 ?_
  refine r_mminL dX0_needPart_27 msX0_166 (Nat.le_of_ble_eq_true rfl) (by exact Nat.le_of_ble_eq_true rfl) ?_
  refine sl_8 dX0_needPart_30 (by first | rfl | assumption) (Nat.le_of_ble_eq_true rfl) ?_
  refine r_iload dX0_needPart_32 rfl ?_
  refine r_iconst (3) dX0_needPart_34 rfl ?_
  refine r_icmp_ne 41 dX0_needPart_35 rfl (fun _ => ?_) (fun hz => absurd hz (by decide))
  refine r_lload_n dX0_needPart_41 rfl ?_
  refine r_aload_n dX0_needPart_42 rfl ?_
  refine r_aload_n dX0_needPart_43 rfl ?_
  refine r_aload_n dX0_needPart_44 rfl ?_
  refine r_iconst (5) dX0_needPart_45 rfl ?_
  refine r_callV3 (ci := 0) (d1 := 3) (c1 := 0) (n1 := 0) dX0_needPart_46 mvX0_171 rfl ⟨(Nat.le_of_ble_eq_true rfl), rfl⟩ (Nat.le_of_ble_eq_true rfl) (by exact Nat.le_of_ble_eq_true rfl) (by exact k_159 hF) ?_
  refine S_toldBy5 hF hV hW (r := 29) (h := h) (rv := hd f) (by exact k_29 hF) (by omega) (fun j hj => hW.2.2.2.1 j hj) hh0 hh hp (fun m1 q1 hT1 => ?_)
  have o1 := (Off.rf (lo := 160) (hi := 166) (m := m)).tr ((q1).wd (by omega) (by omega))
  have hF1 := Fx_of o1.1 hF
  have hW1 := hW.off o1 (by omega) hn6
  show Wp g mX0_needPart _ _ _ 49 _ (_ :: _) _ Q
  refine r_lsub dX0_needPart_49 ?_
  refine r_lconst (0) dX0_needPart_50 rfl ?_
  refine r_mmaxL dX0_needPart_51 msX0_175 (Nat.le_of_ble_eq_true rfl) (by exact Nat.le_of_ble_eq_true rfl) ?_
  refine sl_10 dX0_needPart_54 (by first | rfl | assumption) (Nat.le_of_ble_eq_true rfl) ?_
  refine r_iload dX0_needPart_56 rfl ?_
  refine r_if_ne 64 dX0_needPart_58 rfl (fun _ => ?_) (fun hz => absurd hz (by decide))
  refine r_lload dX0_needPart_64 rfl ?_
  refine r_lload dX0_needPart_66 rfl ?_
  refine r_lmul dX0_needPart_68 ?_
  refine r_lload dX0_needPart_69 rfl ?_
  refine r_lmul dX0_needPart_71 ?_
  refine r_lload dX0_needPart_72 rfl ?_
  refine r_lmul dX0_needPart_74 ?_
  refine sl_12 dX0_needPart_75 (by first | rfl | assumption) (Nat.le_of_ble_eq_true rfl) ?_
  refine r_iload dX0_needPart_77 rfl ?_
  refine r_iconst (1) dX0_needPart_79 rfl ?_
  refine r_icmp_ne 86 dX0_needPart_80 rfl (fun hz => absurd hz (by decide)) (fun _ => ?_)
  refine r_lload dX0_needPart_83 rfl ?_
  refine r_lreturn dX0_needPart_85 rfl ?_
  exact k m1 o1
theorem S_need29_2 {g : GG} {m : MM} {Q : Out → Prop} (hF : Fx m) {f : Nat → Int32} (hV : Vf f) (hW : Wd f 5 m) {h : Nat} (hh0 : f 27 = nI h) (hh : h < nH f) {p : Nat} {T : (Nat → Int64) → Nat → Int64} (hp : Pr T p m) {pl : Int64} (k : ∀ m', Off 160 166 m m' → Q (.inl (some (.long (ndV f h T (hd f) pl))), m')) : Cl g 4 0 0 mX0_needPart [.ref 159, .ref p, .ref 29, .long pl, .int 2] m Q := by
  refine Cl.of rfl (by decide) (Nat.le_of_ble_eq_true rfl) ?_
  show Wp g mX0_needPart 4 0 0 0 [.ref 159, .ref p, .ref 29, .long pl, .retAddr 0, .int 2, .retAddr 0, .retAddr 0, .retAddr 0, .retAddr 0, .retAddr 0, .retAddr 0, .retAddr 0, .retAddr 0, .retAddr 0, .retAddr 0] [] m Q
  have hn6 := hV.1.1.2
  refine r_aload_n dX0_needPart_0 rfl ?_
  refine r_getIc (hd f 1) dX0_needPart_1 fgX0_68 rfl (by exact k_29 hF) (by exact hW.2.2.2.1 1 (by omega)) ?_
  refine r_i2l dX0_needPart_4 ?_
  refine sl_6 dX0_needPart_5 rfl (Nat.le_of_ble_eq_true rfl) ?_
  refine r_lload dX0_needPart_7 rfl ?_
  refine r_aload_n dX0_needPart_9 rfl ?_
  refine r_getIc (hd f 2) dX0_needPart_10 fgX0_78 rfl (by exact k_29 hF) (by exact hW.2.2.2.1 2 (by omega)) ?_
  refine r_i2l dX0_needPart_13 ?_
  refine r_lmul dX0_needPart_14 ?_
  refine r_aload_n dX0_needPart_15 rfl ?_
  refine r_getIc (hd f 2) dX0_needPart_16 fgX0_78 rfl (by exact k_29 hF) (by exact hW.2.2.2.1 2 (by omega)) ?_
  refine r_i2l dX0_needPart_19 ?_
  refine r_lmul dX0_needPart_20 ?_
  refine r_callN1 (d1 := 0) (c1 := 0) (n1 := 0) dX0_needPart_21 msX0_160 (Nat.le_of_ble_eq_true rfl) (by exact Nat.le_of_ble_eq_true rfl) ?_
  refine S_X11_rootOf ?_
  show Wp g mX0_needPart _ _ _ 24 _ (_ :: _) _ Q
  refine r_ldc2 (99) dX0_needPart_24 ctX0_164 ?_
  refine r_mminL dX0_needPart_27 msX0_166 (Nat.le_of_ble_eq_true rfl) (by exact Nat.le_of_ble_eq_true rfl) ?_
  refine sl_8 dX0_needPart_30 (by first | rfl | assumption) (Nat.le_of_ble_eq_true rfl) ?_
  refine r_iload dX0_needPart_32 rfl ?_
  refine r_iconst (3) dX0_needPart_34 rfl ?_
  refine r_icmp_ne 41 dX0_needPart_35 rfl (fun _ => ?_) (fun hz => absurd hz (by decide))
  refine r_lload_n dX0_needPart_41 rfl ?_
  refine r_aload_n dX0_needPart_42 rfl ?_
  refine r_aload_n dX0_needPart_43 rfl ?_
  refine r_aload_n dX0_needPart_44 rfl ?_
  refine r_iconst (5) dX0_needPart_45 rfl ?_
  refine r_callV3 (ci := 0) (d1 := 3) (c1 := 0) (n1 := 0) dX0_needPart_46 mvX0_171 rfl ⟨(Nat.le_of_ble_eq_true rfl), rfl⟩ (Nat.le_of_ble_eq_true rfl) (by exact Nat.le_of_ble_eq_true rfl) (by exact k_159 hF) ?_
  refine S_toldBy5 hF hV hW (r := 29) (h := h) (rv := hd f) (by exact k_29 hF) (by omega) (fun j hj => hW.2.2.2.1 j hj) hh0 hh hp (fun m1 q1 hT1 => ?_)
  have o1 := (Off.rf (lo := 160) (hi := 166) (m := m)).tr ((q1).wd (by omega) (by omega))
  have hF1 := Fx_of o1.1 hF
  have hW1 := hW.off o1 (by omega) hn6
  show Wp g mX0_needPart _ _ _ 49 _ (_ :: _) _ Q
  refine r_lsub dX0_needPart_49 ?_
  refine r_lconst (0) dX0_needPart_50 rfl ?_
  refine r_mmaxL dX0_needPart_51 msX0_175 (Nat.le_of_ble_eq_true rfl) (by exact Nat.le_of_ble_eq_true rfl) ?_
  refine sl_10 dX0_needPart_54 (by first | rfl | assumption) (Nat.le_of_ble_eq_true rfl) ?_
  refine r_iload dX0_needPart_56 rfl ?_
  refine r_if_ne 64 dX0_needPart_58 rfl (fun _ => ?_) (fun hz => absurd hz (by decide))
  refine r_lload dX0_needPart_64 rfl ?_
  refine r_lload dX0_needPart_66 rfl ?_
  refine r_lmul dX0_needPart_68 ?_
  refine r_lload dX0_needPart_69 rfl ?_
  refine r_lmul dX0_needPart_71 ?_
  refine r_lload dX0_needPart_72 rfl ?_
  refine r_lmul dX0_needPart_74 ?_
  refine sl_12 dX0_needPart_75 (by first | rfl | assumption) (Nat.le_of_ble_eq_true rfl) ?_
  refine r_iload dX0_needPart_77 rfl ?_
  refine r_iconst (1) dX0_needPart_79 rfl ?_
  refine r_icmp_ne 86 dX0_needPart_80 rfl (fun _ => ?_) (fun hz => absurd hz (by decide))
  refine r_aload_n dX0_needPart_86 rfl ?_
  refine r_getRc dX0_needPart_87 fgX0_36 rfl (by exact k_159 hF1) (by exact r_159_4 hF1) ?_
  refine r_aload_n dX0_needPart_90 rfl ?_
  refine r_getIc (hd f 0) dX0_needPart_91 fgX0_60 rfl (by exact k_29 hF1) (by exact hW1.2.2.2.1 0 (by omega)) ?_
  refine r_iconst (1) dX0_needPart_94 rfl ?_
  refine r_lload dX0_needPart_95 rfl ?_
  refine r_l2i dX0_needPart_97 ?_
  refine r_iconst (-1) dX0_needPart_98 rfl ?_
  refine r_callV4 (ci := 6) (d1 := 0) (c1 := 0) (n1 := 0) dX0_needPart_99 mvX0_138 rfl ⟨(Nat.le_of_ble_eq_true rfl), rfl⟩ (Nat.le_of_ble_eq_true rfl) (by exact Nat.le_of_ble_eq_true rfl) (by exact k_166 hF1) ?_
  refine S_X6_place (by exact k_166 hF1) ?_
  show Wp g mX0_needPart _ _ _ 102 _ [] _ Q
  refine r_aload_n dX0_needPart_102 rfl ?_
  refine r_getRc dX0_needPart_103 fgX0_36 rfl (by exact k_159 hF1) (by exact r_159_4 hF1) ?_
  refine r_iconst (0) dX0_needPart_106 rfl ?_
  refine r_aload_n dX0_needPart_107 rfl ?_
  refine r_getIc (hd f 5) dX0_needPart_108 fgX0_109 rfl (by exact k_29 hF1) (by exact (rPl_o (by omega)).trans (hW1.2.2.2.1 5 (by omega))) ?_
  refine r_callV2 (ci := 6) (d1 := 0) (c1 := 0) (n1 := 0) dX0_needPart_111 mvX0_142 rfl ⟨(Nat.le_of_ble_eq_true rfl), rfl⟩ (Nat.le_of_ble_eq_true rfl) (by exact Nat.le_of_ble_eq_true rfl) (by exact k_166 hF1) ?_
  refine S_X6_dress (by exact k_166 hF1) (Or.inl rfl) ?_
  have hs2 : ∀ j, j < 6 → ldI (rDr (rPl m1 166 ((hd f) 0) 1 (shS (hd f)).toInt32 (-1)) 166 0 ((hd f) 5)) 166 j = shR (hd f) j := r6_ld
  have o2 := (o1).tr (((rDrPl_off (m := m1) (a := 166) (x := (hd f) 0) (y := 1) (z := (shS (hd f)).toInt32) (w := -1) (u := 0) (v := (hd f) 5))).wd (by omega) (by omega))
  have hF2 := Fx_of o2.1 hF
  have hW2 := hW.off o2 (by omega) hn6
  show Wp g mX0_needPart _ _ _ 114 _ [] _ Q
  refine r_lload dX0_needPart_114 rfl ?_
  refine r_aload_n dX0_needPart_116 rfl ?_
  refine r_aload_n dX0_needPart_117 rfl ?_
  refine r_aload_n dX0_needPart_118 rfl ?_
  refine r_getRc dX0_needPart_119 fgX0_36 rfl (by exact k_159 hF2) (by exact r_159_4 hF2) ?_
  refine r_bipush (6) dX0_needPart_122 rfl ?_
  refine r_callV3 (ci := 0) (d1 := 3) (c1 := 0) (n1 := 0) dX0_needPart_124 mvX0_171 rfl ⟨(Nat.le_of_ble_eq_true rfl), rfl⟩ (Nat.le_of_ble_eq_true rfl) (by exact Nat.le_of_ble_eq_true rfl) (by exact k_159 hF2) ?_
  refine S_toldBy6 hF2 hV hW2 (r := 166) (h := h) (rv := shR (hd f)) (by exact k_166 hF2) (by omega) hs2 hh0 hh (hp.off o2 (by omega)) (fun m3 q3 hT3 => ?_)
  have o3 := (o2).tr ((q3).wd (by omega) (by omega))
  have hF3 := Fx_of o3.1 hF
  have hW3 := hW.off o3 (by omega) hn6
  have hs3 := fun j hj => (((q3).2 166 (by omega)).1 j).trans (hs2 j hj)
  show Wp g mX0_needPart _ _ _ 127 _ (_ :: _) _ Q
  refine r_ladd dX0_needPart_127 ?_
  refine sl_14 dX0_needPart_128 (by first | rfl | assumption) (Nat.le_of_ble_eq_true rfl) ?_
  refine r_lload dX0_needPart_130 rfl ?_
  refine r_lload dX0_needPart_132 rfl ?_
  refine r_aload_n dX0_needPart_134 rfl ?_
  refine r_getRc dX0_needPart_135 fgX0_18 rfl (by exact k_159 hF3) (by exact r_159_1 hF3) ?_
  refine r_bipush (7) dX0_needPart_138 rfl ?_
  refine r_callV1 (ci := 9) (d1 := 1) (c1 := 0) (n1 := 0) dX0_needPart_140 mvX0_131 rfl ⟨(Nat.le_of_ble_eq_true rfl), rfl⟩ (Nat.le_of_ble_eq_true rfl) (by exact Nat.le_of_ble_eq_true rfl) (by exact k_160 hF3) ?_
  refine S_told7 hF3 ?_
  show Wp g mX0_needPart _ _ _ 143 _ (_ :: _) _ Q
  refine r_callN2 (d1 := 0) (c1 := 0) (n1 := 0) dX0_needPart_143 msX0_178 (Nat.le_of_ble_eq_true rfl) (by exact Nat.le_of_ble_eq_true rfl) ?_
  refine S_X11_hundredths ?_
  show Wp g mX0_needPart _ _ _ 146 _ (_ :: _) _ Q
  refine r_ladd dX0_needPart_146 ?_
  refine r_lreturn dX0_needPart_147 rfl ?_
  rw [hT3 7 (by omega)]
  exact k m3 o3
theorem S_need29_3 {g : GG} {m : MM} {Q : Out → Prop} (hF : Fx m) {f : Nat → Int32} (hV : Vf f) (hW : Wd f 5 m) {h : Nat} (hh0 : f 27 = nI h) (hh : h < nH f) {p : Nat} {T : (Nat → Int64) → Nat → Int64} (hp : Pr T p m) {pl : Int64} (k : ∀ m', Off 160 166 m m' → Q (.inl (some (.long (shS (hd f)))), m')) : Cl g 4 0 0 mX0_needPart [.ref 159, .ref p, .ref 29, .long pl, .int 3] m Q := by
  refine Cl.of rfl (by decide) (Nat.le_of_ble_eq_true rfl) ?_
  show Wp g mX0_needPart 4 0 0 0 [.ref 159, .ref p, .ref 29, .long pl, .retAddr 0, .int 3, .retAddr 0, .retAddr 0, .retAddr 0, .retAddr 0, .retAddr 0, .retAddr 0, .retAddr 0, .retAddr 0, .retAddr 0, .retAddr 0] [] m Q
  have hn6 := hV.1.1.2
  refine r_aload_n dX0_needPart_0 rfl ?_
  refine r_getIc (hd f 1) dX0_needPart_1 fgX0_68 rfl (by exact k_29 hF) (by exact hW.2.2.2.1 1 (by omega)) ?_
  refine r_i2l dX0_needPart_4 ?_
  refine sl_6 dX0_needPart_5 rfl (Nat.le_of_ble_eq_true rfl) ?_
  refine r_lload dX0_needPart_7 rfl ?_
  refine r_aload_n dX0_needPart_9 rfl ?_
  refine r_getIc (hd f 2) dX0_needPart_10 fgX0_78 rfl (by exact k_29 hF) (by exact hW.2.2.2.1 2 (by omega)) ?_
  refine r_i2l dX0_needPart_13 ?_
  refine r_lmul dX0_needPart_14 ?_
  refine r_aload_n dX0_needPart_15 rfl ?_
  refine r_getIc (hd f 2) dX0_needPart_16 fgX0_78 rfl (by exact k_29 hF) (by exact hW.2.2.2.1 2 (by omega)) ?_
  refine r_i2l dX0_needPart_19 ?_
  refine r_lmul dX0_needPart_20 ?_
  refine r_callN1 (d1 := 0) (c1 := 0) (n1 := 0) dX0_needPart_21 msX0_160 (Nat.le_of_ble_eq_true rfl) (by exact Nat.le_of_ble_eq_true rfl) ?_
  refine S_X11_rootOf ?_
  show Wp g mX0_needPart _ _ _ 24 _ (_ :: _) _ Q
  refine r_ldc2 (99) dX0_needPart_24 ctX0_164 ?_
  refine r_mminL dX0_needPart_27 msX0_166 (Nat.le_of_ble_eq_true rfl) (by exact Nat.le_of_ble_eq_true rfl) ?_
  refine sl_8 dX0_needPart_30 (by first | rfl | assumption) (Nat.le_of_ble_eq_true rfl) ?_
  refine r_iload dX0_needPart_32 rfl ?_
  refine r_iconst (3) dX0_needPart_34 rfl ?_
  refine r_icmp_ne 41 dX0_needPart_35 rfl (fun hz => absurd hz (by decide)) (fun _ => ?_)
  refine r_lload dX0_needPart_38 rfl ?_
  refine r_lreturn dX0_needPart_40 rfl ?_
  exact k m Off.rf
theorem S_need165_2 {g : GG} {m : MM} {Q : Out → Prop} (hF : Fx m) {f : Nat → Int32} (hV : Vf f) (hW : Wd f 5 m) {h : Nat} {rv : Nat → Int32} (ht : ∀ j, j < 6 → ldI m 165 j = rv j) (hh0 : rv 0 = nI h) (hh : h < nH f) {p : Nat} {T : (Nat → Int64) → Nat → Int64} (hp : Pr T p m) {pl : Int64} (k : ∀ m', Off 160 166 m m' → Q (.inl (some (.long (ndV f h T rv pl))), m')) : Cl g 4 0 0 mX0_needPart [.ref 159, .ref p, .ref 165, .long pl, .int 2] m Q := by
  refine Cl.of rfl (by decide) (Nat.le_of_ble_eq_true rfl) ?_
  show Wp g mX0_needPart 4 0 0 0 [.ref 159, .ref p, .ref 165, .long pl, .retAddr 0, .int 2, .retAddr 0, .retAddr 0, .retAddr 0, .retAddr 0, .retAddr 0, .retAddr 0, .retAddr 0, .retAddr 0, .retAddr 0, .retAddr 0] [] m Q
  have hn6 := hV.1.1.2
  refine r_aload_n dX0_needPart_0 rfl ?_
  refine r_getIc (rv 1) dX0_needPart_1 fgX0_68 rfl (by exact k_165 hF) (by exact ht 1 (by omega)) ?_
  refine r_i2l dX0_needPart_4 ?_
  refine sl_6 dX0_needPart_5 rfl (Nat.le_of_ble_eq_true rfl) ?_
  refine r_lload dX0_needPart_7 rfl ?_
  refine r_aload_n dX0_needPart_9 rfl ?_
  refine r_getIc (rv 2) dX0_needPart_10 fgX0_78 rfl (by exact k_165 hF) (by exact ht 2 (by omega)) ?_
  refine r_i2l dX0_needPart_13 ?_
  refine r_lmul dX0_needPart_14 ?_
  refine r_aload_n dX0_needPart_15 rfl ?_
  refine r_getIc (rv 2) dX0_needPart_16 fgX0_78 rfl (by exact k_165 hF) (by exact ht 2 (by omega)) ?_
  refine r_i2l dX0_needPart_19 ?_
  refine r_lmul dX0_needPart_20 ?_
  refine r_callN1 (d1 := 0) (c1 := 0) (n1 := 0) dX0_needPart_21 msX0_160 (Nat.le_of_ble_eq_true rfl) (by exact Nat.le_of_ble_eq_true rfl) ?_
  refine S_X11_rootOf ?_
  show Wp g mX0_needPart _ _ _ 24 _ (_ :: _) _ Q
  refine r_ldc2 (99) dX0_needPart_24 ctX0_164 ?_
  refine r_mminL dX0_needPart_27 msX0_166 (Nat.le_of_ble_eq_true rfl) (by exact Nat.le_of_ble_eq_true rfl) ?_
  refine sl_8 dX0_needPart_30 (by first | rfl | assumption) (Nat.le_of_ble_eq_true rfl) ?_
  refine r_iload dX0_needPart_32 rfl ?_
  refine r_iconst (3) dX0_needPart_34 rfl ?_
  refine r_icmp_ne 41 dX0_needPart_35 rfl (fun _ => ?_) (fun hz => absurd hz (by decide))
  refine r_lload_n dX0_needPart_41 rfl ?_
  refine r_aload_n dX0_needPart_42 rfl ?_
  refine r_aload_n dX0_needPart_43 rfl ?_
  refine r_aload_n dX0_needPart_44 rfl ?_
  refine r_iconst (5) dX0_needPart_45 rfl ?_
  refine r_callV3 (ci := 0) (d1 := 3) (c1 := 0) (n1 := 0) dX0_needPart_46 mvX0_171 rfl ⟨(Nat.le_of_ble_eq_true rfl), rfl⟩ (Nat.le_of_ble_eq_true rfl) (by exact Nat.le_of_ble_eq_true rfl) (by exact k_159 hF) ?_
  refine S_toldBy5 hF hV hW (r := 165) (h := h) (rv := rv) (by exact k_165 hF) (by omega) ht hh0 hh hp (fun m1 q1 hT1 => ?_)
  have o1 := (Off.rf (lo := 160) (hi := 166) (m := m)).tr ((q1).wd (by omega) (by omega))
  have hF1 := Fx_of o1.1 hF
  have hW1 := hW.off o1 (by omega) hn6
  have ht1 := fun j hj => (((q1).2 165 (by omega)).1 j).trans (ht j hj)
  show Wp g mX0_needPart _ _ _ 49 _ (_ :: _) _ Q
  refine r_lsub dX0_needPart_49 ?_
  refine r_lconst (0) dX0_needPart_50 rfl ?_
  refine r_mmaxL dX0_needPart_51 msX0_175 (Nat.le_of_ble_eq_true rfl) (by exact Nat.le_of_ble_eq_true rfl) ?_
  refine sl_10 dX0_needPart_54 (by first | rfl | assumption) (Nat.le_of_ble_eq_true rfl) ?_
  refine r_iload dX0_needPart_56 rfl ?_
  refine r_if_ne 64 dX0_needPart_58 rfl (fun _ => ?_) (fun hz => absurd hz (by decide))
  refine r_lload dX0_needPart_64 rfl ?_
  refine r_lload dX0_needPart_66 rfl ?_
  refine r_lmul dX0_needPart_68 ?_
  refine r_lload dX0_needPart_69 rfl ?_
  refine r_lmul dX0_needPart_71 ?_
  refine r_lload dX0_needPart_72 rfl ?_
  refine r_lmul dX0_needPart_74 ?_
  refine sl_12 dX0_needPart_75 (by first | rfl | assumption) (Nat.le_of_ble_eq_true rfl) ?_
  refine r_iload dX0_needPart_77 rfl ?_
  refine r_iconst (1) dX0_needPart_79 rfl ?_
  refine r_icmp_ne 86 dX0_needPart_80 rfl (fun _ => ?_) (fun hz => absurd hz (by decide))
  refine r_aload_n dX0_needPart_86 rfl ?_
  refine r_getRc dX0_needPart_87 fgX0_36 rfl (by exact k_159 hF1) (by exact r_159_4 hF1) ?_
  refine r_aload_n dX0_needPart_90 rfl ?_
  refine r_getIc (rv 0) dX0_needPart_91 fgX0_60 rfl (by exact k_165 hF1) (by exact ht1 0 (by omega)) ?_
  refine r_iconst (1) dX0_needPart_94 rfl ?_
  refine r_lload dX0_needPart_95 rfl ?_
  refine r_l2i dX0_needPart_97 ?_
  refine r_iconst (-1) dX0_needPart_98 rfl ?_
  refine r_callV4 (ci := 6) (d1 := 0) (c1 := 0) (n1 := 0) dX0_needPart_99 mvX0_138 rfl ⟨(Nat.le_of_ble_eq_true rfl), rfl⟩ (Nat.le_of_ble_eq_true rfl) (by exact Nat.le_of_ble_eq_true rfl) (by exact k_166 hF1) ?_
  refine S_X6_place (by exact k_166 hF1) ?_
  show Wp g mX0_needPart _ _ _ 102 _ [] _ Q
  refine r_aload_n dX0_needPart_102 rfl ?_
  refine r_getRc dX0_needPart_103 fgX0_36 rfl (by exact k_159 hF1) (by exact r_159_4 hF1) ?_
  refine r_iconst (0) dX0_needPart_106 rfl ?_
  refine r_aload_n dX0_needPart_107 rfl ?_
  refine r_getIc (rv 5) dX0_needPart_108 fgX0_109 rfl (by exact k_165 hF1) (by exact (rPl_o (by omega)).trans (ht1 5 (by omega))) ?_
  refine r_callV2 (ci := 6) (d1 := 0) (c1 := 0) (n1 := 0) dX0_needPart_111 mvX0_142 rfl ⟨(Nat.le_of_ble_eq_true rfl), rfl⟩ (Nat.le_of_ble_eq_true rfl) (by exact Nat.le_of_ble_eq_true rfl) (by exact k_166 hF1) ?_
  refine S_X6_dress (by exact k_166 hF1) (Or.inl rfl) ?_
  have hs2 : ∀ j, j < 6 → ldI (rDr (rPl m1 166 (rv 0) 1 (shS rv).toInt32 (-1)) 166 0 (rv 5)) 166 j = shR rv j := r6_ld
  have o2 := (o1).tr (((rDrPl_off (m := m1) (a := 166) (x := rv 0) (y := 1) (z := (shS rv).toInt32) (w := -1) (u := 0) (v := rv 5))).wd (by omega) (by omega))
  have hF2 := Fx_of o2.1 hF
  have hW2 := hW.off o2 (by omega) hn6
  have ht2 := fun j hj => ((((rDrPl_off (m := m1) (a := 166) (x := rv 0) (y := 1) (z := (shS rv).toInt32) (w := -1) (u := 0) (v := rv 5))).2 165 (by omega)).1 j).trans (ht1 j hj)
  show Wp g mX0_needPart _ _ _ 114 _ [] _ Q
  refine r_lload dX0_needPart_114 rfl ?_
  refine r_aload_n dX0_needPart_116 rfl ?_
  refine r_aload_n dX0_needPart_117 rfl ?_
  refine r_aload_n dX0_needPart_118 rfl ?_
  refine r_getRc dX0_needPart_119 fgX0_36 rfl (by exact k_159 hF2) (by exact r_159_4 hF2) ?_
  refine r_bipush (6) dX0_needPart_122 rfl ?_
  refine r_callV3 (ci := 0) (d1 := 3) (c1 := 0) (n1 := 0) dX0_needPart_124 mvX0_171 rfl ⟨(Nat.le_of_ble_eq_true rfl), rfl⟩ (Nat.le_of_ble_eq_true rfl) (by exact Nat.le_of_ble_eq_true rfl) (by exact k_159 hF2) ?_
  refine S_toldBy6 hF2 hV hW2 (r := 166) (h := h) (rv := shR rv) (by exact k_166 hF2) (by omega) hs2 hh0 hh (hp.off o2 (by omega)) (fun m3 q3 hT3 => ?_)
  have o3 := (o2).tr ((q3).wd (by omega) (by omega))
  have hF3 := Fx_of o3.1 hF
  have hW3 := hW.off o3 (by omega) hn6
  have ht3 := fun j hj => (((q3).2 165 (by omega)).1 j).trans (ht2 j hj)
  have hs3 := fun j hj => (((q3).2 166 (by omega)).1 j).trans (hs2 j hj)
  show Wp g mX0_needPart _ _ _ 127 _ (_ :: _) _ Q
  refine r_ladd dX0_needPart_127 ?_
  refine sl_14 dX0_needPart_128 (by first | rfl | assumption) (Nat.le_of_ble_eq_true rfl) ?_
  refine r_lload dX0_needPart_130 rfl ?_
  refine r_lload dX0_needPart_132 rfl ?_
  refine r_aload_n dX0_needPart_134 rfl ?_
  refine r_getRc dX0_needPart_135 fgX0_18 rfl (by exact k_159 hF3) (by exact r_159_1 hF3) ?_
  refine r_bipush (7) dX0_needPart_138 rfl ?_
  refine r_callV1 (ci := 9) (d1 := 1) (c1 := 0) (n1 := 0) dX0_needPart_140 mvX0_131 rfl ⟨(Nat.le_of_ble_eq_true rfl), rfl⟩ (Nat.le_of_ble_eq_true rfl) (by exact Nat.le_of_ble_eq_true rfl) (by exact k_160 hF3) ?_
  refine S_told7 hF3 ?_
  show Wp g mX0_needPart _ _ _ 143 _ (_ :: _) _ Q
  refine r_callN2 (d1 := 0) (c1 := 0) (n1 := 0) dX0_needPart_143 msX0_178 (Nat.le_of_ble_eq_true rfl) (by exact Nat.le_of_ble_eq_true rfl) ?_
  refine S_X11_hundredths ?_
  show Wp g mX0_needPart _ _ _ 146 _ (_ :: _) _ Q
  refine r_ladd dX0_needPart_146 ?_
  refine r_lreturn dX0_needPart_147 rfl ?_
  rw [hT3 7 (by omega)]
  exact k m3 o3
theorem nmA_at {m : MM} {N : Nat → Int64} (h : ∀ j, j < 10 → ldL m 161 j = N j) {j : Nat} (hj : j < 10) : nmA m (nI j) = N j := by
  unfold nmA; rw [if_pos ⟨i32_nlt.mp (nI_pos (by omega)), nI_lt (b := 10) hj (by omega)⟩, nI_cl j (by omega)]; exact h j hj
theorem S_X0_nameAtHand {g : GG} {m : MM} {Q : Out → Prop} (hF : Fx m) {f : Nat → Int32} (hV : Vf f) (hW : Wd f 5 m) {h : Nat} (hh0 : f 27 = nI h) (hh : h < nH f) {j : Nat} (hj : j < 10) (k : ∀ m', Off 160 166 m m' → Q (.inl (some (.int (NmH f h (hd f) j).toInt32)), m')) : Cl g 3 0 0 mX0_nameAtHand [.ref 159, .int (nI j)] m Q := by
  refine Cl.of rfl (by decide) (Nat.le_of_ble_eq_true rfl) ?_
  show Wp g mX0_nameAtHand 3 0 0 0 [.ref 159, .int (nI j)] [] m Q
  have hn6 := hV.1.1.2
  refine r_aload_n dX0_nameAtHand_0 rfl ?_
  refine r_aload_n dX0_nameAtHand_1 rfl ?_
  refine r_getRc dX0_nameAtHand_2 fgX0_9 rfl (by exact k_159 hF) (by exact r_159_0 hF) ?_
  refine r_getRc dX0_nameAtHand_5 fgX0_47 rfl (by exact k_5 hF) (by exact r_5_4 hF) ?_
  refine r_callV1 (ci := 0) (d1 := 2) (c1 := 0) (n1 := 0) dX0_nameAtHand_8 mvX0_52 rfl ⟨(Nat.le_of_ble_eq_true rfl), rfl⟩ (Nat.le_of_ble_eq_true rfl) (by exact Nat.le_of_ble_eq_true rfl) (by exact k_159 hF) ?_
  refine S_X0_nameAll hF hV hW (r := 29) (h := h) (rv := hd f) (by exact k_29 hF) (by omega) (fun j hj => hW.2.2.2.1 j hj) hh0 hh (fun m1 q1 hN => ?_)
  have o1 := (Off.rf (lo := 160) (hi := 166) (m := m)).tr ((q1).wd (by omega) (by omega))
  have hF1 := Fx_of o1.1 hF
  have hW1 := hW.off o1 (by omega) hn6
  show Wp g mX0_nameAtHand _ _ _ 11 _ [] _ Q
  refine r_aload_n dX0_nameAtHand_11 rfl ?_
  refine r_getRc dX0_nameAtHand_12 fgX0_18 rfl (by exact k_159 hF1) (by exact r_159_1 hF1) ?_
  refine r_iload_n dX0_nameAtHand_15 rfl ?_
  refine r_callV1 (ci := 9) (d1 := 0) (c1 := 0) (n1 := 0) dX0_nameAtHand_16 mvX0_56 rfl ⟨(Nat.le_of_ble_eq_true rfl), rfl⟩ (Nat.le_of_ble_eq_true rfl) (by exact Nat.le_of_ble_eq_true rfl) (by exact k_160 hF1) ?_
  refine S_X9_nameAt hF1 ?_
  show Wp g mX0_nameAtHand _ _ _ 19 _ (_ :: _) _ Q
  refine r_l2i dX0_nameAtHand_19 ?_
  refine r_ireturn dX0_nameAtHand_20 rfl rfl ?_
  rw [nmA_at hN hj]; exact k m1 o1
theorem S_modelPart0 {g : GG} {m : MM} {Q : Out → Prop} (hF : Fx m) {f : Nat → Int32} (hV : Vf f) (hW : Wd f 5 m) {h : Nat} (hh : h < nH f) {x : Int32} (k : ∀ m', Off 160 166 m m' → Q (.inl (some (.int (mdH f h x 0))), m')) : Cl g 2 0 0 mX0_modelPart [.ref 159, .ref (7 + 3 * h), .int x, .int 0] m Q := by
  refine Cl.of rfl (by decide) (Nat.le_of_ble_eq_true rfl) ?_
  show Wp g mX0_modelPart 2 0 0 0 [.ref 159, .ref (7 + 3 * h), .int x, .int 0] [] m Q
  have hn6 := hV.1.1.2
  refine r_aload_n dX0_modelPart_0 rfl ?_
  refine r_getRc dX0_modelPart_1 fgX0_25 rfl (by exact k_159 hF) (by exact r_159_2 hF) ?_
  refine r_aload_n dX0_modelPart_4 rfl ?_
  refine r_iload_n dX0_modelPart_5 rfl ?_
  refine r_callV2 (ci := 2) (d1 := 1) (c1 := 0) (n1 := 0) dX0_modelPart_6 mvX0_39 rfl ⟨(Nat.le_of_ble_eq_true rfl), rfl⟩ (Nat.le_of_ble_eq_true rfl) (by exact Nat.le_of_ble_eq_true rfl) (by exact k_164 hF) ?_
  refine S_X2_measure (b := 8 + 3 * h) (e := 9 + 3 * h) (n := nS f h) hF (by exact hu0_k hF (by omega)) (by exact hb0_r hF (by omega)) (by exact hb0_k hF (by omega)) (by exact hd0_r hF (by omega)) (by exact hd0_k hF (by omega)) (by exact (hW.2.1 h hh).2.1.trans (hV.2.1 h hh).2.1) (hV.2.1 h hh).2.2.2.1 (by omega) ?_
  rw [mHull_eq hW hh]
  have o1 := (Off.rf (lo := 160) (hi := 166) (m := m)).tr ((mMem_off (m := m) (v := mdH f h x)).wd (by omega) (by omega))
  have hF1 := Fx_of o1.1 hF
  have hW1 := hW.off o1 (by omega) hn6
  show Wp g mX0_modelPart _ _ _ 9 _ [] _ Q
  refine r_aload_n dX0_modelPart_9 rfl ?_
  refine r_getRc dX0_modelPart_10 fgX0_25 rfl (by exact k_159 hF1) (by exact r_159_2 hF1) ?_
  refine r_iload_n dX0_modelPart_13 rfl ?_
  refine r_callV1 (ci := 2) (d1 := 0) (c1 := 0) (n1 := 0) dX0_modelPart_14 mvX0_43 rfl ⟨(Nat.le_of_ble_eq_true rfl), rfl⟩ (Nat.le_of_ble_eq_true rfl) (by exact Nat.le_of_ble_eq_true rfl) (by exact k_164 hF1) ?_
  refine S_part0 (by exact hF1) ?_
  show Wp g mX0_modelPart _ _ _ 17 _ (_ :: _) _ Q
  refine r_ireturn dX0_modelPart_17 rfl rfl ?_
  rw [mM_0]; exact k _ o1
theorem S_modelPart1 {g : GG} {m : MM} {Q : Out → Prop} (hF : Fx m) {f : Nat → Int32} (hV : Vf f) (hW : Wd f 5 m) {h : Nat} (hh : h < nH f) {x : Int32} (k : ∀ m', Off 160 166 m m' → Q (.inl (some (.int (mdH f h x 1))), m')) : Cl g 2 0 0 mX0_modelPart [.ref 159, .ref (7 + 3 * h), .int x, .int 1] m Q := by
  refine Cl.of rfl (by decide) (Nat.le_of_ble_eq_true rfl) ?_
  show Wp g mX0_modelPart 2 0 0 0 [.ref 159, .ref (7 + 3 * h), .int x, .int 1] [] m Q
  have hn6 := hV.1.1.2
  refine r_aload_n dX0_modelPart_0 rfl ?_
  refine r_getRc dX0_modelPart_1 fgX0_25 rfl (by exact k_159 hF) (by exact r_159_2 hF) ?_
  refine r_aload_n dX0_modelPart_4 rfl ?_
  refine r_iload_n dX0_modelPart_5 rfl ?_
  refine r_callV2 (ci := 2) (d1 := 1) (c1 := 0) (n1 := 0) dX0_modelPart_6 mvX0_39 rfl ⟨(Nat.le_of_ble_eq_true rfl), rfl⟩ (Nat.le_of_ble_eq_true rfl) (by exact Nat.le_of_ble_eq_true rfl) (by exact k_164 hF) ?_
  refine S_X2_measure (b := 8 + 3 * h) (e := 9 + 3 * h) (n := nS f h) hF (by exact hu0_k hF (by omega)) (by exact hb0_r hF (by omega)) (by exact hb0_k hF (by omega)) (by exact hd0_r hF (by omega)) (by exact hd0_k hF (by omega)) (by exact (hW.2.1 h hh).2.1.trans (hV.2.1 h hh).2.1) (hV.2.1 h hh).2.2.2.1 (by omega) ?_
  rw [mHull_eq hW hh]
  have o1 := (Off.rf (lo := 160) (hi := 166) (m := m)).tr ((mMem_off (m := m) (v := mdH f h x)).wd (by omega) (by omega))
  have hF1 := Fx_of o1.1 hF
  have hW1 := hW.off o1 (by omega) hn6
  show Wp g mX0_modelPart _ _ _ 9 _ [] _ Q
  refine r_aload_n dX0_modelPart_9 rfl ?_
  refine r_getRc dX0_modelPart_10 fgX0_25 rfl (by exact k_159 hF1) (by exact r_159_2 hF1) ?_
  refine r_iload_n dX0_modelPart_13 rfl ?_
  refine r_callV1 (ci := 2) (d1 := 0) (c1 := 0) (n1 := 0) dX0_modelPart_14 mvX0_43 rfl ⟨(Nat.le_of_ble_eq_true rfl), rfl⟩ (Nat.le_of_ble_eq_true rfl) (by exact Nat.le_of_ble_eq_true rfl) (by exact k_164 hF1) ?_
  refine S_part1 (by exact hF1) ?_
  show Wp g mX0_modelPart _ _ _ 17 _ (_ :: _) _ Q
  refine r_ireturn dX0_modelPart_17 rfl rfl ?_
  rw [mM_1]; exact k _ o1
theorem S_modelPart2 {g : GG} {m : MM} {Q : Out → Prop} (hF : Fx m) {f : Nat → Int32} (hV : Vf f) (hW : Wd f 5 m) {h : Nat} (hh : h < nH f) {x : Int32} (k : ∀ m', Off 160 166 m m' → Q (.inl (some (.int (mdH f h x 2))), m')) : Cl g 2 0 0 mX0_modelPart [.ref 159, .ref (7 + 3 * h), .int x, .int 2] m Q := by
  refine Cl.of rfl (by decide) (Nat.le_of_ble_eq_true rfl) ?_
  show Wp g mX0_modelPart 2 0 0 0 [.ref 159, .ref (7 + 3 * h), .int x, .int 2] [] m Q
  have hn6 := hV.1.1.2
  refine r_aload_n dX0_modelPart_0 rfl ?_
  refine r_getRc dX0_modelPart_1 fgX0_25 rfl (by exact k_159 hF) (by exact r_159_2 hF) ?_
  refine r_aload_n dX0_modelPart_4 rfl ?_
  refine r_iload_n dX0_modelPart_5 rfl ?_
  refine r_callV2 (ci := 2) (d1 := 1) (c1 := 0) (n1 := 0) dX0_modelPart_6 mvX0_39 rfl ⟨(Nat.le_of_ble_eq_true rfl), rfl⟩ (Nat.le_of_ble_eq_true rfl) (by exact Nat.le_of_ble_eq_true rfl) (by exact k_164 hF) ?_
  refine S_X2_measure (b := 8 + 3 * h) (e := 9 + 3 * h) (n := nS f h) hF (by exact hu0_k hF (by omega)) (by exact hb0_r hF (by omega)) (by exact hb0_k hF (by omega)) (by exact hd0_r hF (by omega)) (by exact hd0_k hF (by omega)) (by exact (hW.2.1 h hh).2.1.trans (hV.2.1 h hh).2.1) (hV.2.1 h hh).2.2.2.1 (by omega) ?_
  rw [mHull_eq hW hh]
  have o1 := (Off.rf (lo := 160) (hi := 166) (m := m)).tr ((mMem_off (m := m) (v := mdH f h x)).wd (by omega) (by omega))
  have hF1 := Fx_of o1.1 hF
  have hW1 := hW.off o1 (by omega) hn6
  show Wp g mX0_modelPart _ _ _ 9 _ [] _ Q
  refine r_aload_n dX0_modelPart_9 rfl ?_
  refine r_getRc dX0_modelPart_10 fgX0_25 rfl (by exact k_159 hF1) (by exact r_159_2 hF1) ?_
  refine r_iload_n dX0_modelPart_13 rfl ?_
  refine r_callV1 (ci := 2) (d1 := 0) (c1 := 0) (n1 := 0) dX0_modelPart_14 mvX0_43 rfl ⟨(Nat.le_of_ble_eq_true rfl), rfl⟩ (Nat.le_of_ble_eq_true rfl) (by exact Nat.le_of_ble_eq_true rfl) (by exact k_164 hF1) ?_
  refine S_part2 (by exact hF1) ?_
  show Wp g mX0_modelPart _ _ _ 17 _ (_ :: _) _ Q
  refine r_ireturn dX0_modelPart_17 rfl rfl ?_
  rw [mM_2]; exact k _ o1
theorem S_modelPart3 {g : GG} {m : MM} {Q : Out → Prop} (hF : Fx m) {f : Nat → Int32} (hV : Vf f) (hW : Wd f 5 m) {h : Nat} (hh : h < nH f) {x : Int32} (k : ∀ m', Off 160 166 m m' → Q (.inl (some (.int (mdH f h x 3))), m')) : Cl g 2 0 0 mX0_modelPart [.ref 159, .ref (7 + 3 * h), .int x, .int 3] m Q := by
  refine Cl.of rfl (by decide) (Nat.le_of_ble_eq_true rfl) ?_
  show Wp g mX0_modelPart 2 0 0 0 [.ref 159, .ref (7 + 3 * h), .int x, .int 3] [] m Q
  have hn6 := hV.1.1.2
  refine r_aload_n dX0_modelPart_0 rfl ?_
  refine r_getRc dX0_modelPart_1 fgX0_25 rfl (by exact k_159 hF) (by exact r_159_2 hF) ?_
  refine r_aload_n dX0_modelPart_4 rfl ?_
  refine r_iload_n dX0_modelPart_5 rfl ?_
  refine r_callV2 (ci := 2) (d1 := 1) (c1 := 0) (n1 := 0) dX0_modelPart_6 mvX0_39 rfl ⟨(Nat.le_of_ble_eq_true rfl), rfl⟩ (Nat.le_of_ble_eq_true rfl) (by exact Nat.le_of_ble_eq_true rfl) (by exact k_164 hF) ?_
  refine S_X2_measure (b := 8 + 3 * h) (e := 9 + 3 * h) (n := nS f h) hF (by exact hu0_k hF (by omega)) (by exact hb0_r hF (by omega)) (by exact hb0_k hF (by omega)) (by exact hd0_r hF (by omega)) (by exact hd0_k hF (by omega)) (by exact (hW.2.1 h hh).2.1.trans (hV.2.1 h hh).2.1) (hV.2.1 h hh).2.2.2.1 (by omega) ?_
  rw [mHull_eq hW hh]
  have o1 := (Off.rf (lo := 160) (hi := 166) (m := m)).tr ((mMem_off (m := m) (v := mdH f h x)).wd (by omega) (by omega))
  have hF1 := Fx_of o1.1 hF
  have hW1 := hW.off o1 (by omega) hn6
  show Wp g mX0_modelPart _ _ _ 9 _ [] _ Q
  refine r_aload_n dX0_modelPart_9 rfl ?_
  refine r_getRc dX0_modelPart_10 fgX0_25 rfl (by exact k_159 hF1) (by exact r_159_2 hF1) ?_
  refine r_iload_n dX0_modelPart_13 rfl ?_
  refine r_callV1 (ci := 2) (d1 := 0) (c1 := 0) (n1 := 0) dX0_modelPart_14 mvX0_43 rfl ⟨(Nat.le_of_ble_eq_true rfl), rfl⟩ (Nat.le_of_ble_eq_true rfl) (by exact Nat.le_of_ble_eq_true rfl) (by exact k_164 hF1) ?_
  refine S_part3 (by exact hF1) ?_
  show Wp g mX0_modelPart _ _ _ 17 _ (_ :: _) _ Q
  refine r_ireturn dX0_modelPart_17 rfl rfl ?_
  rw [mM_3]; exact k _ o1
theorem S_modelPart4 {g : GG} {m : MM} {Q : Out → Prop} (hF : Fx m) {f : Nat → Int32} (hV : Vf f) (hW : Wd f 5 m) {h : Nat} (hh : h < nH f) {x : Int32} (k : ∀ m', Off 160 166 m m' → Q (.inl (some (.int (mdH f h x 4))), m')) : Cl g 2 0 0 mX0_modelPart [.ref 159, .ref (7 + 3 * h), .int x, .int 4] m Q := by
  refine Cl.of rfl (by decide) (Nat.le_of_ble_eq_true rfl) ?_
  show Wp g mX0_modelPart 2 0 0 0 [.ref 159, .ref (7 + 3 * h), .int x, .int 4] [] m Q
  have hn6 := hV.1.1.2
  refine r_aload_n dX0_modelPart_0 rfl ?_
  refine r_getRc dX0_modelPart_1 fgX0_25 rfl (by exact k_159 hF) (by exact r_159_2 hF) ?_
  refine r_aload_n dX0_modelPart_4 rfl ?_
  refine r_iload_n dX0_modelPart_5 rfl ?_
  refine r_callV2 (ci := 2) (d1 := 1) (c1 := 0) (n1 := 0) dX0_modelPart_6 mvX0_39 rfl ⟨(Nat.le_of_ble_eq_true rfl), rfl⟩ (Nat.le_of_ble_eq_true rfl) (by exact Nat.le_of_ble_eq_true rfl) (by exact k_164 hF) ?_
  refine S_X2_measure (b := 8 + 3 * h) (e := 9 + 3 * h) (n := nS f h) hF (by exact hu0_k hF (by omega)) (by exact hb0_r hF (by omega)) (by exact hb0_k hF (by omega)) (by exact hd0_r hF (by omega)) (by exact hd0_k hF (by omega)) (by exact (hW.2.1 h hh).2.1.trans (hV.2.1 h hh).2.1) (hV.2.1 h hh).2.2.2.1 (by omega) ?_
  rw [mHull_eq hW hh]
  have o1 := (Off.rf (lo := 160) (hi := 166) (m := m)).tr ((mMem_off (m := m) (v := mdH f h x)).wd (by omega) (by omega))
  have hF1 := Fx_of o1.1 hF
  have hW1 := hW.off o1 (by omega) hn6
  show Wp g mX0_modelPart _ _ _ 9 _ [] _ Q
  refine r_aload_n dX0_modelPart_9 rfl ?_
  refine r_getRc dX0_modelPart_10 fgX0_25 rfl (by exact k_159 hF1) (by exact r_159_2 hF1) ?_
  refine r_iload_n dX0_modelPart_13 rfl ?_
  refine r_callV1 (ci := 2) (d1 := 0) (c1 := 0) (n1 := 0) dX0_modelPart_14 mvX0_43 rfl ⟨(Nat.le_of_ble_eq_true rfl), rfl⟩ (Nat.le_of_ble_eq_true rfl) (by exact Nat.le_of_ble_eq_true rfl) (by exact k_164 hF1) ?_
  refine S_part4 (by exact hF1) ?_
  show Wp g mX0_modelPart _ _ _ 17 _ (_ :: _) _ Q
  refine r_ireturn dX0_modelPart_17 rfl rfl ?_
  rw [mM_4]; exact k _ o1
theorem S_modelPart5 {g : GG} {m : MM} {Q : Out → Prop} (hF : Fx m) {f : Nat → Int32} (hV : Vf f) (hW : Wd f 5 m) {h : Nat} (hh : h < nH f) {x : Int32} (k : ∀ m', Off 160 166 m m' → Q (.inl (some (.int (mdH f h x 5))), m')) : Cl g 2 0 0 mX0_modelPart [.ref 159, .ref (7 + 3 * h), .int x, .int 5] m Q := by
  refine Cl.of rfl (by decide) (Nat.le_of_ble_eq_true rfl) ?_
  show Wp g mX0_modelPart 2 0 0 0 [.ref 159, .ref (7 + 3 * h), .int x, .int 5] [] m Q
  have hn6 := hV.1.1.2
  refine r_aload_n dX0_modelPart_0 rfl ?_
  refine r_getRc dX0_modelPart_1 fgX0_25 rfl (by exact k_159 hF) (by exact r_159_2 hF) ?_
  refine r_aload_n dX0_modelPart_4 rfl ?_
  refine r_iload_n dX0_modelPart_5 rfl ?_
  refine r_callV2 (ci := 2) (d1 := 1) (c1 := 0) (n1 := 0) dX0_modelPart_6 mvX0_39 rfl ⟨(Nat.le_of_ble_eq_true rfl), rfl⟩ (Nat.le_of_ble_eq_true rfl) (by exact Nat.le_of_ble_eq_true rfl) (by exact k_164 hF) ?_
  refine S_X2_measure (b := 8 + 3 * h) (e := 9 + 3 * h) (n := nS f h) hF (by exact hu0_k hF (by omega)) (by exact hb0_r hF (by omega)) (by exact hb0_k hF (by omega)) (by exact hd0_r hF (by omega)) (by exact hd0_k hF (by omega)) (by exact (hW.2.1 h hh).2.1.trans (hV.2.1 h hh).2.1) (hV.2.1 h hh).2.2.2.1 (by omega) ?_
  rw [mHull_eq hW hh]
  have o1 := (Off.rf (lo := 160) (hi := 166) (m := m)).tr ((mMem_off (m := m) (v := mdH f h x)).wd (by omega) (by omega))
  have hF1 := Fx_of o1.1 hF
  have hW1 := hW.off o1 (by omega) hn6
  show Wp g mX0_modelPart _ _ _ 9 _ [] _ Q
  refine r_aload_n dX0_modelPart_9 rfl ?_
  refine r_getRc dX0_modelPart_10 fgX0_25 rfl (by exact k_159 hF1) (by exact r_159_2 hF1) ?_
  refine r_iload_n dX0_modelPart_13 rfl ?_
  refine r_callV1 (ci := 2) (d1 := 0) (c1 := 0) (n1 := 0) dX0_modelPart_14 mvX0_43 rfl ⟨(Nat.le_of_ble_eq_true rfl), rfl⟩ (Nat.le_of_ble_eq_true rfl) (by exact Nat.le_of_ble_eq_true rfl) (by exact k_164 hF1) ?_
  refine S_part5 (by exact hF1) ?_
  show Wp g mX0_modelPart _ _ _ 17 _ (_ :: _) _ Q
  refine r_ireturn dX0_modelPart_17 rfl rfl ?_
  rw [mM_5]; exact k _ o1
theorem S_X0_sidesAtHand {g : GG} {m : MM} {Q : Out → Prop} (hF : Fx m) {f : Nat → Int32} (hV : Vf f) (hW : Wd f 5 m) {h : Nat} (hh0 : f 27 = nI h) (hh : h < nH f) {p : Nat} {T : (Nat → Int64) → Nat → Int64} (hp : Pr T p m) (k : ∀ m', Off 160 166 m m' → Q (.inl (some (.long (PvV f h T (hd f) - PvV f h T (r6 (f 27) (f 28) (f 29) (-1) (f 31) (f 32))))), m')) : Cl g 4 0 0 mX0_sidesAtHand [.ref 159, .ref p] m Q := by
  refine Cl.of rfl (by decide) (Nat.le_of_ble_eq_true rfl) ?_
  show Wp g mX0_sidesAtHand 4 0 0 0 [.ref 159, .ref p, .retAddr 0, .retAddr 0] [] m Q
  have hn6 := hV.1.1.2
  refine r_aload_n dX0_sidesAtHand_0 rfl ?_
  refine r_aload_n dX0_sidesAtHand_1 rfl ?_
  refine r_aload_n dX0_sidesAtHand_2 rfl ?_
  refine r_aload_n dX0_sidesAtHand_3 rfl ?_
  refine r_getRc dX0_sidesAtHand_4 fgX0_9 rfl (by exact k_159 hF) (by exact r_159_0 hF) ?_
  refine r_getRc dX0_sidesAtHand_7 fgX0_47 rfl (by exact k_5 hF) (by exact r_5_4 hF) ?_
  refine r_getIc (f 28) dX0_sidesAtHand_10 fgX0_68 rfl (by exact k_29 hF) (by exact hW.2.2.2.1 1 (by omega)) ?_
  refine r_iconst (-1) dX0_sidesAtHand_13 rfl ?_
  refine r_callV2 (ci := 0) (d1 := 2) (c1 := 0) (n1 := 0) dX0_sidesAtHand_14 mvX0_202 rfl ⟨(Nat.le_of_ble_eq_true rfl), rfl⟩ (Nat.le_of_ble_eq_true rfl) (by exact Nat.le_of_ble_eq_true rfl) (by exact k_159 hF) ?_
  refine S_X0_moved hF hV hW hh0 hh (fun m1 q1 ht1 => ?_)
  have o1 := (Off.rf (lo := 160) (hi := 166) (m := m)).tr ((q1).wd (by omega) (by omega))
  have hF1 := Fx_of o1.1 hF
  have hW1 := hW.off o1 (by omega) hn6
  show Wp g mX0_sidesAtHand _ _ _ 17 _ (_ :: _) _ Q
  refine r_callV2 (ci := 0) (d1 := 3) (c1 := 0) (n1 := 0) dX0_sidesAtHand_17 mvX0_149 rfl ⟨(Nat.le_of_ble_eq_true rfl), rfl⟩ (Nat.le_of_ble_eq_true rfl) (by exact Nat.le_of_ble_eq_true rfl) (by exact k_159 hF1) ?_
  refine S_X0_pullOf hF1 hV hW1 (r := 165) (h := h) (rv := _) (by exact k_165 hF1) (by omega) ht1 hh0 hh (hp.off o1 (by omega)) (fun m2 q2 hT2 hs2 ha2 => ?_)
  have o2 := (o1).tr ((q2).wd (by omega) (by omega))
  have hF2 := Fx_of o2.1 hF
  have hW2 := hW.off o2 (by omega) hn6
  have ht2 := fun j hj => (((q2).2 165 (by omega)).1 j).trans (ht1 j hj)
  show Wp g mX0_sidesAtHand _ _ _ 20 _ (_ :: _) _ Q
  refine sl_2 dX0_sidesAtHand_20 rfl (Nat.le_of_ble_eq_true rfl) ?_
  refine r_aload_n dX0_sidesAtHand_21 rfl ?_
  refine r_aload_n dX0_sidesAtHand_22 rfl ?_
  refine r_aload_n dX0_sidesAtHand_23 rfl ?_
  refine r_getRc dX0_sidesAtHand_24 fgX0_9 rfl (by exact k_159 hF2) (by exact r_159_0 hF2) ?_
  refine r_getRc dX0_sidesAtHand_27 fgX0_47 rfl (by exact k_5 hF2) (by exact r_5_4 hF2) ?_
  refine r_callV2 (ci := 0) (d1 := 3) (c1 := 0) (n1 := 0) dX0_sidesAtHand_30 mvX0_149 rfl ⟨(Nat.le_of_ble_eq_true rfl), rfl⟩ (Nat.le_of_ble_eq_true rfl) (by exact Nat.le_of_ble_eq_true rfl) (by exact k_159 hF2) ?_
  refine S_X0_pullOf hF2 hV hW2 (r := 29) (h := h) (rv := hd f) (by exact k_29 hF2) (by omega) (fun j hj => hW2.2.2.2.1 j hj) hh0 hh (hp.off o2 (by omega)) (fun m3 q3 hT3 hs3 ha3 => ?_)
  have o3 := (o2).tr ((q3).wd (by omega) (by omega))
  have hF3 := Fx_of o3.1 hF
  have hW3 := hW.off o3 (by omega) hn6
  have ht3 := fun j hj => (((q3).2 165 (by omega)).1 j).trans (ht2 j hj)
  show Wp g mX0_sidesAtHand _ _ _ 33 _ (_ :: _) _ Q
  refine r_lload_n dX0_sidesAtHand_33 rfl ?_
  refine r_lsub dX0_sidesAtHand_34 ?_
  refine r_lreturn dX0_sidesAtHand_35 rfl ?_
  exact k _ o3
def msS (v k : Int32) : Int64 := if 1 < rtF (ovF (v.toInt64 * v.toInt64) k.toInt64) then rtF (ovF (v.toInt64 * v.toInt64) k.toInt64) else 1
def clR (f : Nat → Int32) (k v : Int32) : Nat → Int32 := r6 (f 27) k v (-1) 0 0
def mnP (x : Int64) : Int64 := if 1000000000 < x then 1000000000 else x
def fnV (f : Nat → Int32) (h : Nat) (T T2 : (Nat → Int64) → Nat → Int64) (v k : Int32) : Int64 := ndV f h T2 (clR f k (msS v k).toInt32) (mnP (PvV f h T (clR f k (msS v k).toInt32)))
def erV (f : Nat → Int32) (h : Nat) (T T2 : (Nat → Int64) → Nat → Int64) (v k : Int32) : Int64 := dst (fnV f h T T2 v k) (PvV f h T (clR f 1 v))
theorem S_X0_foretoldNeed {g : GG} {m : MM} {Q : Out → Prop} (hF : Fx m) {f : Nat → Int32} (hV : Vf f) (hW : Wd f 5 m) {h : Nat} (hh0 : f 27 = nI h) (hh : h < nH f) {p : Nat} {T : (Nat → Int64) → Nat → Int64} (hp : Pr T p m) {p2 : Nat} {T2 : (Nat → Int64) → Nat → Int64} (hp2 : Pr T2 p2 m) {v k0 : Int32} (k : ∀ m', Off 160 166 m m' → Q (.inl (some (.long (fnV f h T T2 v k0))), m')) : Cl g 5 0 0 mX0_foretoldNeed [.ref 159, .ref p, .ref p2, .int v, .int k0] m Q := by
  refine Cl.of rfl (by decide) (Nat.le_of_ble_eq_true rfl) ?_
  show Wp g mX0_foretoldNeed 5 0 0 0 [.ref 159, .ref p, .ref p2, .int v, .int k0, .retAddr 0, .retAddr 0, .retAddr 0, .retAddr 0, .retAddr 0] [] m Q
  have hn6 := hV.1.1.2
  refine r_iload_n dX0_foretoldNeed_0 rfl ?_
  refine r_i2l dX0_foretoldNeed_1 ?_
  refine r_iload_n dX0_foretoldNeed_2 rfl ?_
  refine r_i2l dX0_foretoldNeed_3 ?_
  refine r_lmul dX0_foretoldNeed_4 ?_
  refine r_iload dX0_foretoldNeed_5 rfl ?_
  refine r_i2l dX0_foretoldNeed_7 ?_
  refine r_callN2 (d1 := 0) (c1 := 0) (n1 := 0) dX0_foretoldNeed_8 msX0_95 (Nat.le_of_ble_eq_true rfl) (by exact Nat.le_of_ble_eq_true rfl) ?_
  refine S_over ?_
  show Wp g mX0_foretoldNeed _ _ _ 11 _ (_ :: _) _ Q
  refine r_callN1 (d1 := 0) (c1 := 0) (n1 := 0) dX0_foretoldNeed_11 msX0_160 (Nat.le_of_ble_eq_true rfl) (by exact Nat.le_of_ble_eq_true rfl) ?_
  refine S_X11_rootOf ?_
  show Wp g mX0_foretoldNeed _ _ _ 14 _ (_ :: _) _ Q
  refine r_lconst (1) dX0_foretoldNeed_14 rfl ?_
  refine r_mmaxL dX0_foretoldNeed_15 msX0_175 (Nat.le_of_ble_eq_true rfl) (by exact Nat.le_of_ble_eq_true rfl) ?_
  refine sl_5 dX0_foretoldNeed_18 rfl (Nat.le_of_ble_eq_true rfl) ?_
  refine r_aload_n dX0_foretoldNeed_20 rfl ?_
  refine r_iload dX0_foretoldNeed_21 rfl ?_
  refine r_lload dX0_foretoldNeed_23 rfl ?_
  refine r_l2i dX0_foretoldNeed_25 ?_
  refine r_callV2 (ci := 0) (d1 := 1) (c1 := 0) (n1 := 0) dX0_foretoldNeed_26 mvX0_181 rfl ⟨(Nat.le_of_ble_eq_true rfl), rfl⟩ (Nat.le_of_ble_eq_true rfl) (by exact Nat.le_of_ble_eq_true rfl) (by exact k_159 hF) ?_
  refine S_X0_calm hF hV hW hh0 hh (fun m1 q1 ht1 => ?_)
  have o1 := (Off.rf (lo := 160) (hi := 166) (m := m)).tr ((q1).wd (by omega) (by omega))
  have hF1 := Fx_of o1.1 hF
  have hW1 := hW.off o1 (by omega) hn6
  show Wp g mX0_foretoldNeed _ _ _ 29 _ (_ :: _) _ Q
  refine sa_7 dX0_foretoldNeed_29 (by first | rfl | assumption) (Nat.le_of_ble_eq_true rfl) ?_
  refine r_aload_n dX0_foretoldNeed_31 rfl ?_
  refine r_aload_n dX0_foretoldNeed_32 rfl ?_
  refine r_aload dX0_foretoldNeed_33 rfl ?_
  refine r_callV2 (ci := 0) (d1 := 3) (c1 := 0) (n1 := 0) dX0_foretoldNeed_35 mvX0_149 rfl ⟨(Nat.le_of_ble_eq_true rfl), rfl⟩ (Nat.le_of_ble_eq_true rfl) (by exact Nat.le_of_ble_eq_true rfl) (by exact k_159 hF1) ?_
  refine S_X0_pullOf hF1 hV hW1 (r := 165) (h := h) (rv := clR f k0 (msS v k0).toInt32) (by exact k_165 hF1) (by omega) ht1 hh0 hh (hp.off o1 (by omega)) (fun m2 q2 hT2 hs2 ha2 => ?_)
  have o2 := (o1).tr ((q2).wd (by omega) (by omega))
  have hF2 := Fx_of o2.1 hF
  have hW2 := hW.off o2 (by omega) hn6
  have ht2 := fun j hj => (((q2).2 165 (by omega)).1 j).trans (ht1 j hj)
  show Wp g mX0_foretoldNeed _ _ _ 38 _ (_ :: _) _ Q
  refine r_ldc2 (1000000000) dX0_foretoldNeed_38 ctX0_192 ?_
  refine r_mminL dX0_foretoldNeed_41 msX0_166 (Nat.le_of_ble_eq_true rfl) (by exact Nat.le_of_ble_eq_true rfl) ?_
  refine sl_8 dX0_foretoldNeed_44 rfl (Nat.le_of_ble_eq_true rfl) ?_
  refine r_aload_n dX0_foretoldNeed_46 rfl ?_
  refine r_aload_n dX0_foretoldNeed_47 rfl ?_
  refine r_aload dX0_foretoldNeed_48 rfl ?_
  refine r_lload dX0_foretoldNeed_50 rfl ?_
  refine r_iconst (2) dX0_foretoldNeed_52 rfl ?_
  refine r_callV4 (ci := 0) (d1 := 4) (c1 := 0) (n1 := 0) dX0_foretoldNeed_53 mvX0_194 rfl ⟨(Nat.le_of_ble_eq_true rfl), rfl⟩ (Nat.le_of_ble_eq_true rfl) (by exact Nat.le_of_ble_eq_true rfl) (by exact k_159 hF2) ?_
  refine S_need165_2 hF2 hV hW2 ht2 hh0 hh (hp2.off o2 (by omega)) (fun m3 q3 => ?_)
  have o3 := (o2).tr ((q3).wd (by omega) (by omega))
  have hF3 := Fx_of o3.1 hF
  have hW3 := hW.off o3 (by omega) hn6
  show Wp g mX0_foretoldNeed _ _ _ 56 _ (_ :: _) _ Q
  refine r_lreturn dX0_foretoldNeed_56 rfl ?_
  exact k _ o3
theorem S_X0_errorOf {g : GG} {m : MM} {Q : Out → Prop} (hF : Fx m) {f : Nat → Int32} (hV : Vf f) (hW : Wd f 5 m) {h : Nat} (hh0 : f 27 = nI h) (hh : h < nH f) {p : Nat} {T : (Nat → Int64) → Nat → Int64} (hp : Pr T p m) {p2 : Nat} {T2 : (Nat → Int64) → Nat → Int64} (hp2 : Pr T2 p2 m) {v k0 : Int32} (k : ∀ m', Off 160 166 m m' → Q (.inl (some (.long (erV f h T T2 v k0))), m')) : Cl g 6 0 0 mX0_errorOf [.ref 159, .ref p, .ref p2, .int v, .int k0] m Q := by
  refine Cl.of rfl (by decide) (Nat.le_of_ble_eq_true rfl) ?_
  show Wp g mX0_errorOf 6 0 0 0 [.ref 159, .ref p, .ref p2, .int v, .int k0, .retAddr 0, .retAddr 0] [] m Q
  have hn6 := hV.1.1.2
  refine r_aload_n dX0_errorOf_0 rfl ?_
  refine r_aload_n dX0_errorOf_1 rfl ?_
  refine r_aload_n dX0_errorOf_2 rfl ?_
  refine r_iconst (1) dX0_errorOf_3 rfl ?_
  refine r_iload_n dX0_errorOf_4 rfl ?_
  refine r_callV2 (ci := 0) (d1 := 1) (c1 := 0) (n1 := 0) dX0_errorOf_5 mvX0_181 rfl ⟨(Nat.le_of_ble_eq_true rfl), rfl⟩ (Nat.le_of_ble_eq_true rfl) (by exact Nat.le_of_ble_eq_true rfl) (by exact k_159 hF) ?_
  refine S_X0_calm hF hV hW hh0 hh (fun m1 q1 ht1 => ?_)
  have o1 := (Off.rf (lo := 160) (hi := 166) (m := m)).tr ((q1).wd (by omega) (by omega))
  have hF1 := Fx_of o1.1 hF
  have hW1 := hW.off o1 (by omega) hn6
  show Wp g mX0_errorOf _ _ _ 8 _ (_ :: _) _ Q
  refine r_callV2 (ci := 0) (d1 := 3) (c1 := 0) (n1 := 0) dX0_errorOf_8 mvX0_149 rfl ⟨(Nat.le_of_ble_eq_true rfl), rfl⟩ (Nat.le_of_ble_eq_true rfl) (by exact Nat.le_of_ble_eq_true rfl) (by exact k_159 hF1) ?_
  refine S_X0_pullOf hF1 hV hW1 (r := 165) (h := h) (rv := clR f 1 v) (by exact k_165 hF1) (by omega) ht1 hh0 hh (hp.off o1 (by omega)) (fun m2 q2 hT2 hs2 ha2 => ?_)
  have o2 := (o1).tr ((q2).wd (by omega) (by omega))
  have hF2 := Fx_of o2.1 hF
  have hW2 := hW.off o2 (by omega) hn6
  have ht2 := fun j hj => (((q2).2 165 (by omega)).1 j).trans (ht1 j hj)
  show Wp g mX0_errorOf _ _ _ 11 _ (_ :: _) _ Q
  refine sl_5 dX0_errorOf_11 rfl (Nat.le_of_ble_eq_true rfl) ?_
  refine r_aload_n dX0_errorOf_13 rfl ?_
  refine r_aload_n dX0_errorOf_14 rfl ?_
  refine r_aload_n dX0_errorOf_15 rfl ?_
  refine r_iload_n dX0_errorOf_16 rfl ?_
  refine r_iload dX0_errorOf_17 rfl ?_
  refine r_callV4 (ci := 0) (d1 := 5) (c1 := 0) (n1 := 0) dX0_errorOf_19 mvX0_185 rfl ⟨(Nat.le_of_ble_eq_true rfl), rfl⟩ (Nat.le_of_ble_eq_true rfl) (by exact Nat.le_of_ble_eq_true rfl) (by exact k_159 hF2) ?_
  refine S_X0_foretoldNeed hF2 hV hW2 hh0 hh (hp.off o2 (by omega)) (hp2.off o2 (by omega)) (fun m3 q3 => ?_)
  have o3 := (o2).tr ((q3).wd (by omega) (by omega))
  have hF3 := Fx_of o3.1 hF
  have hW3 := hW.off o3 (by omega) hn6
  show Wp g mX0_errorOf _ _ _ 22 _ (_ :: _) _ Q
  refine r_lload dX0_errorOf_22 rfl ?_
  refine r_callN2 (d1 := 0) (c1 := 0) (n1 := 0) dX0_errorOf_24 msX0_189 (Nat.le_of_ble_eq_true rfl) (by exact Nat.le_of_ble_eq_true rfl) ?_
  refine S_dist ?_
  show Wp g mX0_errorOf _ _ _ 27 _ (_ :: _) _ Q
  refine r_lreturn dX0_errorOf_27 rfl ?_
  exact k _ o3
def bsT (f : Nat → Int32) (h : Nat) (T T2 : (Nat → Int64) → Nat → Int64) (v co : Int32) (i : Nat) : Int64 := erV f h T T2 v (nI (2 + i)) + co.toInt64 * (mdH f h (nI (2 + i)) 0).toInt64
def bsF (f : Nat → Int32) (h : Nat) (T T2 : (Nat → Int64) → Nat → Int64) (v co : Int32) : Nat → Int32 × Int64
  | 0 => (-1, 0)
  | i + 1 => if (bsF f h T T2 v co i).1 = -1 ∨ bsT f h T T2 v co i < (bsF f h T T2 v co i).2 then (nI (2 + i), bsT f h T T2 v co i) else bsF f h T T2 v co i
theorem L_best {g : GG} {m : MM} {Q : Out → Prop} (hF : Fx m) {f : Nat → Int32} (hV : Vf f) (hW : Wd f 5 m) {h : Nat} (hh0 : f 27 = nI h) (hh : h < nH f) {p : Nat} {T : (Nat → Int64) → Nat → Int64} (hp : Pr T p m) {p2 : Nat} {T2 : (Nat → Int64) → Nat → Int64} (hp2 : Pr T2 p2 m) {v co : Int32} (hn6 : nH f ≤ 6)  (kx : ∀ (x12 x13 x14 x15 : Value) (m1 : MM), Off 160 166 m m1 → Wp g mX0_bestScale 6 0 0 118 [.ref 159, .ref p, .ref p2, .int v, .int co, .ref (7 + 3 * h), .long (PvV f h T (clR f 1 v)), .retAddr 0, .int (bsF f h T T2 v co 39).1, .long (bsF f h T T2 v co 39).2, .retAddr 0, .int (nI (2 + 39)), x12, x13, x14, x15] [] (m1) Q) : ∀ (t i : Nat) (x12 x13 x14 x15 : Value) (m1 : MM), i + t = 39 → Off 160 166 m m1 → Wp g mX0_bestScale 6 0 0 48 [.ref 159, .ref p, .ref p2, .int v, .int co, .ref (7 + 3 * h), .long (PvV f h T (clR f 1 v)), .retAddr 0, .int (bsF f h T T2 v co i).1, .long (bsF f h T T2 v co i).2, .retAddr 0, .int (nI (2 + i)), x12, x13, x14, x15] [] (m1) Q := by
  intro t
  induction t with
  | zero =>
    intro i x12 x13 x14 x15 m1 hi hI
    have hi : i = 39 := by omega
    subst hi
    have o1 := hI
    have hF1 := Fx_of o1.1 hF
    have hW1 := hW.off o1 (by omega) hn6
    refine r_iload dX0_bestScale_48 rfl ?_
    refine r_bipush (40) dX0_bestScale_50 rfl ?_
    refine r_icmp_gt 118 dX0_bestScale_52 rfl (fun h1 => ?_) (fun h1 => ?_)
    ·
      exact kx _ _ _ _ _ hI
    ·
      exact absurd (by decide) h1
  | succ t ih =>
    intro i x12 x13 x14 x15 m1 hi hI
    have hin : i < 39 := by omega
    have o1 := hI
    have hF1 := Fx_of o1.1 hF
    have hW1 := hW.off o1 (by omega) hn6
    refine r_iload dX0_bestScale_48 rfl ?_
    refine r_bipush (40) dX0_bestScale_50 rfl ?_
    refine r_icmp_gt 118 dX0_bestScale_52 rfl (fun h1 => ?_) (fun h1 => ?_)
    ·
      exact absurd h1 (nI_nlt (a := 40) (b := 2 + i) (by omega) (by omega))
    ·
      refine r_aload_n dX0_bestScale_55 rfl ?_
      refine r_aload_n dX0_bestScale_56 rfl ?_
      refine r_aload_n dX0_bestScale_57 rfl ?_
      refine r_iload_n dX0_bestScale_58 rfl ?_
      refine r_iload dX0_bestScale_59 rfl ?_
      refine r_callV4 (ci := 0) (d1 := 5) (c1 := 0) (n1 := 0) dX0_bestScale_61 mvX0_185 rfl ⟨(Nat.le_of_ble_eq_true rfl), rfl⟩ (Nat.le_of_ble_eq_true rfl) (by exact Nat.le_of_ble_eq_true rfl) (by exact k_159 hF1) ?_
      refine S_X0_foretoldNeed hF1 hV hW1 hh0 hh (hp.off o1 (by omega)) (hp2.off o1 (by omega)) (fun m2 q2 => ?_)
      have o2 := (o1).tr ((q2).wd (by omega) (by omega))
      have hF2 := Fx_of o2.1 hF
      have hW2 := hW.off o2 (by omega) hn6
      show Wp g mX0_bestScale _ _ _ 64 _ (_ :: _) _ Q
      refine r_lload dX0_bestScale_64 rfl ?_
      refine r_callN2 (d1 := 0) (c1 := 0) (n1 := 0) dX0_bestScale_66 msX0_189 (Nat.le_of_ble_eq_true rfl) (by exact Nat.le_of_ble_eq_true rfl) ?_
      refine S_dist ?_
      show Wp g mX0_bestScale _ _ _ 69 _ (_ :: _) _ Q
      refine sl_12 dX0_bestScale_69 rfl (Nat.le_of_ble_eq_true rfl) ?_
      refine r_lload dX0_bestScale_71 rfl ?_
      refine r_iload dX0_bestScale_73 rfl ?_
      refine r_i2l dX0_bestScale_75 ?_
      refine r_aload_n dX0_bestScale_76 rfl ?_
      refine r_aload dX0_bestScale_77 rfl ?_
      refine r_iload dX0_bestScale_79 rfl ?_
      refine r_iconst (0) dX0_bestScale_81 rfl ?_
      refine r_callV3 (ci := 0) (d1 := 2) (c1 := 0) (n1 := 0) dX0_bestScale_82 mvX0_198 rfl ⟨(Nat.le_of_ble_eq_true rfl), rfl⟩ (Nat.le_of_ble_eq_true rfl) (by exact Nat.le_of_ble_eq_true rfl) (by exact k_159 hF2) ?_
      refine S_modelPart0 hF2 hV hW2 hh (fun m3 q3 => ?_)
      have o3 := (o2).tr ((q3).wd (by omega) (by omega))
      have hF3 := Fx_of o3.1 hF
      have hW3 := hW.off o3 (by omega) hn6
      show Wp g mX0_bestScale _ _ _ 85 _ (_ :: _) _ Q
      refine r_i2l dX0_bestScale_85 ?_
      refine r_lmul dX0_bestScale_86 ?_
      refine r_ladd dX0_bestScale_87 ?_
      refine sl_14 dX0_bestScale_88 (by first | rfl | assumption) (Nat.le_of_ble_eq_true rfl) ?_
      refine r_iload dX0_bestScale_90 rfl ?_
      refine r_iconst (-1) dX0_bestScale_92 rfl ?_
      refine r_icmp_eq 104 dX0_bestScale_93 rfl (fun h2 => ?_) (fun h2 => ?_)
      ·
        refine r_iload dX0_bestScale_104 rfl ?_
        refine si_8 dX0_bestScale_106 (by first | rfl | assumption) (Nat.le_of_ble_eq_true rfl) ?_
        refine r_lload dX0_bestScale_108 rfl ?_
        refine sl_9 dX0_bestScale_110 rfl (Nat.le_of_ble_eq_true rfl) ?_
        refine ic_11 (1) dX0_bestScale_112 rfl rfl (Nat.le_of_ble_eq_true rfl) ?_
        refine r_goto 48 dX0_bestScale_115 rfl ?_
        have z := fun x12 x13 x14 x15 => ih (i + 1) x12 x13 x14 x15 m3 (by omega) o3
        rw [show bsF f h T T2 v co (i + 1) = _ from if_pos (Or.inl h2)] at z
        rw [nI_1 (2 + i)]
        exact z _ _ _ _
      ·
        refine r_lload dX0_bestScale_96 rfl ?_
        refine r_lload dX0_bestScale_98 rfl ?_
        refine r_lcmp_ge 112 dX0_bestScale_100 dX0_bestScale_101 rfl (fun h3 => ?_) (fun h3 => ?_)
        ·
          refine ic_11 (1) dX0_bestScale_112 rfl rfl (Nat.le_of_ble_eq_true rfl) ?_
          refine r_goto 48 dX0_bestScale_115 rfl ?_
          have z := fun x12 x13 x14 x15 => ih (i + 1) x12 x13 x14 x15 m3 (by omega) o3
          rw [show bsF f h T T2 v co (i + 1) = _ from if_neg (fun q => q.elim h2 (i64_nlt.mpr h3))] at z
          rw [nI_1 (2 + i)]
          exact z _ _ _ _
        ·
          refine r_iload dX0_bestScale_104 rfl ?_
          refine si_8 dX0_bestScale_106 (by first | rfl | assumption) (Nat.le_of_ble_eq_true rfl) ?_
          refine r_lload dX0_bestScale_108 rfl ?_
          refine sl_9 dX0_bestScale_110 rfl (Nat.le_of_ble_eq_true rfl) ?_
          refine ic_11 (1) dX0_bestScale_112 rfl rfl (Nat.le_of_ble_eq_true rfl) ?_
          refine r_goto 48 dX0_bestScale_115 rfl ?_
          have z := fun x12 x13 x14 x15 => ih (i + 1) x12 x13 x14 x15 m3 (by omega) o3
          rw [show bsF f h T T2 v co (i + 1) = _ from if_pos (Or.inr (i64_nle.mp h3))] at z
          rw [nI_1 (2 + i)]
          exact z _ _ _ _
theorem S_X0_bestScale {g : GG} {m : MM} {Q : Out → Prop} (hF : Fx m) {f : Nat → Int32} (hV : Vf f) (hW : Wd f 5 m) {h : Nat} (hh0 : f 27 = nI h) (hh : h < nH f) {p : Nat} {T : (Nat → Int64) → Nat → Int64} (hp : Pr T p m) {p2 : Nat} {T2 : (Nat → Int64) → Nat → Int64} (hp2 : Pr T2 p2 m) {v co : Int32} (k : ∀ m', Off 160 166 m m' → Q (.inl (some (.int (bsF f h T T2 v co 39).1)), m')) : Cl g 6 0 0 mX0_bestScale [.ref 159, .ref p, .ref p2, .int v, .int co] m Q := by
  refine Cl.of rfl (by decide) (Nat.le_of_ble_eq_true rfl) ?_
  show Wp g mX0_bestScale 6 0 0 0 [.ref 159, .ref p, .ref p2, .int v, .int co, .retAddr 0, .retAddr 0, .retAddr 0, .retAddr 0, .retAddr 0, .retAddr 0, .retAddr 0, .retAddr 0, .retAddr 0, .retAddr 0, .retAddr 0] [] m Q
  have hn6 := hV.1.1.2
  refine r_aload_n dX0_bestScale_0 rfl ?_
  refine r_getRc dX0_bestScale_1 fgX0_9 rfl (by exact k_159 hF) (by exact r_159_0 hF) ?_
  refine r_aload_n dX0_bestScale_4 rfl ?_
  refine r_getRc dX0_bestScale_5 fgX0_9 rfl (by exact k_159 hF) (by exact r_159_0 hF) ?_
  refine r_getRc dX0_bestScale_8 fgX0_47 rfl (by exact k_5 hF) (by exact r_5_4 hF) ?_
  refine r_getIc (f 27) dX0_bestScale_11 fgX0_60 rfl (by exact k_29 hF) (by exact hW.2.2.2.1 0 (by omega)) ?_
  refine r_callV1 (ci := 10) (d1 := 0) (c1 := 0) (n1 := 0) dX0_bestScale_14 mvX0_64 rfl ⟨(Nat.le_of_ble_eq_true rfl), rfl⟩ (Nat.le_of_ble_eq_true rfl) (by exact Nat.le_of_ble_eq_true rfl) (by exact k_5 hF) ?_
  refine S_X10_hullAt (n := nH f) hF (by exact hW.1.1.trans hV.1.1.1) hV.1.1.2 (fun j hj hjn => ?_) (fun h9 => (nI_spec hh0 hh (by omega) h9).elim)
  obtain rfl := (nI_eq (by omega) (by omega)).mp (hh0.symm.trans hj)
  show Wp g mX0_bestScale _ _ _ 17 _ (_ :: _) _ Q
  refine sa_5 dX0_bestScale_17 rfl (Nat.le_of_ble_eq_true rfl) ?_
  refine r_aload dX0_bestScale_19 rfl ?_
  refine r_ifnonnull 26 dX0_bestScale_21 rfl (fun hnull => ?_) (fun hnull => ?_)
  ·
    refine r_aload_n dX0_bestScale_26 rfl ?_
    refine r_aload_n dX0_bestScale_27 rfl ?_
    refine r_aload_n dX0_bestScale_28 rfl ?_
    refine r_iconst (1) dX0_bestScale_29 rfl ?_
    refine r_iload_n dX0_bestScale_30 rfl ?_
    refine r_callV2 (ci := 0) (d1 := 1) (c1 := 0) (n1 := 0) dX0_bestScale_31 mvX0_181 rfl ⟨(Nat.le_of_ble_eq_true rfl), rfl⟩ (Nat.le_of_ble_eq_true rfl) (by exact Nat.le_of_ble_eq_true rfl) (by exact k_159 hF) ?_
    refine S_X0_calm hF hV hW hh0 hh (fun m1 q1 ht1 => ?_)
    have o1 := (Off.rf (lo := 160) (hi := 166) (m := m)).tr ((q1).wd (by omega) (by omega))
    have hF1 := Fx_of o1.1 hF
    have hW1 := hW.off o1 (by omega) hn6
    show Wp g mX0_bestScale _ _ _ 34 _ (_ :: _) _ Q
    refine r_callV2 (ci := 0) (d1 := 3) (c1 := 0) (n1 := 0) dX0_bestScale_34 mvX0_149 rfl ⟨(Nat.le_of_ble_eq_true rfl), rfl⟩ (Nat.le_of_ble_eq_true rfl) (by exact Nat.le_of_ble_eq_true rfl) (by exact k_159 hF1) ?_
    refine S_X0_pullOf hF1 hV hW1 (r := 165) (h := h) (rv := clR f 1 v) (by exact k_165 hF1) (by omega) ht1 hh0 hh (hp.off o1 (by omega)) (fun m2 q2 hT2 hs2 ha2 => ?_)
    have o2 := (o1).tr ((q2).wd (by omega) (by omega))
    have hF2 := Fx_of o2.1 hF
    have hW2 := hW.off o2 (by omega) hn6
    have ht2 := fun j hj => (((q2).2 165 (by omega)).1 j).trans (ht1 j hj)
    show Wp g mX0_bestScale _ _ _ 37 _ (_ :: _) _ Q
    refine sl_6 dX0_bestScale_37 rfl (Nat.le_of_ble_eq_true rfl) ?_
    refine r_iconst (-1) dX0_bestScale_39 rfl ?_
    refine si_8 dX0_bestScale_40 (by first | rfl | assumption) (Nat.le_of_ble_eq_true rfl) ?_
    refine r_lconst (0) dX0_bestScale_42 rfl ?_
    refine sl_9 dX0_bestScale_43 rfl (Nat.le_of_ble_eq_true rfl) ?_
    refine r_iconst (2) dX0_bestScale_45 rfl ?_
    refine si_11 dX0_bestScale_46 (by first | rfl | assumption) (Nat.le_of_ble_eq_true rfl) ?_
    refine L_best hF hV hW hh0 hh hp hp2 hn6 (fun x12 x13 x14 x15 m9 o9 => ?_) 39 0 _ _ _ _ _ (by omega) o2
    refine r_iload dX0_bestScale_118 rfl ?_
    refine r_ireturn dX0_bestScale_120 rfl rfl ?_
    exact k m9 o9
  ·
    exact absurd hnull (by omega)
def lwO (f : Nat → Int32) (h : Nat) (T : (Nat → Int64) → Nat → Int64) (i : Nat) : Int64 := PvV f h T (r6 (f 27) (nI (1 + i)) (f 29) (-1) (f 31) (f 32))
def lwP (f : Nat → Int32) (h : Nat) (T : (Nat → Int64) → Nat → Int64) (o : Int32) (i : Nat) : Prop := PvV f h T (r6 (f 27) (nI (1 + i)) (f 29) (f 30) (f 31) (f 32)) - lwO f h T i ≤ lwO f h T i * o.toInt64 / 100
theorem L_least {g : GG} {m : MM} {Q : Out → Prop} (hF : Fx m) {f : Nat → Int32} (hV : Vf f) (hW : Wd f 5 m) {h : Nat} (hh0 : f 27 = nI h) (hh : h < nH f) {p : Nat} {T : (Nat → Int64) → Nat → Int64} (hp : Pr T p m) {o : Int32} (hn6 : nH f ≤ 6) (k0 : (∀ i, i < 40 → ¬ lwP f h T o i) → ∀ m', Off 160 166 m m' → Q (.inl (some (.int (-1))), m')) (k1 : ∀ i, i < 40 → (∀ j, j < i → ¬ lwP f h T o j) → lwP f h T o i → ∀ m', Off 160 166 m m' → Q (.inl (some (.int (nI (1 + i)))), m')) : ∀ (t i : Nat) (x4 x5 x6 x7 : Value) (m1 : MM), i + t = 40 → (Off 160 166 m m1 ∧ ∀ j, j < i → ¬ lwP f h T o j) → Wp g mX0_leastScaleWithin 4 0 0 2 [.ref 159, .ref p, .int o, .int (nI (1 + i)), x4, x5, x6, x7] [] m1 Q := by
  intro t
  induction t with
  | zero =>
    intro i x4 x5 x6 x7 m1 hi hI
    obtain rfl : i = 40 := by omega
    have o1 := hI.1
    have hF1 := Fx_of o1.1 hF
    refine r_iload_n dX0_leastScaleWithin_2 rfl ?_
    refine r_bipush (40) dX0_leastScaleWithin_3 rfl ?_
    refine r_icmp_gt 67 dX0_leastScaleWithin_5 rfl (fun h1 => ?_) (fun h1 => ?_)
    ·
      refine r_iconst (-1) dX0_leastScaleWithin_67 rfl ?_
      refine r_ireturn dX0_leastScaleWithin_68 rfl rfl ?_
      exact k0 hI.2 m1 hI.1
    ·
      exact absurd (by decide) h1
  | succ t ih =>
    intro i x4 x5 x6 x7 m1 hi hI
    have o1 := hI.1
    have hF1 := Fx_of o1.1 hF
    have hW1 := hW.off o1 (by omega) hn6
    have hin : i < 40 := by omega
    refine r_iload_n dX0_leastScaleWithin_2 rfl ?_
    refine r_bipush (40) dX0_leastScaleWithin_3 rfl ?_
    refine r_icmp_gt 67 dX0_leastScaleWithin_5 rfl (fun h1 => ?_) (fun h1 => ?_)
    ·
      exact absurd h1 (nI_nlt (a := 40) (b := 1 + i) (by omega) (by omega))
    ·
      refine r_aload_n dX0_leastScaleWithin_8 rfl ?_
      refine r_aload_n dX0_leastScaleWithin_9 rfl ?_
      refine r_aload_n dX0_leastScaleWithin_10 rfl ?_
      refine r_iload_n dX0_leastScaleWithin_11 rfl ?_
      refine r_iconst (-1) dX0_leastScaleWithin_12 rfl ?_
      refine r_callV2 (ci := 0) (d1 := 2) (c1 := 0) (n1 := 0) dX0_leastScaleWithin_13 mvX0_202 rfl ⟨(Nat.le_of_ble_eq_true rfl), rfl⟩ (Nat.le_of_ble_eq_true rfl) (by exact Nat.le_of_ble_eq_true rfl) (by exact k_159 hF1) ?_
      refine S_X0_moved hF1 hV hW1 hh0 hh (fun m2 q2 ht2 => ?_)
      have o2 := (o1).tr ((q2).wd (by omega) (by omega))
      have hF2 := Fx_of o2.1 hF
      have hW2 := hW.off o2 (by omega) hn6
      show Wp g mX0_leastScaleWithin _ _ _ 16 _ (_ :: _) _ Q
      refine r_callV2 (ci := 0) (d1 := 3) (c1 := 0) (n1 := 0) dX0_leastScaleWithin_16 mvX0_149 rfl ⟨(Nat.le_of_ble_eq_true rfl), rfl⟩ (Nat.le_of_ble_eq_true rfl) (by exact Nat.le_of_ble_eq_true rfl) (by exact k_159 hF2) ?_
      refine S_X0_pullOf hF2 hV hW2 (r := 165) (h := h) (rv := _) (by exact k_165 hF2) (by omega) ht2 hh0 hh (hp.off o2 (by omega)) (fun m3 q3 hT3 hs3 ha3 => ?_)
      have o3 := (o2).tr ((q3).wd (by omega) (by omega))
      have hF3 := Fx_of o3.1 hF
      have hW3 := hW.off o3 (by omega) hn6
      have ht3 := fun j hj => (((q3).2 165 (by omega)).1 j).trans (ht2 j hj)
      show Wp g mX0_leastScaleWithin _ _ _ 19 _ (_ :: _) _ Q
      refine sl_4 dX0_leastScaleWithin_19 rfl (Nat.le_of_ble_eq_true rfl) ?_
      refine r_aload_n dX0_leastScaleWithin_21 rfl ?_
      refine r_aload_n dX0_leastScaleWithin_22 rfl ?_
      refine r_aload_n dX0_leastScaleWithin_23 rfl ?_
      refine r_iload_n dX0_leastScaleWithin_24 rfl ?_
      refine r_aload_n dX0_leastScaleWithin_25 rfl ?_
      refine r_getRc dX0_leastScaleWithin_26 fgX0_9 rfl (by exact k_159 hF3) (by exact r_159_0 hF3) ?_
      refine r_getRc dX0_leastScaleWithin_29 fgX0_47 rfl (by exact k_5 hF3) (by exact r_5_4 hF3) ?_
      refine r_getIc (f 30) dX0_leastScaleWithin_32 fgX0_103 rfl (by exact k_29 hF3) (by exact hW3.2.2.2.1 3 (by omega)) ?_
      refine r_callV2 (ci := 0) (d1 := 2) (c1 := 0) (n1 := 0) dX0_leastScaleWithin_35 mvX0_202 rfl ⟨(Nat.le_of_ble_eq_true rfl), rfl⟩ (Nat.le_of_ble_eq_true rfl) (by exact Nat.le_of_ble_eq_true rfl) (by exact k_159 hF3) ?_
      refine S_X0_moved hF3 hV hW3 hh0 hh (fun m4 q4 ht4 => ?_)
      have o4 := (o3).tr ((q4).wd (by omega) (by omega))
      have hF4 := Fx_of o4.1 hF
      have hW4 := hW.off o4 (by omega) hn6
      show Wp g mX0_leastScaleWithin _ _ _ 38 _ (_ :: _) _ Q
      refine r_callV2 (ci := 0) (d1 := 3) (c1 := 0) (n1 := 0) dX0_leastScaleWithin_38 mvX0_149 rfl ⟨(Nat.le_of_ble_eq_true rfl), rfl⟩ (Nat.le_of_ble_eq_true rfl) (by exact Nat.le_of_ble_eq_true rfl) (by exact k_159 hF4) ?_
      refine S_X0_pullOf hF4 hV hW4 (r := 165) (h := h) (rv := _) (by exact k_165 hF4) (by omega) ht4 hh0 hh (hp.off o4 (by omega)) (fun m5 q5 hT5 hs5 ha5 => ?_)
      have o5 := (o4).tr ((q5).wd (by omega) (by omega))
      have hF5 := Fx_of o5.1 hF
      have hW5 := hW.off o5 (by omega) hn6
      have ht5 := fun j hj => (((q5).2 165 (by omega)).1 j).trans (ht4 j hj)
      show Wp g mX0_leastScaleWithin _ _ _ 41 _ (_ :: _) _ Q
      refine sl_6 dX0_leastScaleWithin_41 (by first | rfl | assumption) (Nat.le_of_ble_eq_true rfl) ?_
      refine r_lload dX0_leastScaleWithin_43 rfl ?_
      refine r_lload dX0_leastScaleWithin_45 rfl ?_
      refine r_lsub dX0_leastScaleWithin_47 ?_
      refine r_lload dX0_leastScaleWithin_48 rfl ?_
      refine r_iload_n dX0_leastScaleWithin_50 rfl ?_
      refine r_i2l dX0_leastScaleWithin_51 ?_
      refine r_callN2 (d1 := 0) (c1 := 0) (n1 := 0) dX0_leastScaleWithin_52 msX0_178 (Nat.le_of_ble_eq_true rfl) (by exact Nat.le_of_ble_eq_true rfl) ?_
      refine S_X11_hundredths ?_
      show Wp g mX0_leastScaleWithin _ _ _ 55 _ (_ :: _) _ Q
      refine r_lcmp_gt 61 dX0_leastScaleWithin_55 dX0_leastScaleWithin_56 rfl (fun h2 => ?_) (fun h2 => ?_)
      ·
        refine ic_3 (1) dX0_leastScaleWithin_61 rfl rfl (Nat.le_of_ble_eq_true rfl) ?_
        refine r_goto 2 dX0_leastScaleWithin_64 rfl ?_
        rw [nI_1 (1 + i)]
        exact ih (i + 1) _ _ _ _ m5 (by omega) ⟨o5, fun j hj => by rcases Nat.lt_succ_iff_lt_or_eq.mp hj with q | rfl; exact hI.2 j q; exact i64_nle.mpr h2⟩
      ·
        refine r_iload_n dX0_leastScaleWithin_59 rfl ?_
        refine r_ireturn dX0_leastScaleWithin_60 rfl rfl ?_
        exact k1 i hin hI.2 (i64_nlt.mp h2) m5 o5
theorem S_X0_leastScaleWithin {g : GG} {m : MM} {Q : Out → Prop} (hF : Fx m) {f : Nat → Int32} (hV : Vf f) (hW : Wd f 5 m) {h : Nat} (hh0 : f 27 = nI h) (hh : h < nH f) {p : Nat} {T : (Nat → Int64) → Nat → Int64} (hp : Pr T p m) {o : Int32} (hn6 : nH f ≤ 6) (k0 : (∀ i, i < 40 → ¬ lwP f h T o i) → ∀ m', Off 160 166 m m' → Q (.inl (some (.int (-1))), m')) (k1 : ∀ i, i < 40 → (∀ j, j < i → ¬ lwP f h T o j) → lwP f h T o i → ∀ m', Off 160 166 m m' → Q (.inl (some (.int (nI (1 + i)))), m'))  : Cl g 4 0 0 mX0_leastScaleWithin [.ref 159, .ref p, .int o] m Q := by
  refine Cl.of rfl (by decide) (Nat.le_of_ble_eq_true rfl) ?_
  show Wp g mX0_leastScaleWithin 4 0 0 0 [.ref 159, .ref p, .int o, .retAddr 0, .retAddr 0, .retAddr 0, .retAddr 0, .retAddr 0] [] m Q
  refine r_iconst (1) dX0_leastScaleWithin_0 rfl ?_
  refine si_3 dX0_leastScaleWithin_1 rfl (Nat.le_of_ble_eq_true rfl) ?_
  exact L_least hF hV hW hh0 hh hp hn6 k0 k1 40 0 _ _ _ _ m (by omega) ⟨Off.rf, fun j hj => absurd hj (by omega)⟩
def dwR (s x : Int32) : Int32 := ((s * 1103515245 + 12345).toUInt32 >>> ((16 : Int32).toUInt32 &&& Int32.toUInt32 31)).toInt32 &&& 32767
def dwD (f : Nat → Int32) (x : Int32) : Int32 := dwR (f 6) x - dwR (f 6) x / (2 * x + 1) * (2 * x + 1) - x
def dwP (f : Nat → Int32) (h : Nat) (T : (Nat → Int64) → Nat → Int64) (x : Int32) : Int64 := mnP (PvV f h T (hd f)) + mnP (PvV f h T (hd f)) * (dwD f x).toInt64 / 100
def dwV (f : Nat → Int32) (h : Nat) (T : (Nat → Int64) → Nat → Int64) (x : Int32) : Int32 := (mnP (if 0 < dwP f h T x then dwP f h T x else 0)).toInt32
theorem S_X0_drawnPull {g : GG} {m : MM} {Q : Out → Prop} (hF : Fx m) {f : Nat → Int32} (hV : Vf f) (hW : Wd f 5 m) {h : Nat} (hh0 : f 27 = nI h) (hh : h < nH f) {p : Nat} {T : (Nat → Int64) → Nat → Int64} (hp : Pr T p m) {x : Int32} (hx : ¬ 2 * x + 1 ≤ 0) (k : ∀ m', Off 160 166 m m' → Q (.inl (some (.int (dwV f h T x))), stI m' 5 10 (f 6 * 1103515245 + 12345))) : Cl g 4 0 0 mX0_drawnPull [.ref 159, .ref p, .int x] m Q := by
  refine Cl.of rfl (by decide) (Nat.le_of_ble_eq_true rfl) ?_
  show Wp g mX0_drawnPull 4 0 0 0 [.ref 159, .ref p, .int x, .retAddr 0, .retAddr 0, .retAddr 0, .retAddr 0] [] m Q
  have hn6 := hV.1.1.2
  refine r_aload_n dX0_drawnPull_0 rfl ?_
  refine r_aload_n dX0_drawnPull_1 rfl ?_
  refine r_aload_n dX0_drawnPull_2 rfl ?_
  refine r_getRc dX0_drawnPull_3 fgX0_9 rfl (by exact k_159 hF) (by exact r_159_0 hF) ?_
  refine r_getRc dX0_drawnPull_6 fgX0_47 rfl (by exact k_5 hF) (by exact r_5_4 hF) ?_
  refine r_callV2 (ci := 0) (d1 := 3) (c1 := 0) (n1 := 0) dX0_drawnPull_9 mvX0_149 rfl ⟨(Nat.le_of_ble_eq_true rfl), rfl⟩ (Nat.le_of_ble_eq_true rfl) (by exact Nat.le_of_ble_eq_true rfl) (by exact k_159 hF) ?_
  refine S_X0_pullOf hF hV hW (r := 29) (h := h) (rv := hd f) (by exact k_29 hF) (by omega) (fun j hj => hW.2.2.2.1 j hj) hh0 hh hp (fun m1 q1 hT1 hs1 ha1 => ?_)
  have o1 := (Off.rf (lo := 160) (hi := 166) (m := m)).tr ((q1).wd (by omega) (by omega))
  have hF1 := Fx_of o1.1 hF
  have hW1 := hW.off o1 (by omega) hn6
  show Wp g mX0_drawnPull _ _ _ 12 _ (_ :: _) _ Q
  refine r_ldc2 (1000000000) dX0_drawnPull_12 ctX0_192 ?_
  refine r_mminL dX0_drawnPull_15 msX0_166 (Nat.le_of_ble_eq_true rfl) (by exact Nat.le_of_ble_eq_true rfl) ?_
  refine sl_3 dX0_drawnPull_18 rfl (Nat.le_of_ble_eq_true rfl) ?_
  refine r_lload_n dX0_drawnPull_19 rfl ?_
  refine r_lload_n dX0_drawnPull_20 rfl ?_
  refine r_aload_n dX0_drawnPull_21 rfl ?_
  refine r_getRc dX0_drawnPull_22 fgX0_9 rfl (by exact k_159 hF1) (by exact r_159_0 hF1) ?_
  refine r_iconst (2) dX0_drawnPull_25 rfl ?_
  refine r_iload_n dX0_drawnPull_26 rfl ?_
  refine r_imul dX0_drawnPull_27 ?_
  refine r_iconst (1) dX0_drawnPull_28 rfl ?_
  refine r_iadd dX0_drawnPull_29 ?_
  refine r_callV1 (ci := 10) (d1 := 0) (c1 := 0) (n1 := 0) dX0_drawnPull_30 mvX0_205 rfl ⟨(Nat.le_of_ble_eq_true rfl), rfl⟩ (Nat.le_of_ble_eq_true rfl) (by exact Nat.le_of_ble_eq_true rfl) (by exact k_5 hF1) ?_
  refine S_X10_drawOf hF1 (fun _ => ?_) (fun h9 => absurd h9 hx)
  rw [show ldI m1 5 10 = f 6 from hW1.1.2]
  show Wp g mX0_drawnPull _ _ _ 33 _ (_ :: _) _ Q
  refine r_iload_n dX0_drawnPull_33 rfl ?_
  refine r_isub dX0_drawnPull_34 ?_
  refine r_i2l dX0_drawnPull_35 ?_
  refine r_callN2 (d1 := 0) (c1 := 0) (n1 := 0) dX0_drawnPull_36 msX0_178 (Nat.le_of_ble_eq_true rfl) (by exact Nat.le_of_ble_eq_true rfl) ?_
  refine S_X11_hundredths ?_
  show Wp g mX0_drawnPull _ _ _ 39 _ (_ :: _) _ Q
  refine r_ladd dX0_drawnPull_39 ?_
  refine sl_5 dX0_drawnPull_40 (by first | rfl | assumption) (Nat.le_of_ble_eq_true rfl) ?_
  refine r_lload dX0_drawnPull_42 rfl ?_
  refine r_lconst (0) dX0_drawnPull_44 rfl ?_
  refine r_mmaxL dX0_drawnPull_45 msX0_175 (Nat.le_of_ble_eq_true rfl) (by exact Nat.le_of_ble_eq_true rfl) ?_
  refine r_ldc2 (1000000000) dX0_drawnPull_48 ctX0_192 ?_
  refine r_mminL dX0_drawnPull_51 msX0_166 (Nat.le_of_ble_eq_true rfl) (by exact Nat.le_of_ble_eq_true rfl) ?_
  refine r_l2i dX0_drawnPull_54 ?_
  refine r_ireturn dX0_drawnPull_55 rfl rfl ?_
  exact k m1 o1
