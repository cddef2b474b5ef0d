def r6 (x y z w u v : Int32) : Nat → Int32 := fun j => match j with
  | 0 => x
  | 1 => y
  | 2 => z
  | 3 => w
  | 4 => u
  | _ => v
theorem r6_ld {m : MM} {a : Nat} {x y z w u v : Int32} : ∀ j, j < 6 → ldI (rDr (rPl m a x y z w) a u v) a j = r6 x y z w u v j
  | 0, _ => ld_n (by omega) (ld_n (by omega) (ld_n (by omega) (ld_n (by omega) (ld_n (by omega) ld_s))))
  | 1, _ => ld_n (by omega) (ld_n (by omega) (ld_n (by omega) (ld_n (by omega) ld_s)))
  | 2, _ => ld_n (by omega) (ld_n (by omega) (ld_n (by omega) ld_s))
  | 3, _ => ld_n (by omega) (ld_n (by omega) ld_s)
  | 4, _ => ld_n (by omega) ld_s
  | 5, _ => ld_s
  | j + 6, h => absurd h (by omega)
theorem rDrPl_off {m : MM} {a : Nat} {x y z w u v : Int32} : Off a a m (rDr (rPl m a x y z w) a u v) := (((((Off.rf.stI (by omega) (by omega)).stI (by omega) (by omega)).stI (by omega) (by omega)).stI (by omega) (by omega)).stI (by omega) (by omega)).stI (by omega) (by omega)
def PvV (f : Nat → Int32) (h : Nat) (T : (Nat → Int64) → Nat → Int64) (rv : Nat → Int32) : Int64 := puF (T (cut (NmH f h rv)))
theorem S_X0_calm {g : GG} {m : MM} {Q : Out → Prop} (hF : Fx m) {f : Nat → Int32} (hV : Vf f) (hW : Wd f 5 m) {h : Nat} (hh0 : f 27 = nI h) (hh : h < nH f) {x y : Int32} (k : ∀ m', Off 165 165 m m' → (∀ j, j < 6 → ldI m' 165 j = r6 (f 27) x y (-1) 0 0 j) → Q (.inl (some (.ref 165)), m')) : Cl g 1 0 0 mX0_calm [.ref 159, .int x, .int y] m Q := by
  refine Cl.of rfl (by decide) (Nat.le_of_ble_eq_true rfl) ?_
  show Wp g mX0_calm 1 0 0 0 [.ref 159, .int x, .int y] [] m Q
  refine r_aload_n dX0_calm_0 rfl ?_
  refine r_getRc dX0_calm_1 fgX0_32 rfl (by exact k_159 hF) (by exact r_159_3 hF) ?_
  refine r_aload_n dX0_calm_4 rfl ?_
  refine r_getRc dX0_calm_5 fgX0_9 rfl (by exact k_159 hF) (by exact r_159_0 hF) ?_
  refine r_getRc dX0_calm_8 fgX0_47 rfl (by exact k_5 hF) (by exact r_5_4 hF) ?_
  refine r_getIc (f 27) dX0_calm_11 fgX0_60 rfl (by exact k_29 hF) (by exact hW.2.2.2.1 0 (by omega)) ?_
  refine r_iload_n dX0_calm_14 rfl ?_
  refine r_iload_n dX0_calm_15 rfl ?_
  refine r_iconst (-1) dX0_calm_16 rfl ?_
  refine r_callV4 (ci := 6) (d1 := 0) (c1 := 0) (n1 := 0) dX0_calm_17 mvX0_138 rfl ⟨(Nat.le_of_ble_eq_true rfl), rfl⟩ (Nat.le_of_ble_eq_true rfl) (by exact Nat.le_of_ble_eq_true rfl) (by exact k_165 hF) ?_
  refine S_X6_place (by exact k_165 hF) ?_
  show Wp g mX0_calm _ _ _ 20 _ [] _ Q
  refine r_aload_n dX0_calm_20 rfl ?_
  refine r_getRc dX0_calm_21 fgX0_32 rfl (by exact k_159 hF) (by exact r_159_3 hF) ?_
  refine r_iconst (0) dX0_calm_24 rfl ?_
  refine r_iconst (0) dX0_calm_25 rfl ?_
  refine r_callV2 (ci := 6) (d1 := 0) (c1 := 0) (n1 := 0) dX0_calm_26 mvX0_142 rfl ⟨(Nat.le_of_ble_eq_true rfl), rfl⟩ (Nat.le_of_ble_eq_true rfl) (by exact Nat.le_of_ble_eq_true rfl) (by exact k_165 hF) ?_
  refine S_X6_dress (by exact k_165 hF) (Or.inl rfl) ?_
  show Wp g mX0_calm _ _ _ 29 _ [] _ Q
  refine r_aload_n dX0_calm_29 rfl ?_
  refine r_getRc dX0_calm_30 fgX0_32 rfl (by exact k_159 hF) (by exact r_159_3 hF) ?_
  refine r_areturn dX0_calm_33 rfl rfl ?_
  exact k _ rDrPl_off r6_ld
theorem rPl_o {m : MM} {a b k : Nat} {x y z w : Int32} (h : b ≠ a) : ldI (rPl m a x y z w) b k = ldI m b k := ld_n (by omega) (ld_n (by omega) (ld_n (by omega) (ld_n (by omega) rfl)))
theorem mvM_ld {m : MM} {a : Nat} {x y z w u v s t : Int32} : ∀ j, j < 6 → ldI (stI (stI (rDr (rPl m a x y z w) a u v) a 1 s) a 3 t) a j = r6 x s z t u v j
  | 0, _ => ld_n (by omega) (ld_n (by omega) (r6_ld 0 (by omega)))
  | 1, _ => ld_n (by omega) ld_s
  | 2, _ => ld_n (by omega) (ld_n (by omega) (r6_ld 2 (by omega)))
  | 3, _ => ld_s
  | 4, _ => ld_n (by omega) (ld_n (by omega) (r6_ld 4 (by omega)))
  | 5, _ => ld_n (by omega) (ld_n (by omega) (r6_ld 5 (by omega)))
  | j + 6, h => absurd h (by omega)
theorem S_X0_moved {g : GG} {m : MM} {Q : Out → Prop} (hF : Fx m) {f : Nat → Int32} (hV : Vf f) (hW : Wd f 5 m) {h : Nat} (hh0 : f 27 = nI h) (hh : h < nH f) {x y : Int32} (k : ∀ m', Off 165 165 m m' → (∀ j, j < 6 → ldI m' 165 j = r6 (f 27) x (f 29) y (f 31) (f 32) j) → Q (.inl (some (.ref 165)), m')) : Cl g 2 0 0 mX0_moved [.ref 159, .int x, .int y] m Q := by
  refine Cl.of rfl (by decide) (Nat.le_of_ble_eq_true rfl) ?_
  show Wp g mX0_moved 2 0 0 0 [.ref 159, .int x, .int y] [] m Q
  have e0 : ∀ k, k < 6 → ldI (rPl m 165 (ldI m 29 0) (ldI m 29 1) (ldI m 29 2) (ldI m 29 3)) 29 k = f (27 + k) := fun k hk => (rPl_o (by omega)).trans (hW.2.2.2.1 k hk)
  refine r_aload_n dX0_moved_0 rfl ?_
  refine r_getRc dX0_moved_1 fgX0_32 rfl (by exact k_159 hF) (by exact r_159_3 hF) ?_
  refine r_aload_n dX0_moved_4 rfl ?_
  refine r_getRc dX0_moved_5 fgX0_9 rfl (by exact k_159 hF) (by exact r_159_0 hF) ?_
  refine r_getRc dX0_moved_8 fgX0_47 rfl (by exact k_5 hF) (by exact r_5_4 hF) ?_
  refine r_callV1 (ci := 6) (d1 := 1) (c1 := 0) (n1 := 0) dX0_moved_11 mvX0_146 rfl ⟨(Nat.le_of_ble_eq_true rfl), rfl⟩ (Nat.le_of_ble_eq_true rfl) (by exact Nat.le_of_ble_eq_true rfl) (by exact k_165 hF) ?_
  refine S_X6_copyFrom (by exact k_165 hF) (by exact k_29 hF) (by rw [e0 4 (by omega)]; exact hV.2.2.2.1.2.2.2.2.1) ?_
  show Wp g mX0_moved _ _ _ 14 _ [] _ Q
  refine r_aload_n dX0_moved_14 rfl ?_
  refine r_getRc dX0_moved_15 fgX0_32 rfl (by exact k_159 hF) (by exact r_159_3 hF) ?_
  refine r_iload_n dX0_moved_18 rfl ?_
  refine r_putI dX0_moved_19 (fpX0_68 _ rfl) rfl (by exact k_165 hF) ⟨rfl, rfl⟩ ?_
  refine r_aload_n dX0_moved_22 rfl ?_
  refine r_getRc dX0_moved_23 fgX0_32 rfl (by exact k_159 hF) (by exact r_159_3 hF) ?_
  refine r_iload_n dX0_moved_26 rfl ?_
  refine r_putI dX0_moved_27 (fpX0_103 _ rfl) rfl (by exact k_165 hF) ⟨rfl, rfl⟩ ?_
  refine r_aload_n dX0_moved_30 rfl ?_
  refine r_getRc dX0_moved_31 fgX0_32 rfl (by exact k_159 hF) (by exact r_159_3 hF) ?_
  refine r_areturn dX0_moved_34 rfl rfl ?_
  have k9 := k (stI (stI (rDr (rPl m 165 (f 27) (f 28) (f 29) (f 30)) 165 (f 31) (f 32)) 165 1 x) 165 3 y) ((rDrPl_off.stI (by omega) (by omega)).stI (by omega) (by omega)) mvM_ld
  rw [show rDr (rPl m 165 (f 27) (f 28) (f 29) (f 30)) 165 (f 31) (f 32) = rCp m 165 29 from (by unfold rCp; rw [hW.2.2.2.1 0 (by omega), hW.2.2.2.1 1 (by omega), hW.2.2.2.1 2 (by omega), hW.2.2.2.1 3 (by omega), rPl_o (by omega), rPl_o (by omega), hW.2.2.2.1 4 (by omega), hW.2.2.2.1 5 (by omega)])] at k9
  exact k9
theorem S_pullPart0 {g : GG} {m : MM} {Q : Out → Prop} (hF : Fx m) {f : Nat → Int32} (hV : Vf f) (hW : Wd f 5 m) {h : Nat} (hh0 : f 27 = nI h) (hh : h < nH f) {p : Nat} {T : (Nat → Int64) → Nat → Int64} (hp : Pr T p m) (k : ∀ m', Off 160 166 m m' → Q (.inl (some (.long (PvV f h T (hd f)))), m')) : Cl g 4 0 0 mX0_pullPart [.ref 159, .ref p, .int 0] m Q := by
  refine Cl.of rfl (by decide) (Nat.le_of_ble_eq_true rfl) ?_
  show Wp g mX0_pullPart 4 0 0 0 [.ref 159, .ref p, .int 0, .retAddr 0, .retAddr 0] [] m Q
  have hn6 := hV.1.1.2
  refine r_aload_n dX0_pullPart_0 rfl ?_
  refine r_aload_n dX0_pullPart_1 rfl ?_
  refine r_aload_n dX0_pullPart_2 rfl ?_
  refine r_getRc dX0_pullPart_3 fgX0_9 rfl (by exact k_159 hF) (by exact r_159_0 hF) ?_
  refine r_getRc dX0_pullPart_6 fgX0_47 rfl (by exact k_5 hF) (by exact r_5_4 hF) ?_
  refine r_callV2 (ci := 0) (d1 := 3) (c1 := 0) (n1 := 0) dX0_pullPart_9 mvX0_149 rfl ⟨(Nat.le_of_ble_eq_true rfl), rfl⟩ (Nat.le_of_ble_eq_true rfl) (by exact Nat.le_of_ble_eq_true rfl) (by exact k_159 hF) ?_
  refine S_X0_pullOf hF hV hW (r := 29) (h := h) (rv := hd f) (by exact k_29 hF) (by omega) (fun j hj => hW.2.2.2.1 j hj) hh0 hh hp (fun m1 q1 hT1 hs1 ha1 => ?_)
  have o1 := (Off.rf (lo := 160) (hi := 166) (m := m)).tr ((q1).wd (by omega) (by omega))
  have hF1 := Fx_of o1.1 hF
  have hW1 := hW.off o1 (by omega) hn6
  show Wp g mX0_pullPart _ _ _ 12 _ (_ :: _) _ Q
  refine sl_3 dX0_pullPart_12 rfl (Nat.le_of_ble_eq_true rfl) ?_
  refine r_iload_n dX0_pullPart_13 rfl ?_
  refine r_tabIn 44 dX0_pullPart_14 (by decide) (by decide) rfl rfl ?_
  refine r_lload_n dX0_pullPart_44 rfl ?_
  refine r_lreturn dX0_pullPart_45 rfl ?_
  exact k m1 o1
theorem S_pullPart1 {g : GG} {m : MM} {Q : Out → Prop} (hF : Fx m) {f : Nat → Int32} (hV : Vf f) (hW : Wd f 5 m) {h : Nat} (hh0 : f 27 = nI h) (hh : h < nH f) {p : Nat} {T : (Nat → Int64) → Nat → Int64} (hp : Pr T p m) (k : ∀ m', Off 160 166 m m' → Q (.inl (some (.long (skF (T (cut (NmH f h (hd f))))))), m')) : Cl g 4 0 0 mX0_pullPart [.ref 159, .ref p, .int 1] m Q := by
  refine Cl.of rfl (by decide) (Nat.le_of_ble_eq_true rfl) ?_
  show Wp g mX0_pullPart 4 0 0 0 [.ref 159, .ref p, .int 1, .retAddr 0, .retAddr 0] [] m Q
  have hn6 := hV.1.1.2
  refine r_aload_n dX0_pullPart_0 rfl ?_
  refine r_aload_n dX0_pullPart_1 rfl ?_
  refine r_aload_n dX0_pullPart_2 rfl ?_
  refine r_getRc dX0_pullPart_3 fgX0_9 rfl (by exact k_159 hF) (by exact r_159_0 hF) ?_
  refine r_getRc dX0_pullPart_6 fgX0_47 rfl (by exact k_5 hF) (by exact r_5_4 hF) ?_
  refine r_callV2 (ci := 0) (d1 := 3) (c1 := 0) (n1 := 0) dX0_pullPart_9 mvX0_149 rfl ⟨(Nat.le_of_ble_eq_true rfl), rfl⟩ (Nat.le_of_ble_eq_true rfl) (by exact Nat.le_of_ble_eq_true rfl) (by exact k_159 hF) ?_
  refine S_X0_pullOf hF hV hW (r := 29) (h := h) (rv := hd f) (by exact k_29 hF) (by omega) (fun j hj => hW.2.2.2.1 j hj) hh0 hh hp (fun m1 q1 hT1 hs1 ha1 => ?_)
  have o1 := (Off.rf (lo := 160) (hi := 166) (m := m)).tr ((q1).wd (by omega) (by omega))
  have hF1 := Fx_of o1.1 hF
  have hW1 := hW.off o1 (by omega) hn6
  show Wp g mX0_pullPart _ _ _ 12 _ (_ :: _) _ Q
  refine sl_3 dX0_pullPart_12 rfl (Nat.le_of_ble_eq_true rfl) ?_
  refine r_iload_n dX0_pullPart_13 rfl ?_
  refine r_tabIn 46 dX0_pullPart_14 (by decide) (by decide) rfl rfl ?_
  refine r_aload_n dX0_pullPart_46 rfl ?_
  refine r_getRc dX0_pullPart_47 fgX0_18 rfl (by exact k_159 hF1) (by exact r_159_1 hF1) ?_
  refine r_getL dX0_pullPart_50 fgX0_153 rfl (by exact k_160 hF1) ?_
  refine r_lreturn dX0_pullPart_53 rfl ?_
  rw [show ldL m1 160 4 = _ from hs1]; exact k m1 o1
theorem S_pullPart2 {g : GG} {m : MM} {Q : Out → Prop} (hF : Fx m) {f : Nat → Int32} (hV : Vf f) (hW : Wd f 5 m) {h : Nat} (hh0 : f 27 = nI h) (hh : h < nH f) {p : Nat} {T : (Nat → Int64) → Nat → Int64} (hp : Pr T p m) (k : ∀ m', Off 160 166 m m' → Q (.inl (some (.long (capT 1 (T (cut (NmH f h (hd f))) 1)))), m')) : Cl g 4 0 0 mX0_pullPart [.ref 159, .ref p, .int 2] m Q := by
  refine Cl.of rfl (by decide) (Nat.le_of_ble_eq_true rfl) ?_
  show Wp g mX0_pullPart 4 0 0 0 [.ref 159, .ref p, .int 2, .retAddr 0, .retAddr 0] [] m Q
  have hn6 := hV.1.1.2
  refine r_aload_n dX0_pullPart_0 rfl ?_
  refine r_aload_n dX0_pullPart_1 rfl ?_
  refine r_aload_n dX0_pullPart_2 rfl ?_
  refine r_getRc dX0_pullPart_3 fgX0_9 rfl (by exact k_159 hF) (by exact r_159_0 hF) ?_
  refine r_getRc dX0_pullPart_6 fgX0_47 rfl (by exact k_5 hF) (by exact r_5_4 hF) ?_
  refine r_callV2 (ci := 0) (d1 := 3) (c1 := 0) (n1 := 0) dX0_pullPart_9 mvX0_149 rfl ⟨(Nat.le_of_ble_eq_true rfl), rfl⟩ (Nat.le_of_ble_eq_true rfl) (by exact Nat.le_of_ble_eq_true rfl) (by exact k_159 hF) ?_
  refine S_X0_pullOf hF hV hW (r := 29) (h := h) (rv := hd f) (by exact k_29 hF) (by omega) (fun j hj => hW.2.2.2.1 j hj) hh0 hh hp (fun m1 q1 hT1 hs1 ha1 => ?_)
  have o1 := (Off.rf (lo := 160) (hi := 166) (m := m)).tr ((q1).wd (by omega) (by omega))
  have hF1 := Fx_of o1.1 hF
  have hW1 := hW.off o1 (by omega) hn6
  show Wp g mX0_pullPart _ _ _ 12 _ (_ :: _) _ Q
  refine sl_3 dX0_pullPart_12 rfl (Nat.le_of_ble_eq_true rfl) ?_
  refine r_iload_n dX0_pullPart_13 rfl ?_
  refine r_tabIn 54 dX0_pullPart_14 (by decide) (by decide) rfl rfl ?_
  refine r_aload_n dX0_pullPart_54 rfl ?_
  refine r_getRc dX0_pullPart_55 fgX0_18 rfl (by exact k_159 hF1) (by exact r_159_1 hF1) ?_
  refine r_iconst (1) dX0_pullPart_58 rfl ?_
  refine r_callV1 (ci := 9) (d1 := 1) (c1 := 0) (n1 := 0) dX0_pullPart_59 mvX0_131 rfl ⟨(Nat.le_of_ble_eq_true rfl), rfl⟩ (Nat.le_of_ble_eq_true rfl) (by exact Nat.le_of_ble_eq_true rfl) (by exact k_160 hF1) ?_
  refine S_told1 hF1 ?_
  show Wp g mX0_pullPart _ _ _ 62 _ (_ :: _) _ Q
  refine r_lreturn dX0_pullPart_62 rfl ?_
  rw [hT1 1 (by omega)]; exact k m1 o1
theorem S_pullPart3 {g : GG} {m : MM} {Q : Out → Prop} (hF : Fx m) {f : Nat → Int32} (hV : Vf f) (hW : Wd f 5 m) {h : Nat} (hh0 : f 27 = nI h) (hh : h < nH f) {p : Nat} {T : (Nat → Int64) → Nat → Int64} (hp : Pr T p m) (k : ∀ m', Off 160 166 m m' → Q (.inl (some (.long (capT 2 (T (cut (NmH f h (hd f))) 2)))), m')) : Cl g 4 0 0 mX0_pullPart [.ref 159, .ref p, .int 3] m Q := by
  refine Cl.of rfl (by decide) (Nat.le_of_ble_eq_true rfl) ?_
  show Wp g mX0_pullPart 4 0 0 0 [.ref 159, .ref p, .int 3, .retAddr 0, .retAddr 0] [] m Q
  have hn6 := hV.1.1.2
  refine r_aload_n dX0_pullPart_0 rfl ?_
  refine r_aload_n dX0_pullPart_1 rfl ?_
  refine r_aload_n dX0_pullPart_2 rfl ?_
  refine r_getRc dX0_pullPart_3 fgX0_9 rfl (by exact k_159 hF) (by exact r_159_0 hF) ?_
  refine r_getRc dX0_pullPart_6 fgX0_47 rfl (by exact k_5 hF) (by exact r_5_4 hF) ?_
  refine r_callV2 (ci := 0) (d1 := 3) (c1 := 0) (n1 := 0) dX0_pullPart_9 mvX0_149 rfl ⟨(Nat.le_of_ble_eq_true rfl), rfl⟩ (Nat.le_of_ble_eq_true rfl) (by exact Nat.le_of_ble_eq_true rfl) (by exact k_159 hF) ?_
  refine S_X0_pullOf hF hV hW (r := 29) (h := h) (rv := hd f) (by exact k_29 hF) (by omega) (fun j hj => hW.2.2.2.1 j hj) hh0 hh hp (fun m1 q1 hT1 hs1 ha1 => ?_)
  have o1 := (Off.rf (lo := 160) (hi := 166) (m := m)).tr ((q1).wd (by omega) (by omega))
  have hF1 := Fx_of o1.1 hF
  have hW1 := hW.off o1 (by omega) hn6
  show Wp g mX0_pullPart _ _ _ 12 _ (_ :: _) _ Q
  refine sl_3 dX0_pullPart_12 rfl (Nat.le_of_ble_eq_true rfl) ?_
  refine r_iload_n dX0_pullPart_13 rfl ?_
  refine r_tabIn 63 dX0_pullPart_14 (by decide) (by decide) rfl rfl ?_
  refine r_aload_n dX0_pullPart_63 rfl ?_
  refine r_getRc dX0_pullPart_64 fgX0_18 rfl (by exact k_159 hF1) (by exact r_159_1 hF1) ?_
  refine r_iconst (2) dX0_pullPart_67 rfl ?_
  refine r_callV1 (ci := 9) (d1 := 1) (c1 := 0) (n1 := 0) dX0_pullPart_68 mvX0_131 rfl ⟨(Nat.le_of_ble_eq_true rfl), rfl⟩ (Nat.le_of_ble_eq_true rfl) (by exact Nat.le_of_ble_eq_true rfl) (by exact k_160 hF1) ?_
  refine S_told2 hF1 ?_
  show Wp g mX0_pullPart _ _ _ 71 _ (_ :: _) _ Q
  refine r_lreturn dX0_pullPart_71 rfl ?_
  rw [hT1 2 (by omega)]; exact k m1 o1
theorem S_pullPart4 {g : GG} {m : MM} {Q : Out → Prop} (hF : Fx m) {f : Nat → Int32} (hV : Vf f) (hW : Wd f 5 m) {h : Nat} (hh0 : f 27 = nI h) (hh : h < nH f) {p : Nat} {T : (Nat → Int64) → Nat → Int64} (hp : Pr T p m) (k : ∀ m', Off 160 166 m m' → Q (.inl (some (.long (alF (T (cut (NmH f h (hd f))))))), m')) : Cl g 4 0 0 mX0_pullPart [.ref 159, .ref p, .int 4] m Q := by
  refine Cl.of rfl (by decide) (Nat.le_of_ble_eq_true rfl) ?_
  show Wp g mX0_pullPart 4 0 0 0 [.ref 159, .ref p, .int 4, .retAddr 0, .retAddr 0] [] m Q
  have hn6 := hV.1.1.2
  refine r_aload_n dX0_pullPart_0 rfl ?_
  refine r_aload_n dX0_pullPart_1 rfl ?_
  refine r_aload_n dX0_pullPart_2 rfl ?_
  refine r_getRc dX0_pullPart_3 fgX0_9 rfl (by exact k_159 hF) (by exact r_159_0 hF) ?_
  refine r_getRc dX0_pullPart_6 fgX0_47 rfl (by exact k_5 hF) (by exact r_5_4 hF) ?_
  refine r_callV2 (ci := 0) (d1 := 3) (c1 := 0) (n1 := 0) dX0_pullPart_9 mvX0_149 rfl ⟨(Nat.le_of_ble_eq_true rfl), rfl⟩ (Nat.le_of_ble_eq_true rfl) (by exact Nat.le_of_ble_eq_true rfl) (by exact k_159 hF) ?_
  refine S_X0_pullOf hF hV hW (r := 29) (h := h) (rv := hd f) (by exact k_29 hF) (by omega) (fun j hj => hW.2.2.2.1 j hj) hh0 hh hp (fun m1 q1 hT1 hs1 ha1 => ?_)
  have o1 := (Off.rf (lo := 160) (hi := 166) (m := m)).tr ((q1).wd (by omega) (by omega))
  have hF1 := Fx_of o1.1 hF
  have hW1 := hW.off o1 (by omega) hn6
  show Wp g mX0_pullPart _ _ _ 12 _ (_ :: _) _ Q
  refine sl_3 dX0_pullPart_12 rfl (Nat.le_of_ble_eq_true rfl) ?_
  refine r_iload_n dX0_pullPart_13 rfl ?_
  refine r_tabOut 72 dX0_pullPart_14 (by decide) rfl ?_
  refine r_aload_n dX0_pullPart_72 rfl ?_
  refine r_getRc dX0_pullPart_73 fgX0_18 rfl (by exact k_159 hF1) (by exact r_159_1 hF1) ?_
  refine r_getL dX0_pullPart_76 fgX0_157 rfl (by exact k_160 hF1) ?_
  refine r_lreturn dX0_pullPart_79 rfl ?_
  rw [show ldL m1 160 5 = _ from ha1]; exact k m1 o1
