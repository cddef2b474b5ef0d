def fiR (m : MM) (a i : Nat) (v : Int32) : MM := stRow m a (fun j => if j < i then v else ldI m a j)
theorem L_J7_fill_53178 {g : GG} {m : MM} {Q : Out → Prop} {a z : Nat} (ha : kdl m a = some (13, z)) (hz : z < 100000) {v : Int32} (k : Q (.inl none, (fiR m a z v))) : ∀ (t i : Nat), i + t = z → Wp g mJ7_fill_53178 0 0 0 5 [.ref a, .int v, .int (nI i), .int (nI z)] [] ((fiR m a i v)) Q := by
  intro t
  induction t with
  | zero =>
    intro i hi
    have hi : i = z := by omega
    subst hi
    refine r_iload_n dJ7_fill_53178_5 rfl ?_
    refine r_iload_n dJ7_fill_53178_6 rfl ?_
    refine r_icmp_ge 20 dJ7_fill_53178_7 rfl (fun h1 => ?_) (fun h1 => ?_)
    ·
      refine r_return dJ7_fill_53178_20 rfl ?_
      exact k
    ·
      exact absurd (nI_le (Nat.le_refl _) (by omega)) h1
  | succ t ih =>
    intro i hi
    have hin : i < z := by omega
    have e4 : stI (fiR m a i v) a i v = fiR m a (i + 1) v := by
      refine mm_extI (fun x y => ?_) rfl
      simp only [fiR, ldI_stI, ldI_stRow, ldL_stL, ldL_stRowL]
      by_cases h1 : x = a
      · subst h1
        by_cases h3 : y = i
        · subst h3; simp
        · have h4 : (y < i + 1) = (y < i) := propext ⟨fun h => by omega, fun h => by omega⟩
          simp [h3, h4]
      · simp [h1]
    refine r_iload_n dJ7_fill_53178_5 rfl ?_
    refine r_iload_n dJ7_fill_53178_6 rfl ?_
    refine r_icmp_ge 20 dJ7_fill_53178_7 rfl (fun h1 => ?_) (fun h1 => ?_)
    ·
      exact absurd h1 (nI_ge hin (by omega))
    ·
      refine r_aload_n dJ7_fill_53178_10 rfl ?_
      refine r_iload_n dJ7_fill_53178_11 rfl ?_
      refine r_iload_n dJ7_fill_53178_12 rfl ?_
      refine r_iastore dJ7_fill_53178_13 ha (vin hin (by omega)) ?_
      refine ic_2 (1) dJ7_fill_53178_14 rfl rfl (Nat.le_of_ble_eq_true rfl) ?_
      refine r_goto 5 dJ7_fill_53178_17 rfl ?_
      rw [nI_1, nI_cl i (by omega), e4]
      exact ih (i + 1) (by omega)
theorem S_J7_fill_53178 {g : GG} {m : MM} {Q : Out → Prop} {a z : Nat} (ha : kdl m a = some (13, z)) (hz : z < 100000) {v : Int32} (k : Q (.inl none, fiR m a z v)) : Cl g 0 0 0 mJ7_fill_53178 [.ref a, .int v] m Q := by
  refine Cl.of rfl (by decide) (Nat.le_of_ble_eq_true rfl) ?_
  show Wp g mJ7_fill_53178 0 0 0 0 [.ref a, .int v, .retAddr 0, .retAddr 0] [] m Q
  refine r_iconst (0) dJ7_fill_53178_0 rfl ?_
  refine si_2 dJ7_fill_53178_1 rfl (Nat.le_of_ble_eq_true rfl) ?_
  refine r_aload_n dJ7_fill_53178_2 rfl ?_
  refine r_alen _ dJ7_fill_53178_3 ⟨Nat.le_of_ble_eq_true rfl, Nat.le_of_ble_eq_true rfl⟩ ha rfl ?_
  refine si_3 dJ7_fill_53178_4 rfl (Nat.le_of_ble_eq_true rfl) ?_
  exact Wp_m (m' := (fiR m a 0 v)) (mm_extI (fun x y => by simp only [fiR, ldI_stRow, ldL_stRowL]; by_cases h1 : x = a <;> simp [h1]) rfl) (L_J7_fill_53178 ha hz k z 0 (by omega))
def fiL (m : MM) (a i : Nat) (v : Int64) : MM := stRowL m a (fun j => if j < i then v else ldL m a j)
theorem L_J7_fill_d0a16 {g : GG} {m : MM} {Q : Out → Prop} {a z : Nat} (ha : kdl m a = some (14, z)) (hz : z < 100000) {v : Int64} (k : Q (.inl none, (fiL m a z v))) : ∀ (t i : Nat), i + t = z → Wp g mJ7_fill_d0a16 0 0 0 6 [.ref a, .long v, .retAddr 0, .int (nI i), .int (nI z)] [] ((fiL m a i v)) Q := by
  intro t
  induction t with
  | zero =>
    intro i hi
    have hi : i = z := by omega
    subst hi
    refine r_iload_n dJ7_fill_d0a16_6 rfl ?_
    refine r_iload dJ7_fill_d0a16_7 rfl ?_
    refine r_icmp_ge 22 dJ7_fill_d0a16_9 rfl (fun h1 => ?_) (fun h1 => ?_)
    ·
      refine r_return dJ7_fill_d0a16_22 rfl ?_
      exact k
    ·
      exact absurd (nI_le (Nat.le_refl _) (by omega)) h1
  | succ t ih =>
    intro i hi
    have hin : i < z := by omega
    have e4 : stL (fiL m a i v) a i v = fiL m a (i + 1) v := by
      refine mm_extL rfl (fun x y => ?_) rfl
      simp only [fiL, ldL_stL, ldL_stRowL]
      by_cases h1 : x = a
      · subst h1
        by_cases h3 : y = i
        · subst h3; simp
        · have h4 : (y < i + 1) = (y < i) := propext ⟨fun h => by omega, fun h => by omega⟩
          simp [h3, h4]
      · simp [h1]
    refine r_iload_n dJ7_fill_d0a16_6 rfl ?_
    refine r_iload dJ7_fill_d0a16_7 rfl ?_
    refine r_icmp_ge 22 dJ7_fill_d0a16_9 rfl (fun h1 => ?_) (fun h1 => ?_)
    ·
      exact absurd h1 (nI_ge hin (by omega))
    ·
      refine r_aload_n dJ7_fill_d0a16_12 rfl ?_
      refine r_iload_n dJ7_fill_d0a16_13 rfl ?_
      refine r_lload_n dJ7_fill_d0a16_14 rfl ?_
      refine r_lastore dJ7_fill_d0a16_15 ha (vin hin (by omega)) ?_
      refine ic_3 (1) dJ7_fill_d0a16_16 rfl rfl (Nat.le_of_ble_eq_true rfl) ?_
      refine r_goto 6 dJ7_fill_d0a16_19 rfl ?_
      rw [nI_1, nI_cl i (by omega), e4]
      exact ih (i + 1) (by omega)
theorem S_J7_fill_d0a16 {g : GG} {m : MM} {Q : Out → Prop} {a z : Nat} (ha : kdl m a = some (14, z)) (hz : z < 100000) {v : Int64} (k : Q (.inl none, fiL m a z v)) : Cl g 0 0 0 mJ7_fill_d0a16 [.ref a, .long v] m Q := by
  refine Cl.of rfl (by decide) (Nat.le_of_ble_eq_true rfl) ?_
  show Wp g mJ7_fill_d0a16 0 0 0 0 [.ref a, .long v, .retAddr 0, .retAddr 0, .retAddr 0] [] m Q
  refine r_iconst (0) dJ7_fill_d0a16_0 rfl ?_
  refine si_3 dJ7_fill_d0a16_1 (by first | rfl | assumption) (Nat.le_of_ble_eq_true rfl) ?_
  refine r_aload_n dJ7_fill_d0a16_2 rfl ?_
  refine r_alen _ dJ7_fill_d0a16_3 ⟨Nat.le_of_ble_eq_true rfl, Nat.le_of_ble_eq_true rfl⟩ ha rfl ?_
  refine si_4 dJ7_fill_d0a16_4 rfl (Nat.le_of_ble_eq_true rfl) ?_
  exact Wp_m (m' := (fiL m a 0 v)) (mm_extL rfl (fun x y => by simp only [fiL, ldI_stRow, ldL_stRowL]; by_cases h1 : x = a <;> simp [h1]) rfl) (L_J7_fill_d0a16 ha hz k z 0 (by omega))
theorem S_X1_hasStation {g : GG} {m : MM} {Q : Out → Prop} {a n : Nat} (ha : kdl m a = some (1, 0)) (hn : ldI m a 1 = nI n) (hn12 : n ≤ 12) {x : Int32} (k1 : ∀ j, x = nI j → j < n → Q (.inl (some (.int 1)), m)) (k0 : (x < 0 ∨ nI n ≤ x) → Q (.inl (some (.int 0)), m)) : Cl g 0 0 0 mX1_hasStation [.ref a, .int x] m Q := by
  refine Cl.of rfl (by decide) (Nat.le_of_ble_eq_true rfl) ?_
  show Wp g mX1_hasStation 0 0 0 0 [.ref a, .int x] [] m Q
  refine r_iload_n dX1_hasStation_0 rfl ?_
  refine r_if_lt 22 dX1_hasStation_1 rfl (fun h1 => ?_) (fun h1 => ?_)
  ·
    refine r_iconst (0) dX1_hasStation_22 rfl ?_
    refine r_ireturn dX1_hasStation_23 rfl rfl ?_
    first | exact k0 (Or.inl h1) | exact k0 (Or.inr (by rw [← hn]; exact h2)) | exact absurd h3 (fun q => h2 (by rw [hn]; exact Int32.le_trans (nI_le hn12 (by omega)) q)) | (obtain ⟨j, rfl, hj⟩ := vin_of h1 (by rw [← hn]; exact h2) (by omega); exact k1 j rfl hj)
  ·
    refine r_iload_n dX1_hasStation_4 rfl ?_
    refine r_aload_n dX1_hasStation_5 rfl ?_
    refine r_getI dX1_hasStation_6 fgX1_22 rfl (by exact ha) ?_
    refine r_icmp_ge 22 dX1_hasStation_9 rfl (fun h2 => ?_) (fun h2 => ?_)
    ·
      refine r_iconst (0) dX1_hasStation_22 rfl ?_
      refine r_ireturn dX1_hasStation_23 rfl rfl ?_
      first | exact k0 (Or.inl h1) | exact k0 (Or.inr (by rw [← hn]; exact h2)) | exact absurd h3 (fun q => h2 (by rw [hn]; exact Int32.le_trans (nI_le hn12 (by omega)) q)) | (obtain ⟨j, rfl, hj⟩ := vin_of h1 (by rw [← hn]; exact h2) (by omega); exact k1 j rfl hj)
    ·
      refine r_iload_n dX1_hasStation_12 rfl ?_
      refine r_bipush (12) dX1_hasStation_13 rfl ?_
      refine r_icmp_ge 22 dX1_hasStation_15 rfl (fun h3 => ?_) (fun h3 => ?_)
      ·
        refine r_iconst (0) dX1_hasStation_22 rfl ?_
        refine r_ireturn dX1_hasStation_23 rfl rfl ?_
        first | exact k0 (Or.inl h1) | exact k0 (Or.inr (by rw [← hn]; exact h2)) | exact absurd h3 (fun q => h2 (by rw [hn]; exact Int32.le_trans (nI_le hn12 (by omega)) q)) | (obtain ⟨j, rfl, hj⟩ := vin_of h1 (by rw [← hn]; exact h2) (by omega); exact k1 j rfl hj)
      ·
        refine r_iconst (1) dX1_hasStation_18 rfl ?_
        refine r_goto 23 dX1_hasStation_19 rfl ?_
        refine r_ireturn dX1_hasStation_23 rfl rfl ?_
        first | exact k0 (Or.inl h1) | exact k0 (Or.inr (by rw [← hn]; exact h2)) | exact absurd h3 (fun q => h2 (by rw [hn]; exact Int32.le_trans (nI_le hn12 (by omega)) q)) | (obtain ⟨j, rfl, hj⟩ := vin_of h1 (by rw [← hn]; exact h2) (by omega); exact k1 j rfl hj)
theorem S_X1_beamAt {g : GG} {m : MM} {Q : Out → Prop} {a b e n : Nat} (ha : kdl m a = some (1, 0)) (hb : ldR m a 2 = b) (hbk : kdl m b = some (13, 12)) (hd : ldR m a 3 = e) (hdk : kdl m e = some (13, 12)) (hn : ldI m a 1 = nI n) (hn12 : n ≤ 12) {x : Int32} (k1 : ∀ j, x = nI j → j < n → Q (.inl (some (.int (ldI m b j))), m)) (k0 : (x < 0 ∨ nI n ≤ x) → Q (.inl (some (.int 0)), m)) : Cl g 1 0 0 mX1_beamAt [.ref a, .int x] m Q := by
  refine Cl.of rfl (by decide) (Nat.le_of_ble_eq_true rfl) ?_
  show Wp g mX1_beamAt 1 0 0 0 [.ref a, .int x] [] m Q
  refine r_aload_n dX1_beamAt_0 rfl ?_
  refine r_iload_n dX1_beamAt_1 rfl ?_
  refine r_callV1 (ci := 1) (d1 := 0) (c1 := 0) (n1 := 0) dX1_beamAt_2 mvX1_31 rfl ⟨(Nat.le_of_ble_eq_true rfl), rfl⟩ (Nat.le_of_ble_eq_true rfl) (by exact Nat.le_of_ble_eq_true rfl) (by exact ha) ?_
  refine S_X1_hasStation (by exact ha) (by exact hn) hn12 (fun j hj hjn => ?_) (fun h9 => ?_)
  ·
    subst hj
    show Wp g mX1_beamAt _ _ _ 5 _ (_ :: _) _ Q
    refine r_if_eq 17 dX1_beamAt_5 rfl (fun hz => absurd hz (by decide)) (fun _ => ?_)
    refine r_aload_n dX1_beamAt_8 rfl ?_
    refine r_getRc dX1_beamAt_9 fgX1_9 rfl (by exact ha) (by exact hb) ?_
    refine r_iload_n dX1_beamAt_12 rfl ?_
    refine r_iaload dX1_beamAt_13 (by exact hbk) (vin (by omega) (by omega)) ?_
    refine r_goto 18 dX1_beamAt_14 rfl ?_
    refine r_ireturn dX1_beamAt_18 rfl rfl ?_
    first | exact k0 h9 | (have k9 := k1 j rfl hjn; rw [← nI_cl j (by omega)] at k9; exact k9)
  ·
    show Wp g mX1_beamAt _ _ _ 5 _ (_ :: _) _ Q
    refine r_if_eq 17 dX1_beamAt_5 rfl (fun _ => ?_) (fun hz => absurd hz (by decide))
    refine r_iconst (0) dX1_beamAt_17 rfl ?_
    refine r_ireturn dX1_beamAt_18 rfl rfl ?_
    first | exact k0 h9 | (have k9 := k1 j rfl hjn; rw [← nI_cl j (by omega)] at k9; exact k9)
theorem S_X1_draftAt {g : GG} {m : MM} {Q : Out → Prop} {a b e n : Nat} (ha : kdl m a = some (1, 0)) (hb : ldR m a 2 = b) (hbk : kdl m b = some (13, 12)) (hd : ldR m a 3 = e) (hdk : kdl m e = some (13, 12)) (hn : ldI m a 1 = nI n) (hn12 : n ≤ 12) {x : Int32} (k1 : ∀ j, x = nI j → j < n → Q (.inl (some (.int (ldI m e j))), m)) (k0 : (x < 0 ∨ nI n ≤ x) → Q (.inl (some (.int 0)), m)) : Cl g 1 0 0 mX1_draftAt [.ref a, .int x] m Q := by
  refine Cl.of rfl (by decide) (Nat.le_of_ble_eq_true rfl) ?_
  show Wp g mX1_draftAt 1 0 0 0 [.ref a, .int x] [] m Q
  refine r_aload_n dX1_draftAt_0 rfl ?_
  refine r_iload_n dX1_draftAt_1 rfl ?_
  refine r_callV1 (ci := 1) (d1 := 0) (c1 := 0) (n1 := 0) dX1_draftAt_2 mvX1_31 rfl ⟨(Nat.le_of_ble_eq_true rfl), rfl⟩ (Nat.le_of_ble_eq_true rfl) (by exact Nat.le_of_ble_eq_true rfl) (by exact ha) ?_
  refine S_X1_hasStation (by exact ha) (by exact hn) hn12 (fun j hj hjn => ?_) (fun h9 => ?_)
  ·
    subst hj
    show Wp g mX1_draftAt _ _ _ 5 _ (_ :: _) _ Q
    refine r_if_eq 17 dX1_draftAt_5 rfl (fun hz => absurd hz (by decide)) (fun _ => ?_)
    refine r_aload_n dX1_draftAt_8 rfl ?_
    refine r_getRc dX1_draftAt_9 fgX1_15 rfl (by exact ha) (by exact hd) ?_
    refine r_iload_n dX1_draftAt_12 rfl ?_
    refine r_iaload dX1_draftAt_13 (by exact hdk) (vin (by omega) (by omega)) ?_
    refine r_goto 18 dX1_draftAt_14 rfl ?_
    refine r_ireturn dX1_draftAt_18 rfl rfl ?_
    first | exact k0 h9 | (have k9 := k1 j rfl hjn; rw [← nI_cl j (by omega)] at k9; exact k9)
  ·
    show Wp g mX1_draftAt _ _ _ 5 _ (_ :: _) _ Q
    refine r_if_eq 17 dX1_draftAt_5 rfl (fun _ => ?_) (fun hz => absurd hz (by decide))
    refine r_iconst (0) dX1_draftAt_17 rfl ?_
    refine r_ireturn dX1_draftAt_18 rfl rfl ?_
    first | exact k0 h9 | (have k9 := k1 j rfl hjn; rw [← nI_cl j (by omega)] at k9; exact k9)
theorem S_X1_shape {g : GG} {m : MM} {Q : Out → Prop} {a b e n : Nat} (ha : kdl m a = some (1, 0)) (hb : ldR m a 2 = b) (hbk : kdl m b = some (13, 12)) (hd : ldR m a 3 = e) (hdk : kdl m e = some (13, 12)) (hn : ldI m a 1 = nI n) (hn12 : n ≤ 12) {x y z : Int32} (k1 : ∀ j, x = nI j → j < n → Q (.inl none, stI (stI m b j y) e j z)) (k0 : (x < 0 ∨ nI n ≤ x) → Q (.inl none, m)) : Cl g 1 0 0 mX1_shape [.ref a, .int x, .int y, .int z] m Q := by
  refine Cl.of rfl (by decide) (Nat.le_of_ble_eq_true rfl) ?_
  show Wp g mX1_shape 1 0 0 0 [.ref a, .int x, .int y, .int z] [] m Q
  refine r_aload_n dX1_shape_0 rfl ?_
  refine r_iload_n dX1_shape_1 rfl ?_
  refine r_callV1 (ci := 1) (d1 := 0) (c1 := 0) (n1 := 0) dX1_shape_2 mvX1_31 rfl ⟨(Nat.le_of_ble_eq_true rfl), rfl⟩ (Nat.le_of_ble_eq_true rfl) (by exact Nat.le_of_ble_eq_true rfl) (by exact ha) ?_
  refine S_X1_hasStation (by exact ha) (by exact hn) hn12 (fun j hj hjn => ?_) (fun h9 => ?_)
  ·
    subst hj
    show Wp g mX1_shape _ _ _ 5 _ (_ :: _) _ Q
    refine r_if_eq 22 dX1_shape_5 rfl (fun hz => absurd hz (by decide)) (fun _ => ?_)
    refine r_aload_n dX1_shape_8 rfl ?_
    refine r_getRc dX1_shape_9 fgX1_9 rfl (by exact ha) (by exact hb) ?_
    refine r_iload_n dX1_shape_12 rfl ?_
    refine r_iload_n dX1_shape_13 rfl ?_
    refine r_iastore dX1_shape_14 (by exact hbk) (vin (by omega) (by omega)) ?_
    refine r_aload_n dX1_shape_15 rfl ?_
    refine r_getRc dX1_shape_16 fgX1_15 rfl (by exact ha) (by exact hd) ?_
    refine r_iload_n dX1_shape_19 rfl ?_
    refine r_iload_n dX1_shape_20 rfl ?_
    refine r_iastore dX1_shape_21 (by exact hdk) (vin (by omega) (by omega)) ?_
    refine r_return dX1_shape_22 rfl ?_
    first | exact k0 h9 | (have k9 := k1 j rfl hjn; rw [nI_cl j (by omega)]; exact k9)
  ·
    show Wp g mX1_shape _ _ _ 5 _ (_ :: _) _ Q
    refine r_if_eq 22 dX1_shape_5 rfl (fun _ => ?_) (fun hz => absurd hz (by decide))
    refine r_return dX1_shape_22 rfl ?_
    first | exact k0 h9 | (have k9 := k1 j rfl hjn; rw [nI_cl j (by omega)]; exact k9)
theorem S_X1_lay {g : GG} {m : MM} {Q : Out → Prop} {a b e n : Nat} (ha : kdl m a = some (1, 0)) (hb : ldR m a 2 = b) (hbk : kdl m b = some (13, 12)) (hd : ldR m a 3 = e) (hdk : kdl m e = some (13, 12)) {x y : Int32} (k : Q (.inl none, fiR (fiR (stI (stI m a 0 x) a 1 y) b 12 10) e 12 5)) : Cl g 1 0 0 mX1_lay [.ref a, .int x, .int y] m Q := by
  refine Cl.of rfl (by decide) (Nat.le_of_ble_eq_true rfl) ?_
  show Wp g mX1_lay 1 0 0 0 [.ref a, .int x, .int y] [] m Q
  refine r_aload_n dX1_lay_0 rfl ?_
  refine r_iload_n dX1_lay_1 rfl ?_
  refine r_putI dX1_lay_2 (fpX1_18 _ rfl) rfl (by exact ha) ⟨rfl, rfl⟩ ?_
  refine r_aload_n dX1_lay_5 rfl ?_
  refine r_iload_n dX1_lay_6 rfl ?_
  refine r_putI dX1_lay_7 (fpX1_22 _ rfl) rfl (by exact ha) ⟨rfl, rfl⟩ ?_
  refine r_aload_n dX1_lay_10 rfl ?_
  refine r_getRc dX1_lay_11 fgX1_9 rfl (by exact ha) (by exact hb) ?_
  refine r_bipush (10) dX1_lay_14 rfl ?_
  refine r_callS2 (d1 := 0) (c1 := 0) (n1 := 0) dX1_lay_16 msX1_25 rfl (Nat.le_of_ble_eq_true rfl) (by exact Nat.le_of_ble_eq_true rfl) ?_
  refine S_J7_fill_53178 (z := 12) (by exact hbk) (by omega) ?_
  show Wp g mX1_lay _ _ _ 19 _ [] _ Q
  refine r_aload_n dX1_lay_19 rfl ?_
  refine r_getRc dX1_lay_20 fgX1_15 rfl (by exact ha) (by exact hd) ?_
  refine r_iconst (5) dX1_lay_23 rfl ?_
  refine r_callS2 (d1 := 0) (c1 := 0) (n1 := 0) dX1_lay_24 msX1_25 rfl (Nat.le_of_ble_eq_true rfl) (by exact Nat.le_of_ble_eq_true rfl) ?_
  refine S_J7_fill_53178 (z := 12) (by exact hdk) (by omega) ?_
  show Wp g mX1_lay _ _ _ 27 _ [] _ Q
  refine r_return dX1_lay_27 rfl ?_
  exact k
def rPl (m : MM) (a : Nat) (x y z w : Int32) : MM := stI (stI (stI (stI m a 0 x) a 1 y) a 2 z) a 3 w
def rDr (m : MM) (a : Nat) (x y : Int32) : MM := stI (stI m a 4 x) a 5 y
theorem S_X6_place {g : GG} {m : MM} {Q : Out → Prop} {a : Nat} (ha : kdl m a = some (6, 0)) {x y z w : Int32} (k : Q (.inl none, rPl m a x y z w)) : Cl g 0 0 0 mX6_place [.ref a, .int x, .int y, .int z, .int w] m Q := by
  refine Cl.of rfl (by decide) (Nat.le_of_ble_eq_true rfl) ?_
  show Wp g mX6_place 0 0 0 0 [.ref a, .int x, .int y, .int z, .int w] [] m Q
  refine r_aload_n dX6_place_0 rfl ?_
  refine r_iload_n dX6_place_1 rfl ?_
  refine r_putI dX6_place_2 (fpX6_21 _ rfl) rfl (by exact ha) ⟨rfl, rfl⟩ ?_
  refine r_aload_n dX6_place_5 rfl ?_
  refine r_iload_n dX6_place_6 rfl ?_
  refine r_putI dX6_place_7 (fpX6_9 _ rfl) rfl (by exact ha) ⟨rfl, rfl⟩ ?_
  refine r_aload_n dX6_place_10 rfl ?_
  refine r_iload_n dX6_place_11 rfl ?_
  refine r_putI dX6_place_12 (fpX6_15 _ rfl) rfl (by exact ha) ⟨rfl, rfl⟩ ?_
  refine r_aload_n dX6_place_15 rfl ?_
  refine r_iload dX6_place_16 rfl ?_
  refine r_putI dX6_place_18 (fpX6_18 _ rfl) rfl (by exact ha) ⟨rfl, rfl⟩ ?_
  refine r_return dX6_place_21 rfl ?_
  exact k
theorem zb_of {x : Int32} (h : x = 0 ∨ x = 1) : narrow .boolean (.int x) = .int x ∧ fits .boolean (.int x) = true := by rcases h with rfl | rfl <;> exact ⟨by decide, by decide⟩
theorem S_X6_dress {g : GG} {m : MM} {Q : Out → Prop} {a : Nat} (ha : kdl m a = some (6, 0)) {x y : Int32} (hx : x = 0 ∨ x = 1) (k : Q (.inl none, rDr m a x y)) : Cl g 0 0 0 mX6_dress [.ref a, .int x, .int y] m Q := by
  refine Cl.of rfl (by decide) (Nat.le_of_ble_eq_true rfl) ?_
  show Wp g mX6_dress 0 0 0 0 [.ref a, .int x, .int y] [] m Q
  have hzb := zb_of hx
  refine r_aload_n dX6_dress_0 rfl ?_
  refine r_iload_n dX6_dress_1 rfl ?_
  refine r_putI dX6_dress_2 (fpX6_24 _ rfl) rfl (by exact ha) hzb ?_
  refine r_aload_n dX6_dress_5 rfl ?_
  refine r_iload_n dX6_dress_6 rfl ?_
  refine r_putI dX6_dress_7 (fpX6_28 _ rfl) rfl (by exact ha) ⟨rfl, rfl⟩ ?_
  refine r_return dX6_dress_10 rfl ?_
  exact k
def rCp (m : MM) (a b : Nat) : MM := rDr (rPl m a (ldI m b 0) (ldI m b 1) (ldI m b 2) (ldI m b 3)) a (ldI (rPl m a (ldI m b 0) (ldI m b 1) (ldI m b 2) (ldI m b 3)) b 4) (ldI (rPl m a (ldI m b 0) (ldI m b 1) (ldI m b 2) (ldI m b 3)) b 5)
theorem S_X6_copyFrom {g : GG} {m : MM} {Q : Out → Prop} {a b : Nat} (ha : kdl m a = some (6, 0)) (hb : kdl m b = some (6, 0)) (hw : ldI (rPl m a (ldI m b 0) (ldI m b 1) (ldI m b 2) (ldI m b 3)) b 4 = 0 ∨ ldI (rPl m a (ldI m b 0) (ldI m b 1) (ldI m b 2) (ldI m b 3)) b 4 = 1) (k : Q (.inl none, rCp m a b)) : Cl g 1 0 0 mX6_copyFrom [.ref a, .ref b] m Q := by
  refine Cl.of rfl (by decide) (Nat.le_of_ble_eq_true rfl) ?_
  show Wp g mX6_copyFrom 1 0 0 0 [.ref a, .ref b] [] m Q
  refine r_aload_n dX6_copyFrom_0 rfl ?_
  refine r_aload_n dX6_copyFrom_1 rfl ?_
  refine r_getI dX6_copyFrom_2 fgX6_21 rfl (by exact hb) ?_
  refine r_aload_n dX6_copyFrom_5 rfl ?_
  refine r_getI dX6_copyFrom_6 fgX6_9 rfl (by exact hb) ?_
  refine r_aload_n dX6_copyFrom_9 rfl ?_
  refine r_getI dX6_copyFrom_10 fgX6_15 rfl (by exact hb) ?_
  refine r_aload_n dX6_copyFrom_13 rfl ?_
  refine r_getI dX6_copyFrom_14 fgX6_18 rfl (by exact hb) ?_
  refine r_callV4 (ci := 6) (d1 := 0) (c1 := 0) (n1 := 0) dX6_copyFrom_17 mvX6_31 rfl ⟨(Nat.le_of_ble_eq_true rfl), rfl⟩ (Nat.le_of_ble_eq_true rfl) (by exact Nat.le_of_ble_eq_true rfl) (by exact ha) ?_
  refine S_X6_place (by exact ha) ?_
  show Wp g mX6_copyFrom _ _ _ 20 _ [] _ Q
  refine r_aload_n dX6_copyFrom_20 rfl ?_
  refine r_aload_n dX6_copyFrom_21 rfl ?_
  refine r_getI dX6_copyFrom_22 fgX6_24 rfl (by exact hb) ?_
  refine r_aload_n dX6_copyFrom_25 rfl ?_
  refine r_getI dX6_copyFrom_26 fgX6_28 rfl (by exact hb) ?_
  refine r_callV2 (ci := 6) (d1 := 0) (c1 := 0) (n1 := 0) dX6_copyFrom_29 mvX6_35 rfl ⟨(Nat.le_of_ble_eq_true rfl), rfl⟩ (Nat.le_of_ble_eq_true rfl) (by exact Nat.le_of_ble_eq_true rfl) (by exact ha) ?_
  refine S_X6_dress (by exact ha) hw ?_
  show Wp g mX6_copyFrom _ _ _ 32 _ [] _ Q
  refine r_return dX6_copyFrom_32 rfl ?_
  exact k
theorem S_X7_filled {g : GG} {m : MM} {Q : Out → Prop} {a : Nat} (ha : kdl m a = some (7, 0)) (k : Q (.inl (some (.int (ldI m a 1))), m)) : Cl g 0 0 0 mX7_filled [.ref a] m Q := by
  refine Cl.of rfl (by decide) (Nat.le_of_ble_eq_true rfl) ?_
  show Wp g mX7_filled 0 0 0 0 [.ref a] [] m Q
  refine r_aload_n dX7_filled_0 rfl ?_
  refine r_getI dX7_filled_1 fgX7_15 rfl (by exact ha) ?_
  refine r_ireturn dX7_filled_4 rfl rfl ?_
  exact k
theorem S_X7_isFull {g : GG} {m : MM} {Q : Out → Prop} {a c z n : Nat} (ha : kdl m a = some (7, 0)) (hr : ldR m a 0 = c) (hc : kdl m c = some (16, z)) (hz : z < 1000) (hn : ldI m a 1 = nI n) (hnz : n ≤ z) (k1 : n = z → Q (.inl (some (.int 1)), m)) (k0 : n < z → Q (.inl (some (.int 0)), m)) : Cl g 0 0 0 mX7_isFull [.ref a] m Q := by
  refine Cl.of rfl (by decide) (Nat.le_of_ble_eq_true rfl) ?_
  show Wp g mX7_isFull 0 0 0 0 [.ref a] [] m Q
  refine r_aload_n dX7_isFull_0 rfl ?_
  refine r_getI dX7_isFull_1 fgX7_15 rfl (by exact ha) ?_
  refine r_aload_n dX7_isFull_4 rfl ?_
  refine r_getRc dX7_isFull_5 fgX7_9 rfl (by exact ha) (by exact hr) ?_
  refine r_alen _ dX7_isFull_8 ⟨Nat.le_of_ble_eq_true rfl, Nat.le_of_ble_eq_true rfl⟩ (by exact hc) rfl ?_
  refine r_icmp_lt 16 dX7_isFull_9 rfl (fun h1 => ?_) (fun h1 => ?_)
  ·
    refine r_iconst (0) dX7_isFull_16 rfl ?_
    refine r_ireturn dX7_isFull_17 rfl rfl ?_
    first | exact k1 (by rw [hn] at h1; exact Nat.le_antisymm hnz (Nat.not_lt.mp fun q => h1 (nI_lt q (by omega)))) | exact k0 (by rw [hn] at h1; exact Nat.not_le.mp fun q => nI_nlt q (by omega) h1)
  ·
    refine r_iconst (1) dX7_isFull_12 rfl ?_
    refine r_goto 17 dX7_isFull_13 rfl ?_
    refine r_ireturn dX7_isFull_17 rfl rfl ?_
    first | exact k1 (by rw [hn] at h1; exact Nat.le_antisymm hnz (Nat.not_lt.mp fun q => h1 (nI_lt q (by omega)))) | exact k0 (by rw [hn] at h1; exact Nat.not_le.mp fun q => nI_nlt q (by omega) h1)
theorem S_X7_at {g : GG} {m : MM} {Q : Out → Prop} {a c z n : Nat} (ha : kdl m a = some (7, 0)) (hr : ldR m a 0 = c) (hc : kdl m c = some (16, z)) (hz : z < 1000) (hn : ldI m a 1 = nI n) (hnz : n ≤ z) {x : Int32} (k1 : ∀ j, x = nI j → j < n → Q (.inl (some (.ref (ldR m c j))), m)) (k0 : (x < 0 ∨ nI n ≤ x) → Q (.inl (some (.ref 0)), m)) : Cl g 0 0 0 mX7_at [.ref a, .int x] m Q := by
  refine Cl.of rfl (by decide) (Nat.le_of_ble_eq_true rfl) ?_
  show Wp g mX7_at 0 0 0 0 [.ref a, .int x, .retAddr 0] [] m Q
  refine r_iload_n dX7_at_0 rfl ?_
  refine r_if_lt 25 dX7_at_1 rfl (fun h1 => ?_) (fun h1 => ?_)
  ·
    refine r_iconst (0) dX7_at_25 rfl ?_
    refine si_2 dX7_at_26 rfl (Nat.le_of_ble_eq_true rfl) ?_
    refine r_iload_n dX7_at_27 rfl ?_
    refine r_if_eq 40 dX7_at_28 rfl (fun _ => ?_) (fun hz => absurd hz (by decide))
    refine r_null dX7_at_40 ?_
    refine r_areturn dX7_at_41 rfl rfl ?_
    first | exact k0 (Or.inl h1) | exact k0 (Or.inr (by rw [← hn]; exact h2)) | exact k0 (Or.inr (Int32.le_trans (nI_le hnz (by omega)) h3)) | (have k9 := k1 j rfl hj; rw [← nI_cl j (by omega)] at k9; exact k9)
  ·
    refine r_iload_n dX7_at_4 rfl ?_
    refine r_aload_n dX7_at_5 rfl ?_
    refine r_getI dX7_at_6 fgX7_15 rfl (by exact ha) ?_
    refine r_icmp_ge 25 dX7_at_9 rfl (fun h2 => ?_) (fun h2 => ?_)
    ·
      refine r_iconst (0) dX7_at_25 rfl ?_
      refine si_2 dX7_at_26 rfl (Nat.le_of_ble_eq_true rfl) ?_
      refine r_iload_n dX7_at_27 rfl ?_
      refine r_if_eq 40 dX7_at_28 rfl (fun _ => ?_) (fun hz => absurd hz (by decide))
      refine r_null dX7_at_40 ?_
      refine r_areturn dX7_at_41 rfl rfl ?_
      first | exact k0 (Or.inl h1) | exact k0 (Or.inr (by rw [← hn]; exact h2)) | exact k0 (Or.inr (Int32.le_trans (nI_le hnz (by omega)) h3)) | (have k9 := k1 j rfl hj; rw [← nI_cl j (by omega)] at k9; exact k9)
    ·
      refine r_iload_n dX7_at_12 rfl ?_
      refine r_aload_n dX7_at_13 rfl ?_
      refine r_getRc dX7_at_14 fgX7_9 rfl (by exact ha) (by exact hr) ?_
      refine r_alen _ dX7_at_17 ⟨Nat.le_of_ble_eq_true rfl, Nat.le_of_ble_eq_true rfl⟩ (by exact hc) rfl ?_
      refine r_icmp_ge 25 dX7_at_18 rfl (fun h3 => ?_) (fun h3 => ?_)
      ·
        refine r_iconst (0) dX7_at_25 rfl ?_
        refine si_2 dX7_at_26 rfl (Nat.le_of_ble_eq_true rfl) ?_
        refine r_iload_n dX7_at_27 rfl ?_
        refine r_if_eq 40 dX7_at_28 rfl (fun _ => ?_) (fun hz => absurd hz (by decide))
        refine r_null dX7_at_40 ?_
        refine r_areturn dX7_at_41 rfl rfl ?_
        first | exact k0 (Or.inl h1) | exact k0 (Or.inr (by rw [← hn]; exact h2)) | exact k0 (Or.inr (Int32.le_trans (nI_le hnz (by omega)) h3)) | (have k9 := k1 j rfl hj; rw [← nI_cl j (by omega)] at k9; exact k9)
      ·
        obtain ⟨j, rfl, hj⟩ := vin_of h1 (by rw [← hn]; exact h2) (by omega)
        refine r_iconst (1) dX7_at_21 rfl ?_
        refine r_goto 26 dX7_at_22 rfl ?_
        refine si_2 dX7_at_26 rfl (Nat.le_of_ble_eq_true rfl) ?_
        refine r_iload_n dX7_at_27 rfl ?_
        refine r_if_eq 40 dX7_at_28 rfl (fun hz => absurd hz (by decide)) (fun _ => ?_)
        refine r_aload_n dX7_at_31 rfl ?_
        refine r_getRc dX7_at_32 fgX7_9 rfl (by exact ha) (by exact hr) ?_
        refine r_iload_n dX7_at_35 rfl ?_
        refine r_aaload dX7_at_36 ⟨Nat.le_of_ble_eq_true rfl, Nat.le_of_ble_eq_true rfl⟩ (by exact hc) (vin (Nat.lt_of_lt_of_le hj hnz) (by omega)) ?_
        refine r_goto 41 dX7_at_37 rfl ?_
        refine r_areturn dX7_at_41 rfl rfl ?_
        first | exact k0 (Or.inl h1) | exact k0 (Or.inr (by rw [← hn]; exact h2)) | exact k0 (Or.inr (Int32.le_trans (nI_le hnz (by omega)) h3)) | (have k9 := k1 j rfl hj; rw [← nI_cl j (by omega)] at k9; exact k9)
theorem S_X3_init {g : GG} {m : MM} {Q : Out → Prop} {a b : Nat} (ha : kdl m a = some (3, 0)) (ha4 : 4 ≤ a) (k : Q (.inl none, stR m a 0 b)) : Cl g 1 0 0 mX3_init [.ref a, .ref b] m Q := by
  refine Cl.of rfl (by decide) (Nat.le_of_ble_eq_true rfl) ?_
  show Wp g mX3_init 1 0 0 0 [.ref a, .ref b] [] m Q
  refine r_aload_n dX3_init_0 rfl ?_
  refine r_objinit dX3_init_1 oiX3_1 oi_i oi_c (by omega) (Nat.le_of_ble_eq_true rfl) (by exact Nat.le_of_ble_eq_true rfl) ?_
  refine r_aload_n dX3_init_4 rfl ?_
  refine r_aload_n dX3_init_5 rfl ?_
  refine r_putR dX3_init_6 (fpX3_7 _ rfl rfl) rfl (by exact ha) ?_
  refine r_return dX3_init_9 rfl ?_
  exact k
