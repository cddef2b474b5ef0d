/-! WHAT THE START OF THE RUN GIVES -/
theorem lt_1 {w : Cond} (k : Nat) (h : tables_1_1[k]? = some w) : w ∈ lw_tbl := List.mem_append_right _ (List.mem_append_left _ (List.mem_of_getElem? h))
theorem lt_2 {w : Cond} (k : Nat) (h : tables_1_2[k]? = some w) : w ∈ lw_tbl := List.mem_append_right _ (List.mem_append_right _ (List.mem_append_left _ (List.mem_of_getElem? h)))
theorem lt_3 {w : Cond} (k : Nat) (h : tables_1_3[k]? = some w) : w ∈ lw_tbl := List.mem_append_right _ (List.mem_append_right _ (List.mem_append_right _ (List.mem_append_left _ (List.mem_of_getElem? h))))
theorem lt_4 {w : Cond} (k : Nat) (h : tables_1_4[k]? = some w) : w ∈ lw_tbl := List.mem_append_right _ (List.mem_append_right _ (List.mem_append_right _ (List.mem_append_right _ (List.mem_append_left _ (List.mem_of_getElem? h)))))
theorem lt_5 {w : Cond} (k : Nat) (h : tables_1_5[k]? = some w) : w ∈ lw_tbl := List.mem_append_right _ (List.mem_append_right _ (List.mem_append_right _ (List.mem_append_right _ (List.mem_append_right _ (List.mem_append_left _ (List.mem_of_getElem? h))))))
theorem lt_6 {w : Cond} (k : Nat) (h : tables_1_6[k]? = some w) : w ∈ lw_tbl := List.mem_append_right _ (List.mem_append_right _ (List.mem_append_right _ (List.mem_append_right _ (List.mem_append_right _ (List.mem_append_right _ (List.mem_append_left _ (List.mem_of_getElem? h)))))))
theorem lt_7 {w : Cond} (k : Nat) (h : tables_1_7[k]? = some w) : w ∈ lw_tbl := List.mem_append_right _ (List.mem_append_right _ (List.mem_append_right _ (List.mem_append_right _ (List.mem_append_right _ (List.mem_append_right _ (List.mem_append_right _ (List.mem_append_left _ (List.mem_of_getElem? h))))))))
theorem lt_8 {w : Cond} (k : Nat) (h : tables_1_8[k]? = some w) : w ∈ lw_tbl := List.mem_append_right _ (List.mem_append_right _ (List.mem_append_right _ (List.mem_append_right _ (List.mem_append_right _ (List.mem_append_right _ (List.mem_append_right _ (List.mem_append_right _ (List.mem_of_getElem? h))))))))
theorem inst_all : ∀ ci, ci < 13 → Cond.instantiable (RF ci) (nF ci) ∈ TB := fun ci h => match ci, h with
  | 0, _ => inX0.1
  | 1, _ => inX1.1
  | 2, _ => inX2.1
  | 3, _ => inX3.1
  | 4, _ => inX4.1
  | 5, _ => inX5.1
  | 6, _ => inX6.1
  | 7, _ => inX7.1
  | 8, _ => inX8.1
  | 9, _ => inX9.1
  | 10, _ => inX10.1
  | 11, _ => inX11.1
  | 12, _ => inX12.1
  | ci + 13, h => absurd h (by omega)
def GN : Jvm.Cond := Jvm.Cond.and given_1 narrow_1
theorem gn_at {w : Cond} {args : Array Value} {s : State} (h : GN.before args s = true) (i : Nat) (hi : (flatC GN)[i]? = some w) : w.before args s = true := flat_of_before _ h w (List.mem_of_getElem? hi)
theorem nc_all {args : Array Value} {s : State} (h : GN.before args s = true) : ∀ C ∈ NE, ∀ T ∈ NE, C ≠ T → va_Nc C T s := by
  intro C hC T hT hne
  rcases List.mem_cons.mp hC with rfl | hC
  ·
    rcases List.mem_cons.mp hT with rfl | hT
    · exact absurd rfl hne
    rcases List.mem_cons.mp hT with rfl | hT
    · exact va_Nc.of (gn_at h 39 (by decide +kernel))
    rcases List.mem_cons.mp hT with rfl | hT
    · exact va_Nc.of (gn_at h 55 (by decide +kernel))
    rcases List.mem_cons.mp hT with rfl | hT
    · exact va_Nc.of (gn_at h 71 (by decide +kernel))
    exact absurd hT List.not_mem_nil
  rcases List.mem_cons.mp hC with rfl | hC
  ·
    rcases List.mem_cons.mp hT with rfl | hT
    · exact va_Nc.of (gn_at h 23 (by decide +kernel))
    rcases List.mem_cons.mp hT with rfl | hT
    · exact absurd rfl hne
    rcases List.mem_cons.mp hT with rfl | hT
    · exact va_Nc.of (gn_at h 56 (by decide +kernel))
    rcases List.mem_cons.mp hT with rfl | hT
    · exact va_Nc.of (gn_at h 72 (by decide +kernel))
    exact absurd hT List.not_mem_nil
  rcases List.mem_cons.mp hC with rfl | hC
  ·
    rcases List.mem_cons.mp hT with rfl | hT
    · exact va_Nc.of (gn_at h 25 (by decide +kernel))
    rcases List.mem_cons.mp hT with rfl | hT
    · exact va_Nc.of (gn_at h 41 (by decide +kernel))
    rcases List.mem_cons.mp hT with rfl | hT
    · exact absurd rfl hne
    rcases List.mem_cons.mp hT with rfl | hT
    · exact va_Nc.of (gn_at h 74 (by decide +kernel))
    exact absurd hT List.not_mem_nil
  rcases List.mem_cons.mp hC with rfl | hC
  ·
    rcases List.mem_cons.mp hT with rfl | hT
    · exact va_Nc.of (gn_at h 26 (by decide +kernel))
    rcases List.mem_cons.mp hT with rfl | hT
    · exact va_Nc.of (gn_at h 42 (by decide +kernel))
    rcases List.mem_cons.mp hT with rfl | hT
    · exact va_Nc.of (gn_at h 58 (by decide +kernel))
    rcases List.mem_cons.mp hT with rfl | hT
    · exact absurd rfl hne
    exact absurd hT List.not_mem_nil
  exact absurd hC List.not_mem_nil
theorem el_at : ∀ j, j < 123 → (flatC GN)[133 + j]? = some (Cond.eq (.elem (.field (.string RX4 136) "java/lang/String" "value" "[B") (.int (Int32.ofNat j))) (.int (WB.getD j 0))) := by decide +kernel
theorem wb_len : WB.length = 123 := by decide +kernel
theorem str_gen {args : Array Value} {s : State} {n : Nat} {B : List Int32} {t : Term} (hn : n < 2 ^ 31) (q1 : (Cond.exactly t "java/lang/String").before args s = true) (q2 : (Cond.eq (.field t "java/lang/String" "coder" "B") (.int 0)).before args s = true) (q3 : (Cond.arrayOf (.field t "java/lang/String" "value" "[B") .byte).before args s = true) (q4 : (Cond.eq (.length (.field t "java/lang/String" "value" "[B")) (.int (Int32.ofNat n))).before args s = true) (q5 : ∀ j, j < n → (Cond.eq (.elem (.field t "java/lang/String" "value" "[B") (.int (Int32.ofNat j))) (.int (B.getD j 0))).before args s = true) : ∃ aK aV : Nat, vk_S 1 [n] [B] (fun _ => aK) (fun _ => aV) (fun q : Nat => s.heap.size ≤ q) s s.heap ∧ t.eval args s none [] s = some (.ref aK) := by
  have h0 : ∀ i, i < 1 → i = 0 := fun i hi => by omega
  obtain ⟨adK, adV, h1, h2⟩ := vk_Sof (args := args) (s := s) (N := 1) (tm := fun _ => t) (len := [n]) (byt := [B]) (A := fun q : Nat => s.heap.size ≤ q)
    (fun i hi => by rw [h0 i hi]; exact hn)
    (fun i hi => q1)
    (fun i hi => q2)
    (fun i hi => q3)
    (fun i hi => by rw [h0 i hi]; exact q4)
    (fun i hi j hj => by rw [h0 i hi] at hj ⊢; exact q5 j hj)
    (fun i j hi hj hne => absurd ((h0 i hi).trans (h0 j hj).symm) hne)
    (fun a ha h2 => absurd ha (Nat.not_lt.mpr h2))
  refine ⟨adK 0, adV 0, ?_, h2 0 (by omega)⟩
  exact ⟨fun i hi => by
    obtain rfl := h0 i hi
    exact h1.1 0 hi, fun i j hi hj _ => (h0 i hi).trans (h0 j hj).symm⟩
theorem str_of {args : Array Value} {s : State} (h : GN.before args s = true) : ∃ aK aV : Nat, vk_S 1 [WB.length] [WB] (fun _ => aK) (fun _ => aV) (fun q : Nat => s.heap.size ≤ q) s s.heap ∧ (Term.string RX4 136).eval args s none [] s = some (.ref aK) := by
  refine str_gen (t := .string RX4 136) (by rw [wb_len]; decide) (gn_at h 129 (by decide +kernel)) (gn_at h 130 (by decide +kernel)) (gn_at h 131 (by decide +kernel)) (by rw [wb_len]; exact gn_at h 132 (by decide +kernel)) (fun j hj => ?_)
  rw [wb_len] at hj
  exact gn_at h (133 + j) (el_at j hj)
theorem lw_g {l : Launch} {s : State} {b L : Nat} {xs : Nat → Int32} (hst : l.stackTraces = false) (hts : ∀ w ∈ lw_tbl, w.before #[Value.ref b] s = true) (hX : va_X b L xs s s.heap) (hbl : b < s.heap.size) (hL : L ≤ 3072) (hgv : GN.before #[Value.ref b] s = true) : ∃ g : GG, gl g = l ∧ gH g = s.heap ∧ gS g = b ∧ gL g = L ∧ Kn g s := by
  have hA : ∀ a : Nat, a < s.heap.size → ¬ (fun q : Nat => s.heap.size ≤ q) a := fun a ha h2 => absurd ha (Nat.not_lt.mpr h2)
  have htb : ∀ w ∈ TB, w.before #[Value.ref b] s = true := fun w hw => hts w (List.mem_filter.mp hw).1
  have hk : ∀ ci, ∃ q : ClassId × (Nat → Nat), ci < 13 → u_Kn s (RF ci) (TFu ci) (nF ci) q.1 q.2 := fun ci => by
    by_cases h : ci < 13
    · obtain ⟨c, i, hh⟩ := u_known (n := nF ci) htb (inTB ci h) (htb _ (inst_all ci h))
      exact ⟨(c, i), fun _ => hh⟩
    · obtain ⟨c, i, hh⟩ := u_known (n := nF 0) htb (inTB 0 (by omega)) (htb _ (inst_all 0 (by omega)))
      exact ⟨(c, i), fun h2 => absurd h2 h⟩
  obtain ⟨aK, aV, hS, hE⟩ := str_of hgv
  obtain ⟨c0, k0, p0, a1, a2, a3⟩ := Cond.arrayClass_spec (hts _ (lt_1 68 rfl))
  obtain ⟨c1, k1, p1, b1, b2, b3⟩ := Cond.arrayClass_spec (hts _ (lt_2 29 rfl))
  have hO : ∀ C : String, (Cond.arrayOver (.object C)).before #[Value.ref b] s = true → ∃ c, ArrOfT s c (.object C) ∧ va_RA s c (.object C) := fun C h => by
    obtain ⟨comp, c, k, h1, h2, h3, h4, h5⟩ := Cond.arrayOver_spec h
    exact ⟨c, fun N z => ⟨(fun k h => by cases h), k, h3, comp, h4⟩, k, comp, h3, h4, h1, h5⟩
  have o1 : (Cond.arrayOver (.object RX1)).before #[Value.ref b] s = true := hts _ (lt_1 44 rfl)
  have o3 : (Cond.arrayOver (.object RX3)).before #[Value.ref b] s = true := hts _ (lt_1 228 rfl)
  have o10 : (Cond.arrayOver (.object RX10)).before #[Value.ref b] s = true := hts _ (lt_1 178 rfl)
  have oI : (Cond.arrayOver (.array .int)).before #[Value.ref b] s = true := hts _ (lt_6 126 rfl)
  obtain ⟨c2, d1, d2⟩ := hO RX1 o1
  obtain ⟨c3, e1, e2⟩ := hO RX3 o3
  obtain ⟨c4, f1, f2⟩ := hO RX10 o10
  obtain ⟨comp5, c5, k5, g1, g3, g4, g5⟩ := Cond.arrayOver_specA oI
  have hP : ∃ P : Option Nat, va_Z "jdk/internal/util/Preconditions" "SIOOBE_FORMATTER" "Ljava/util/function/BiFunction;" (va_rf P) (fun q : Nat => s.heap.size ≤ q) s s.heap := by
    rcases va_Zqof (A := fun q : Nat => s.heap.size ≤ q) (hts _ (lt_3 229 rfl)) (hts _ (lt_1 22 rfl)) (gn_at hgv 7 (by decide +kernel)) hA with h | ⟨t, h⟩
    · exact ⟨none, h⟩
    · exact ⟨some t, h⟩
  obtain ⟨P, hP⟩ := hP
  refine ⟨(l, s.heap, (fun ci => (hk ci).choose.1, fun ci => (hk ci).choose.2), (fun i => match i with | 0 => c0 | 1 => c1 | 2 => c2 | 3 => c3 | 4 => c4 | _ => c5), b, L, xs, aK, aV, P), rfl, rfl, rfl, rfl, ?_⟩
  refine ⟨⟨fun c q hq => ?_, fun k q hq => ?_⟩, hX, hbl, hL, hst, vx_Zqof (hts _ (lt_3 26 rfl)) (hts _ (lt_1 13 rfl)) (gn_at hgv 4 (by decide +kernel)) hA, vx_Zqof (hts _ (lt_3 28 rfl)) (hts _ (lt_1 13 rfl)) (gn_at hgv 5 (by decide +kernel)) hA, fun w hw => ?_, nc_all hgv, vk_R.of (hts _ (lt_3 203 rfl)) hE, hS, va_Zof (hts _ (lt_3 213 rfl)) (hts _ (lt_1 20 rfl)) (va_eqt (gn_at hgv 6 (by decide +kernel))) hA, o1, o3, o10, oI, hP⟩
  · have hc : c < 13 := (List.getElem?_eq_some_iff.mp hq).1
    have e := Option.some.inj ((cl_at c hc).symm.trans hq)
    subst e
    exact (hk c).choose_spec hc
  · match k, hq with
    | 0, hq => cases hq; exact ⟨fun N z => ⟨(fun k h => by cases h), k0, a2, p0, a3⟩, a1⟩
    | 1, hq => cases hq; exact ⟨fun N z => ⟨(fun k h => by cases h), k1, b2, p1, b3⟩, b1⟩
    | 2, hq => cases hq; exact ⟨d1, d2⟩
    | 3, hq => cases hq; exact ⟨e1, e2⟩
    | 4, hq => cases hq; exact ⟨f1, f2⟩
    | 5, hq => cases hq; exact ⟨fun N z => ⟨(fun k h => by cases h), k5, g3, comp5, g4⟩, g5⟩
    | k + 6, hq => exact absurd (List.getElem?_eq_some_iff.mp hq).1 (by show ¬ k + 6 < 6; omega)
  · have h1 := List.mem_filter.mp hw
    refine va_Nw.of ?_ (hts w h1.1)
    have h2 := h1.2
    cases w <;> first | rfl | (simp [nbk] at h2)
