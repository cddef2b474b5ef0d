/-! the middle ratio -/
theorem cnt_top {p : Nat → Bool} {c : Nat} : ∀ e, (∀ k, c ≤ k → k < e → ¬ p k = true) → cnt p e ≤ c
  | 0, _ => Nat.zero_le _
  | e + 1, h => by
    show cnt p e + (if p e then 1 else 0) ≤ c
    by_cases q : c ≤ e
    · rw [if_neg (h e q (by omega))]; exact cnt_top e (fun k a b => h k a (by omega))
    · have := cnt_le p e; split <;> omega
theorem cnt_bot {p : Nat → Bool} {c : Nat} : ∀ e, c ≤ e → (∀ k, k < c → p k = true) → c ≤ cnt p e
  | 0, h, _ => by omega
  | e + 1, h, k => by
    show c ≤ cnt p e + (if p e then 1 else 0)
    by_cases q : c ≤ e
    · have := cnt_bot e q k; omega
    · have a := cnt_bot (c := e) e (Nat.le_refl _) (fun j hj => k j (by omega))
      rw [if_pos (k e (by omega))]; omega
theorem cnt_mono {p q : Nat → Bool} (h : ∀ k, p k = true → q k = true) : ∀ e, cnt p e ≤ cnt q e
  | 0 => Nat.le_refl _
  | e + 1 => by
    have a := cnt_mono h e
    show cnt p e + (if p e then 1 else 0) ≤ cnt q e + (if q e then 1 else 0)
    by_cases c : p e = true
    · rw [if_pos c, if_pos (h e c)]; omega
    · rw [if_neg c]; omega
theorem cnt_ex {p : Nat → Bool} : ∀ e, 0 < cnt p e → ∃ k, k < e ∧ p k = true
  | 0, h => absurd h (Nat.lt_irrefl 0)
  | e + 1, h => by
    by_cases c : p e = true
    · exact ⟨e, by omega, c⟩
    · obtain ⟨k, a, b⟩ := cnt_ex e (by have z : 0 < cnt p e + (if p e then 1 else 0) := h; rw [if_neg c] at z; exact z)
      exact ⟨k, by omega, b⟩
theorem Mid_un {ρ : Nat → Int32} {e : Nat} {u v : Int32} (hu : MidV ρ e u) (hv : MidV ρ e v) : u = v := by
  have one : ∀ {a b : Nat}, MidP ρ e a → MidP ρ e b → ¬ ρ a < ρ b := fun {a b} ha hb q => by
    have z := cnt_mono (p := fun j => decide (ρ j ≤ ρ a)) (q := fun j => decide (ρ j < ρ b)) (fun k hk => decide_eq_true (Int32.lt_iff_toInt_lt.mpr (by have x := Int32.le_iff_toInt_le.mp (of_decide_eq_true hk); have y := Int32.lt_iff_toInt_lt.mp q; omega))) e
    have := ha.2; have := hb.1; omega
  rcases hu with ⟨a, ha, pa, rfl⟩ | ⟨rfl, na⟩ <;> rcases hv with ⟨b, hb, pb, rfl⟩ | ⟨rfl, nb⟩
  · exact Int32.toInt_inj.mp (by have x : ¬ (ρ a).toInt < (ρ b).toInt := fun q => one pa pb (Int32.lt_iff_toInt_lt.mpr q); have y : ¬ (ρ b).toInt < (ρ a).toInt := fun q => one pb pa (Int32.lt_iff_toInt_lt.mpr q); omega)
  · exact absurd pa (nb a ha)
  · exact absurd pb (na b hb)
  · rfl
def ins (s : Nat → Int32) (j : Nat) (r : Int32) (k : Nat) : Int32 := if k < j then s k else if k = j then r else s (k - 1)
theorem cnt_ins (p : Int32 → Bool) (s : Nat → Int32) (j : Nat) (r : Int32) : ∀ t, cnt (fun k => p (ins s j r k)) (j + t + 1) = cnt (fun k => p (s k)) (j + t) + (if p r then 1 else 0)
  | 0 => by
    show cnt (fun k => p (ins s j r k)) j + (if p (ins s j r j) then 1 else 0) = _
    rw [show ins s j r j = r from (if_neg (by omega)).trans (if_pos rfl)]
    congr 1
    exact cnt_congr (fun k hk => congrArg p (if_pos hk))
  | t + 1 => by
    have a := cnt_ins p s j r t
    show cnt (fun k => p (ins s j r k)) (j + t + 1) + (if p (ins s j r (j + t + 1)) then 1 else 0) = cnt (fun k => p (s k)) (j + t) + (if p (s (j + t)) then 1 else 0) + _
    rw [a, show ins s j r (j + t + 1) = s (j + t) from (if_neg (by omega)).trans (if_neg (by omega))]
    omega
/-- sorted, and the same values -/
def Srt (ρ s : Nat → Int32) (i : Nat) : Prop := (∀ a b, a < b → b < i → s a ≤ s b) ∧ ∀ p : Int32 → Bool, cnt (fun k => p (s k)) i = cnt (fun k => p (ρ k)) i
theorem i32_lt_le {a b : Int32} (h : a < b) : a ≤ b := Int32.le_iff_toInt_le.mpr (by have := Int32.lt_iff_toInt_lt.mp h; omega)
theorem i32_le_tr {a b c : Int32} (h : a ≤ b) (h2 : b ≤ c) : a ≤ c := Int32.le_iff_toInt_le.mpr (by have := Int32.le_iff_toInt_le.mp h; have := Int32.le_iff_toInt_le.mp h2; omega)
theorem Srt.ins {ρ s : Nat → Int32} {i j : Nat} (h : Srt ρ s i) (hj : j ≤ i) (h1 : j = 0 ∨ s (j - 1) ≤ ρ i) (h2 : ∀ k, j ≤ k → k < i → ρ i < s k) : Srt ρ (ins s j (ρ i)) (i + 1) := by
  refine ⟨fun a b hab hb => ?_, fun p => ?_⟩
  · unfold _root_.Jvm.Pilot.CTankHullsLaw_law_r5024_bb3ae3.ins
    by_cases c1 : b < j
    · rw [if_pos c1, if_pos (by omega)]; exact h.1 a b hab (by omega)
    · rw [if_neg c1]
      by_cases c2 : b = j
      · rw [if_pos c2, if_pos (by omega)]
        have z := h1.resolve_left (by omega)
        by_cases c3 : a = j - 1
        · rw [c3]; exact z
        · exact i32_le_tr (h.1 a (j - 1) (by omega) (by omega)) z
      · rw [if_neg c2]
        by_cases c3 : a < j
        · rw [if_pos c3]
          by_cases c4 : a < b - 1
          · exact h.1 a (b - 1) c4 (by omega)
          · omega
        · rw [if_neg c3]
          by_cases c4 : a = j
          · rw [if_pos c4]; exact i32_lt_le (h2 (b - 1) (by omega) (by omega))
          · rw [if_neg c4]; exact h.1 (a - 1) (b - 1) (by omega) (by omega)
  · obtain ⟨t, rfl⟩ : ∃ t, i = j + t := ⟨i - j, by omega⟩
    rw [cnt_ins p s j (ρ (j + t)) t, h.2 p]; rfl
theorem Srt.mid {ρ s : Nat → Int32} {e : Nat} (h : Srt ρ s e) (h0 : 0 < e) : MidV ρ e (s ((e - 1) / 2)) := by
  have hm : (e - 1) / 2 < e := by omega
  have z := h.2 (fun x => decide (x = s ((e - 1) / 2)))
  obtain ⟨o, ho, eo⟩ := cnt_ex (p := fun k => decide (ρ k = s ((e - 1) / 2))) e (by
    rw [← z]
    have a := cnt_mono (p := fun k => decide (k = (e - 1) / 2)) (q := fun k => decide (s k = s ((e - 1) / 2))) (fun k hk => decide_eq_true (by rw [of_decide_eq_true hk])) e
    have b : ∀ c n, c < n → 0 < cnt (fun k => decide (k = c)) n := fun c n => by
      induction n with
      | zero => intro q; omega
      | succ n ih =>
        intro q
        show 0 < cnt (fun k => decide (k = c)) n + (if decide (n = c) = true then 1 else 0)
        by_cases w : n = c
        · rw [if_pos (decide_eq_true w)]; omega
        · have := ih (by omega); omega
    have := b ((e - 1) / 2) e hm; omega)
  have eo := of_decide_eq_true eo
  refine Or.inl ⟨o, ho, ⟨?_, ?_⟩, eo.symm⟩
  · rw [eo, ← h.2 (fun x => decide (x < s ((e - 1) / 2)))]
    exact cnt_top e (fun k hk hke => by
      rw [decide_eq_true_eq]
      intro q
      by_cases w : k = (e - 1) / 2
      · rw [w] at q; exact absurd (Int32.lt_iff_toInt_lt.mp q) (by omega)
      · have := Int32.le_iff_toInt_le.mp (h.1 ((e - 1) / 2) k (by omega) hke); have := Int32.lt_iff_toInt_lt.mp q; omega)
  · rw [eo, ← h.2 (fun x => decide (x ≤ s ((e - 1) / 2)))]
    exact cnt_bot (c := (e - 1) / 2 + 1) e (by omega) (fun k hk => decide_eq_true (by
      by_cases w : k = (e - 1) / 2
      · rw [w]; exact Int32.le_iff_toInt_le.mpr (by omega)
      · exact h.1 k _ (by omega) hm))
theorem rat_wi {a w : Int32} (ha : iv 1 1000000000 a) (hw : iv 0 1000000000 w) : (wiN (1000 * w.toInt64 / a.toInt64) 0 2147483647).toInt32 = rat a w ∧ iv 0 2147483647 (rat a w) := by
  have p := mulB (x := 1000) (A := 1000) ⟨by decide, by decide⟩ (t64B hw) (by omega)
  have q := divB (y := a.toInt64) ⟨p.2.1, p.2.2⟩ (by omega) (by rw [Int32.toInt_toInt64]; exact ha.1)
  have y : (0 : Int64).toInt = 0 := rfl
  have y2 : (2147483647 : Int64).toInt = 2147483647 := rfl
  unfold wiN rat
  rw [if_neg (fun z => by have := Int64.lt_iff_toInt_lt.mp z; omega)]
  by_cases c : 2147483647 < 1000 * w.toInt64 / a.toInt64
  · rw [if_pos c, if_pos c]; exact ⟨rfl, by decide, by decide⟩
  · rw [if_neg c, if_neg c]
    have c2 : ¬ (2147483647 : Int64).toInt < (1000 * w.toInt64 / a.toInt64).toInt := fun z => c (Int64.lt_iff_toInt_lt.mpr z)
    refine ⟨rfl, ?_⟩
    unfold iv
    rw [Int64.toInt_toInt32, Int.bmod_eq_of_le (by omega) (by omega)]
    omega
theorem rtS_b {f : Nat → Int32} (hV : Vf f) {j : Nat} (hj : j < nE f) : iv 0 2147483647 (rtS f j) := (rat_wi (hV.2.2.2.2.2.1 j hj).1 (hV.2.2.2.2.2.1 j hj).2).2
theorem Mid_b {f : Nat → Int32} (hV : Vf f) {v : Int32} (h : MidV (rtS f) (nE f) v) : iv 0 2147483647 v := by
  rcases h with ⟨o, ho, -, rfl⟩ | ⟨rfl, -⟩
  · exact rtS_b hV ho
  · exact ⟨by decide, by decide⟩
theorem Mid_ex (ρ : Nat → Int32) (e : Nat) : ∃ v, MidV ρ e v := by
  by_cases c : ∃ o, o < e ∧ MidP ρ e o
  · obtain ⟨o, a, b⟩ := c; exact ⟨ρ o, Or.inl ⟨o, a, b, rfl⟩⟩
  · exact ⟨0, Or.inr ⟨rfl, fun o a b => c ⟨o, a, b⟩⟩⟩
theorem Sw.w {m m1 : MM} {k : Nat} {v : Int32} (h : Sw m m1) : Sw m (stI m1 262 k v) := ⟨h.1.w, ld_n (by omega) h.2⟩
theorem nI_dec (j : Nat) : nI (j + 1) + (-1) = nI j := by rw [← nI_1 j, Int32.add_assoc, show (1 : Int32) + -1 = 0 from by decide, Int32.add_zero]
theorem S_X12_ratioOf {g : GG} {m : MM} {Q : Out → Prop} {f : Nat → Int32} {fs : Nat → Nat → Int32} {ic : Nat} {tp : Nat → Int32} {tn : Nat} {pl : Int32} {n1 n2 : Nat} {ts : Nat → (Nat → Int32) × Nat} (hV : Vf f) (hI : RI f fs ic tp tn pl n1 n2 ts m) {j : Nat} (hj : j < nE f) (k : Q (.inl (some (.int (rtS f j))), m)) : Cl g 1 0 0 mX12_ratioOf [.ref 167, .int (nI j)] m Q := by
  refine Cl.of rfl (by decide) (Nat.le_of_ble_eq_true rfl) ?_
  show Wp g mX12_ratioOf 1 0 0 0 [.ref 167, .int (nI j)] [] m Q
  have hF := hI.1
  have he := hV.1.2.2.2.1.2
  have hE := hV.2.2.2.2.2.1 j hj
  refine r_ldc2 (1000) dX12_ratioOf_0 ctX12_303 ?_
  refine r_aload_n dX12_ratioOf_3 rfl ?_
  refine r_getRc dX12_ratioOf_4 fgX12_64 rfl (by exact k_167 hF) (by exact r_167_34 hF) ?_
  refine r_iload_n dX12_ratioOf_7 rfl ?_
  refine r_ialoadc (f (53 + j)) dX12_ratioOf_8 (by exact k_261 hF) (vin (by omega) (by omega)) (by rw [nI_cl _ (by omega)]; exact hI.2.1.at (by omega) (l_was (by omega))) ?_
  refine r_i2l dX12_ratioOf_9 ?_
  refine r_lmul dX12_ratioOf_10 ?_
  refine r_aload_n dX12_ratioOf_11 rfl ?_
  refine r_getRc dX12_ratioOf_12 fgX12_61 rfl (by exact k_167 hF) (by exact r_167_33 hF) ?_
  refine r_iload_n dX12_ratioOf_15 rfl ?_
  refine r_ialoadc (f (33 + j)) dX12_ratioOf_16 (by exact k_260 hF) (vin (by omega) (by omega)) (by rw [nI_cl _ (by omega)]; exact hI.2.1.at (by omega) (l_for (by omega))) ?_
  refine r_i2l dX12_ratioOf_17 ?_
  refine r_ldiv dX12_ratioOf_18 (fun q => by have z := congrArg Int64.toInt q; rw [Int32.toInt_toInt64] at z; have := hE.1.1; have y0 : (0 : Int64).toInt = 0 := rfl; omega) ?_
  refine r_lconst (0) dX12_ratioOf_19 rfl ?_
  refine r_ldc2 (2147483647) dX12_ratioOf_20 ctX12_305 ?_
  refine r_callS3 (d1 := 0) (c1 := 0) (n1 := 0) dX12_ratioOf_23 msX12_231 rfl (Nat.le_of_ble_eq_true rfl) (by exact Nat.le_of_ble_eq_true rfl) ?_
  refine S_X12_within ?_
  show Wp g mX12_ratioOf _ _ _ 26 _ (_ :: _) _ Q
  refine r_l2i dX12_ratioOf_26 ?_
  refine r_ireturn dX12_ratioOf_27 rfl rfl ?_
  rw [(rat_wi hE.1 hE.2).1]; exact k
theorem L_rmin {g : GG} {Q : Out → Prop} {f : Nat → Int32} {fs : Nat → Nat → Int32} {ic : Nat} {tp : Nat → Int32} {tn : Nat} {pl : Int32} {n1 n2 : Nat} {ts : Nat → (Nat → Int32) × Nat} {m0 : MM} (hI0 : RI f fs ic tp tn pl n1 n2 ts m0) {s : Nat → Int32} {i : Nat} (hi : i < 20) {r : Int32} (k : ∀ j m, j ≤ i → Sw m0 m → ((∀ k, k < j → ldI m 262 k = s k) ∧ ∀ k, j < k → k ≤ i → ldI m 262 k = s (k - 1) ∧ r < s (k - 1)) → (j = 0 ∨ s (j - 1) ≤ r) → Wp g mX12_middle 2 0 0 54 [.ref 167, .int (nI i), .int r, .int (nI j)] [] m Q) : ∀ (j : Nat) (m : MM), j ≤ i → Sw m0 m → ((∀ k, k < j → ldI m 262 k = s k) ∧ ∀ k, j < k → k ≤ i → ldI m 262 k = s (k - 1) ∧ r < s (k - 1)) → Wp g mX12_middle 2 0 0 18 [.ref 167, .int (nI i), .int r, .int (nI j)] [] m Q := by
  intro j
  induction j with
  | zero =>
    intro m hj hs hn
    have hF := hs.1.F hI0.1
    refine r_iload_n dX12_middle_18 rfl ?_
    refine r_if_le 54 dX12_middle_19 rfl (fun hle => ?_) (fun hle => ?_)
    ·
      exact k 0 m hj hs hn (Or.inl rfl)
    ·
      exact absurd (by decide) hle
  | succ j ih =>
    intro m hj hs hn
    have hF := hs.1.F hI0.1
    refine r_iload_n dX12_middle_18 rfl ?_
    refine r_if_le 54 dX12_middle_19 rfl (fun hle => ?_) (fun hle => ?_)
    ·
      exact absurd hle (i32_nle.mpr (nI_lt (a := 0) (b := j + 1) (by omega) (by omega)))
    ·
      refine r_aload_n dX12_middle_22 rfl ?_
      refine r_getRc dX12_middle_23 fgX12_67 rfl (by exact k_167 hF) (by exact r_167_35 hF) ?_
      refine r_iload_n dX12_middle_26 rfl ?_
      refine r_iconst (1) dX12_middle_27 rfl ?_
      refine r_isub dX12_middle_28 ?_
      rw [nI_p1 j]
      refine r_ialoadc (s j) dX12_middle_29 (by exact k_262 hF) (vin (by omega) (by omega)) (by rw [nI_cl _ (by omega)]; exact hn.1 j (by omega)) ?_
      refine r_iload_n dX12_middle_30 rfl ?_
      refine r_icmp_le 54 dX12_middle_31 rfl (fun hc => ?_) (fun hc => ?_)
      ·
        exact k (j + 1) m hj hs hn (Or.inr hc)
      ·
        refine r_aload_n dX12_middle_34 rfl ?_
        refine r_getRc dX12_middle_35 fgX12_67 rfl (by exact k_167 hF) (by exact r_167_35 hF) ?_
        refine r_iload_n dX12_middle_38 rfl ?_
        refine r_aload_n dX12_middle_39 rfl ?_
        refine r_getRc dX12_middle_40 fgX12_67 rfl (by exact k_167 hF) (by exact r_167_35 hF) ?_
        refine r_iload_n dX12_middle_43 rfl ?_
        refine r_iconst (1) dX12_middle_44 rfl ?_
        refine r_isub dX12_middle_45 ?_
        rw [nI_p1 j]
        refine r_ialoadc (s j) dX12_middle_46 (by exact k_262 hF) (vin (by omega) (by omega)) (by rw [nI_cl _ (by omega)]; exact hn.1 j (by omega)) ?_
        refine r_iastoren (j + 1) (nI_cl _ (by omega)) dX12_middle_47 (by exact k_262 hF) (vin (by omega) (by omega)) ?_
        have hF : Fx (stI m 262 (j + 1) (s j)) := Fx_of (m := m) rfl hF
        refine ic_3 (-1) dX12_middle_48 rfl rfl (Nat.le_of_ble_eq_true rfl) ?_
        refine r_goto 18 dX12_middle_51 rfl ?_
        rw [nI_dec j]
        refine ih _ (by omega) hs.w ⟨fun k hk => ld_n (by omega) (hn.1 k (by omega)), fun k hk hki => ?_⟩
        by_cases q : k = j + 1
        · subst q; exact ⟨ld_s, i32_nle.mp hc⟩
        · exact ⟨ld_n (by omega) (hn.2 k (by omega) hki).1, (hn.2 k (by omega) hki).2⟩
theorem L_rmid {g : GG} {Q : Out → Prop} {f : Nat → Int32} {fs : Nat → Nat → Int32} {ic : Nat} {tp : Nat → Int32} {tn : Nat} {pl : Int32} {n1 n2 : Nat} {ts : Nat → (Nat → Int32) × Nat} {m0 : MM} (hV : Vf f) (hI0 : RI f fs ic tp tn pl n1 n2 ts m0) (h0 : 0 < nE f) {v : Int32} (hv : MidV (rtS f) (nE f) v) (k : ∀ m', Sw m0 m' → Q (.inl (some (.int v)), m')) : ∀ (t i : Nat) (m : MM) (x2 x3 : Value) (s : Nat → Int32), i + t = nE f → Sw m0 m → (∀ k, k < i → ldI m 262 k = s k) → Srt (rtS f) s i → Wp g mX12_middle 2 0 0 2 [.ref 167, .int (nI i), x2, x3] [] m Q := by
  have he := hV.1.2.2.2.1.2
  have hc3 := hV.1.2.2.2.1.1
  intro t
  induction t with
  | zero =>
    intro i m x2 x3 s hi hs hn hS
    have hi : i = nE f := by omega
    subst hi
    have hF := hs.1.F hI0.1
    have hI := hI0.sc hs.1
    refine r_iload_n dX12_middle_2 rfl ?_
    refine r_aload_n dX12_middle_3 rfl ?_
    refine r_getIc (nI (nE f)) dX12_middle_4 fgX12_300 rfl (by exact k_167 hF) (by exact (hI.2.1.at (by omega) l_3).trans hc3) ?_
    refine r_icmp_ge 67 dX12_middle_7 rfl (fun hge => ?_) (fun hge => ?_)
    ·
      refine r_aload_n dX12_middle_67 rfl ?_
      refine r_getRc dX12_middle_68 fgX12_67 rfl (by exact k_167 hF) (by exact r_167_35 hF) ?_
      refine r_aload_n dX12_middle_71 rfl ?_
      refine r_getIc (nI (nE f)) dX12_middle_72 fgX12_300 rfl (by exact k_167 hF) (by exact (hI.2.1.at (by omega) l_3).trans hc3) ?_
      refine r_iconst (1) dX12_middle_75 rfl ?_
      refine r_isub dX12_middle_76 ?_
      refine r_iconst (2) dX12_middle_77 rfl ?_
      refine r_idiv dX12_middle_78 (by decide) ?_
      rw [half_nI h0 he]
      refine r_ialoadc (s ((nE f - 1) / 2)) dX12_middle_79 (by exact k_262 hF) (vin (by omega) (by omega)) (by rw [nI_cl _ (by omega)]; exact hn _ (by omega)) ?_
      refine r_ireturn dX12_middle_80 rfl rfl ?_
      rw [Mid_un (hS.mid h0) hv]; exact k m hs
    ·
      exact absurd (nI_le (Nat.le_refl _) (by omega)) hge
  | succ t ih =>
    intro i m x2 x3 s hi hs hn hS
    have hF := hs.1.F hI0.1
    have hI := hI0.sc hs.1
    refine r_iload_n dX12_middle_2 rfl ?_
    refine r_aload_n dX12_middle_3 rfl ?_
    refine r_getIc (nI (nE f)) dX12_middle_4 fgX12_300 rfl (by exact k_167 hF) (by exact (hI.2.1.at (by omega) l_3).trans hc3) ?_
    refine r_icmp_ge 67 dX12_middle_7 rfl (fun hge => ?_) (fun hge => ?_)
    ·
      exact absurd hge (nI_ge (by omega) (by omega))
    ·
      refine r_aload_n dX12_middle_10 rfl ?_
      refine r_iload_n dX12_middle_11 rfl ?_
      refine r_callV1 (ci := 12) (d1 := 1) (c1 := 0) (n1 := 0) dX12_middle_12 mvX12_307 rfl ⟨(Nat.le_of_ble_eq_true rfl), rfl⟩ (Nat.le_of_ble_eq_true rfl) (by exact Nat.le_of_ble_eq_true rfl) (by exact k_167 hF) ?_
      refine S_X12_ratioOf hV hI (by omega) ?_
      show Wp g mX12_middle _ _ _ 15 _ (_ :: _) _ Q
      refine si_2 dX12_middle_15 (by first | rfl | assumption) (Nat.le_of_ble_eq_true rfl) ?_
      refine r_iload_n dX12_middle_16 rfl ?_
      refine si_3 dX12_middle_17 (by first | rfl | assumption) (Nat.le_of_ble_eq_true rfl) ?_
      refine L_rmin hI0 (s := s) (i := i) (by omega) (r := rtS f i) (fun j m1 hj hs1 hn1 hjr => ?_) i m (Nat.le_refl _) hs ⟨hn, fun k h1 h2 => by omega⟩
      have hF := hs1.1.F hI0.1
      refine r_aload_n dX12_middle_54 rfl ?_
      refine r_getRc dX12_middle_55 fgX12_67 rfl (by exact k_167 hF) (by exact r_167_35 hF) ?_
      refine r_iload_n dX12_middle_58 rfl ?_
      refine r_iload_n dX12_middle_59 rfl ?_
      refine r_iastoren (j) (nI_cl _ (by omega)) dX12_middle_60 (by exact k_262 hF) (vin (by omega) (by omega)) ?_
      refine ic_1 (1) dX12_middle_61 rfl rfl (Nat.le_of_ble_eq_true rfl) ?_
      refine r_goto 2 dX12_middle_64 rfl ?_
      rw [nI_1 i]
      refine ih (i + 1) _ _ _ (ins s j (rtS f i)) (by omega) hs1.w (fun k hk => ?_) (hS.ins hj hjr (fun k h1 h2 => (hn1.2 (k + 1) (by omega) (by omega)).2))
      by_cases q : k = j
      · subst q; rw [show ins s k (rtS f i) k = rtS f i from (if_neg (by omega)).trans (if_pos rfl)]; exact ld_s
      · by_cases q1 : k < j
        · rw [show ins s j (rtS f i) k = s k from if_pos q1]; exact ld_n (by omega) (hn1.1 k q1)
        · rw [show ins s j (rtS f i) k = s (k - 1) from (if_neg q1).trans (if_neg q)]; exact ld_n (by omega) (hn1.2 k (by omega) (by omega)).1
theorem S_rmiddle {g : GG} {m : MM} {Q : Out → Prop} {f : Nat → Int32} {fs : Nat → Nat → Int32} {ic : Nat} {tp : Nat → Int32} {tn : Nat} {pl : Int32} {n1 n2 : Nat} {ts : Nat → (Nat → Int32) × Nat} (hV : Vf f) (hI : RI f fs ic tp tn pl n1 n2 ts m) (h0 : 0 < nE f) {v : Int32} (hv : MidV (rtS f) (nE f) v) (k : ∀ m', Sw m m' → Q (.inl (some (.int v)), m')) : Cl g 2 0 0 mX12_middle [.ref 167] m Q := by
  refine Cl.of rfl (by decide) (Nat.le_of_ble_eq_true rfl) ?_
  show Wp g mX12_middle 2 0 0 0 [.ref 167, .retAddr 0, .retAddr 0, .retAddr 0] [] m Q
  refine r_iconst (0) dX12_middle_0 rfl ?_
  refine si_1 dX12_middle_1 rfl (Nat.le_of_ble_eq_true rfl) ?_
  exact L_rmid hV hI h0 hv k (nE f) 0 m _ _ (fun _ => 0) (by omega) Sw.rf (fun k hk => absurd hk (by omega)) ⟨fun a b _ h => absurd h (by omega), fun p => rfl⟩
