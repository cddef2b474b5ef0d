def hb (h K : Nat) : Nat := if K = 0 then 73 + 24 * h else 85 + 24 * h
def sOK (f : Nat → Int32) (h : Nat) (s : Int64 × Int32 × Int32 × Int32) : Prop := ∃ K i j, K < 2 ∧ i < nS f h ∧ j < nS f h ∧ s.2.1 = nI K ∧ s.2.2.1 = nI i ∧ s.2.2.2 = nI j ∧ XF f (hb h K) i j
theorem sbF_ok {f : Nat → Int32} {h : Nat} {T : (Nat → Int64) → Nat → Int64} {vol : Int32} {n : Nat} {p0 : Int64} (hn : nS f h = n) : ∀ v, v ≤ 2 * (n * n) → (sbF f h T vol n (p0, -1, 0, 0) v).2.1 = -1 ∨ sOK f h (sbF f h T vol n (p0, -1, 0, 0) v)
  | 0, _ => Or.inl rfl
  | v + 1, hv => by
    have ih := sbF_ok (T := T) (vol := vol) (p0 := p0) hn v (by omega)
    have n0 : 0 < n := Nat.pos_of_ne_zero (fun q => by subst q; omega)
    have hK : v / (n * n) < 2 := Nat.div_lt_of_lt_mul (by rw [Nat.mul_comm]; omega)
    rw [show sbF f h T vol n (p0, -1, 0, 0) (v + 1) = sbT f h T vol (hb h (v / (n * n))) (nI (v / (n * n))) (v / n % n) (v % n) (sbF f h T vol n (p0, -1, 0, 0) v) from rfl]
    unfold sbT
    by_cases c1 : v / n % n ≠ v % n ∧ 0 < f (hb h (v / (n * n)) + v / n % n) ∧ f (hb h (v / (n * n)) + v % n) < 60
    · rw [if_pos c1]
      by_cases c2 : vol ≤ mdH (xf f (hb h (v / (n * n))) (v / n % n) (v % n)) h 1 2 ∧ PvV (xf f (hb h (v / (n * n))) (v / n % n) (v % n)) h T (hd (xf f (hb h (v / (n * n))) (v / n % n) (v % n))) < (sbF f h T vol n (p0, -1, 0, 0) v).1
      · rw [if_pos c2]
        exact Or.inr ⟨v / (n * n), v / n % n, v % n, hK, by rw [hn]; exact Nat.mod_lt _ n0, by rw [hn]; exact Nat.mod_lt _ n0, rfl, rfl, rfl, c1⟩
      · rw [if_neg c2]; exact ih
    · rw [if_neg c1]; exact ih
theorem sbG_ok {f : Nat → Int32} {T : (Nat → Int64) → Nat → Int64} (h : ¬ (sbG f T).2.1 = -1) : sOK f (hH f) (sbG f T) := (sbF_ok rfl _ (Nat.le_refl _)).resolve_left h
def exG (f : Nat → Int32) (h : Nat) (s : Int64 × Int32 × Int32 × Int32) : Nat → Int32 := xf f (hb h s.2.1.toNatClampNeg) s.2.2.1.toNatClampNeg s.2.2.2.toNatClampNeg
theorem S_mkB {g : GG} {m : MM} {Q : Out → Prop} (hF : Fx m) {f : Nat → Int32} (hV : Vf f) (hW : Wd f 5 m) {h : Nat} (hh0 : f 27 = nI h) (hh : h < nH f) {s : Int64 × Int32 × Int32 × Int32} (hB : BtR m s) (hs : ¬ s.2.1 = -1) (hO : sOK f h s) (k : ∀ m', Off 7 24 m m' → Vf (exG f h s) → Wd (exG f h s) 5 m' → Q (.inl none, m')) : Cl g 3 0 0 mX0_makeBetter [.ref 159] m Q := by
  obtain ⟨K, i, j, h2, hi, hj, s1, s2, s3, hx⟩ := hO
  obtain ⟨b1, b2, b3⟩ := hB
  obtain ⟨b4, b5⟩ := b3.resolve_left hs
  have h6 := hV.1.1.2
  have h12 := (hV.2.1 h hh).2.2.2.1
  have e : exG f h s = xf f (hb h K) i j := by unfold exG; rw [s1, s2, s3, nI_cl K (by omega), nI_cl i (by omega), nI_cl j (by omega)]
  rw [e] at k
  rcases K with _ | _ | K
  · have hx2 : XC m (8 + 3 * h) i j := by rw [XF_of0 hW hh hi hj]; exact hx
    exact S_makeBetter0 hF hV hW hh0 hh hi hj hx2 (b2.trans s1) (b4.trans s2) (b5.trans s3) (k _ ((Off.rf.stI (by omega) (by omega)).stI (by omega) (by omega)) (Vf_xf0 hV hh hi hj hx) (Wd_xf0 hV hW hh hi hj hx.1))
  · have hx2 : XC m (9 + 3 * h) i j := by rw [XF_of1 hW hh hi hj]; exact hx
    exact S_makeBetter1 hF hV hW hh0 hh hi hj hx2 (b2.trans s1) (b4.trans s2) (b5.trans s3) (k _ ((Off.rf.stI (by omega) (by omega)).stI (by omega) (by omega)) (Vf_xf1 hV hh hi hj hx) (Wd_xf1 hV hW hh hi hj hx.1))
  · omega
theorem exG_0 {f : Nat → Int32} {h : Nat} {s : Int64 × Int32 × Int32 × Int32} {z : Nat} (hz : z < 73) : exG f h s z = f z := by
  unfold exG
  have : 73 ≤ hb h s.2.1.toNatClampNeg := by unfold hb; split <;> omega
  exact xf_o (by omega) (by omega)
def lnF (T : (Nat → Int64) → Nat → Int64) : Nat → (Nat → Int32) → Nat × (Nat → Int32)
  | 0, f => (0, f)
  | t + 1, f => if (sbG f T).2.1 = -1 then (0, f) else ((lnF T t (exG f (hH f) (sbG f T))).1 + 1, (lnF T t (exG f (hH f) (sbG f T))).2)
theorem lnF_0 {T : (Nat → Int64) → Nat → Int64} {t : Nat} {f : Nat → Int32} (h : (sbG f T).2.1 = -1) : lnF T (t + 1) f = (0, f) := if_pos h
theorem lnF_1 {T : (Nat → Int64) → Nat → Int64} {t : Nat} {f : Nat → Int32} (h : ¬ (sbG f T).2.1 = -1) : lnF T (t + 1) f = ((lnF T t (exG f (hH f) (sbG f T))).1 + 1, (lnF T t (exG f (hH f) (sbG f T))).2) := if_neg h
theorem L_lines {g : GG} {Q : Out → Prop} {fs : Nat → Nat → Int32} {ic : Nat} {tp : Nat → Int32} {tn : Nat} {pl : Int32} {n1 : Nat} {T1 : Nat → (Nat → Int64) → Nat → Int64} {n2 : Nat} {T2 : Nat → (Nat → Int64) → Nat → Int64} {l : Int32} {N p : Nat} {T : (Nat → Int64) → Nat → Int64} (hN : N ≤ 20) : ∀ (t i : Nat) (f : Nat → Int32) (m : MM), CI f fs ic tp tn pl n1 T1 n2 T2 m → ¬ f 0 = 0 → Pr T p m → i + t = N → (∀ m', CI (lnF T t f).2 fs ic tp tn pl n1 T1 n2 T2 m' → NoR m m' → Q (.inl (some (.int (nI (i + (lnF T t f).1)))), m')) → Wp g mX11_lines 7 0 0 29 [.ref 4, .int l, .int (nI N), .ref p, .int (nI i), .int (nI i)] [] m Q := by
  intro t
  induction t with
  | zero =>
    intro i f m hC hne hp hi k
    obtain rfl : i = N := by omega
    refine r_iload dX11_lines_29 rfl ?_
    refine r_iload_n dX11_lines_31 rfl ?_
    refine r_icmp_ge 62 dX11_lines_32 rfl (fun hge => ?_) (fun hge => ?_)
    ·
      refine r_iload dX11_lines_62 rfl ?_
      refine r_ireturn dX11_lines_64 rfl rfl ?_
      exact k m hC NoR.rf
    ·
      exact absurd (nI_le (Nat.le_refl _) (by omega)) hge
  | succ t ih =>
    intro i f m hC hne hp hi k
    have hF := hC.1
    have hV := hC.2.1
    have hW := hC.2.2.1
    have hx := hH_of hV hne
    refine r_iload dX11_lines_29 rfl ?_
    refine r_iload_n dX11_lines_31 rfl ?_
    refine r_icmp_ge 62 dX11_lines_32 rfl (fun hge => ?_) (fun hge => ?_)
    ·
      refine r_iload dX11_lines_62 rfl ?_
      refine r_ireturn dX11_lines_64 rfl rfl ?_
      exact absurd hge (nI_ge (by omega) (by omega))
    ·
      refine r_aload_n dX11_lines_35 rfl ?_
      refine r_getRc dX11_lines_36 fgX11_51 rfl (by exact k_4 hF) (by exact r_4_6 hF) ?_
      refine r_aload_n dX11_lines_39 rfl ?_
      refine r_callV1 (ci := 0) (d1 := 5) (c1 := 0) (n1 := 0) dX11_lines_40 mvX11_244 rfl ⟨(Nat.le_of_ble_eq_true rfl), rfl⟩ (Nat.le_of_ble_eq_true rfl) (by exact Nat.le_of_ble_eq_true rfl) (by exact k_159 hF) ?_
      refine S_X0_seekBetter hF hV hW hx.1 hx.2 hp (fun m1 o1 hB hs => ?_) (fun m1 o1 hs => ?_)
      ·
        have hF1 := Fx_of o1.1 hF
        have hC1 := hC.off o1 (by omega) (by omega)
        show Wp g mX11_lines _ _ _ 43 _ (_ :: _) _ Q
        refine r_if_eq 62 dX11_lines_43 rfl (fun hz => absurd hz (by decide)) (fun _ => ?_)
        refine r_aload_n dX11_lines_46 rfl ?_
        refine r_getRc dX11_lines_47 fgX11_51 rfl (by exact k_4 hF1) (by exact r_4_6 hF1) ?_
        refine r_callV0 (ci := 0) (d1 := 3) (c1 := 0) (n1 := 0) dX11_lines_50 mvX11_254 rfl ⟨(Nat.le_of_ble_eq_true rfl), rfl⟩ (Nat.le_of_ble_eq_true rfl) (by exact Nat.le_of_ble_eq_true rfl) (by exact k_159 hF1) ?_
        refine S_mkB hF1 hV hC1.2.2.1 hx.1 hx.2 hB hs (sbG_ok hs) (fun m2 o2 hV2 hW2 => ?_)
        have hC2 := hC1.now (o2.wd (by omega) (by omega)) hV2 hW2
        show Wp g mX11_lines _ _ _ 53 _ [] _ Q
        refine ic_4 (1) dX11_lines_53 rfl rfl (Nat.le_of_ble_eq_true rfl) ?_
        refine ic_5 (1) dX11_lines_56 rfl rfl (Nat.le_of_ble_eq_true rfl) ?_
        refine r_goto 29 dX11_lines_59 rfl ?_
        rw [nI_1 i]
        rw [lnF_1 hs] at k
        exact ih (i + 1) _ m2 hC2 (by rw [exG_0 (by omega)]; exact hne) ((hp.off o1 (by omega)).off o2 (by omega)) (by omega) (fun m' hc hn => by have k9 := k m' hc (((o1.nor (by omega)).tr (o2.nor (by omega))).tr hn); rw [show i + ((lnF T t (exG f (hH f) (sbG f T))).1 + 1) = i + 1 + (lnF T t (exG f (hH f) (sbG f T))).1 from by omega] at k9; exact k9)
      ·
        have hF1 := Fx_of o1.1 hF
        have hC1 := hC.off o1 (by omega) (by omega)
        show Wp g mX11_lines _ _ _ 43 _ (_ :: _) _ Q
        refine r_if_eq 62 dX11_lines_43 rfl (fun _ => ?_) (fun hz => absurd hz (by decide))
        refine r_iload dX11_lines_62 rfl ?_
        refine r_ireturn dX11_lines_64 rfl rfl ?_
        rw [lnF_0 hs] at k; exact k m1 hC1 (o1.nor (by omega))
theorem S_X11_lines {g : GG} {m : MM} {Q : Out → Prop} {f : Nat → Int32} {fs : Nat → Nat → Int32} {ic : Nat} {tp : Nat → Int32} {tn : Nat} {pl : Int32} {n1 : Nat} {T1 : Nat → (Nat → Int64) → Nat → Int64} {n2 : Nat} {T2 : Nat → (Nat → Int64) → Nat → Int64} (hC : CI f fs ic tp tn pl n1 T1 n2 T2 m) {l x : Int32} (ke : f 0 = 0 → Q (.inr EISE, m)) (kl : ¬ f 0 = 0 → (l < 0 ∨ nI n1 ≤ l) → Q (.inr EIOB, m)) (kb : ¬ f 0 = 0 → ∀ j155, l = nI j155 → j155 < n1 → ¬ (0 ≤ x ∧ x ≤ 20) → Q (.inr EIAE, m)) (k : ¬ f 0 = 0 → ∀ j155, l = nI j155 → j155 < n1 → ∀ N, N ≤ 20 → x = nI N → ∀ m', CI (lnF (T1 j155) N f).2 fs ic tp tn pl n1 T1 n2 T2 m' → NoR m m' → Q (.inl (some (.int (nI (lnF (T1 j155) N f).1))), m')) : Cl g 7 3 18 mX11_lines [.ref 4, .int l, .int x] m Q := by
  refine Cl.of rfl (by decide) (Nat.le_of_ble_eq_true rfl) ?_
  show Wp g mX11_lines 7 3 18 0 [.ref 4, .int l, .int x, .retAddr 0, .retAddr 0, .retAddr 0] [] m Q
  have hF := hC.1
  have hV := hC.2.1
  have hW := hC.2.2.1
  have hS155 := hC.2.2.2.2.2.2.1
  have hS157 := hC.2.2.2.2.2.2.2
  refine r_aload_n dX11_lines_0 rfl ?_
  refine r_callV0 (ci := 11) (d1 := 6) (c1 := 1) (n1 := 6) dX11_lines_1 mvX11_151 rfl ⟨(Nat.le_of_ble_eq_true rfl), rfl⟩ (Nat.le_of_ble_eq_true rfl) (by exact Nat.le_of_ble_eq_true rfl) (by exact k_4 hF) ?_
  refine S_X11_demandAnyHull hF hV hW (fun a1 => ?_) (fun a0 => ?_)
  ·
    show Wp g mX11_lines _ _ _ 4 _ [] _ Q
    refine r_aload_n dX11_lines_4 rfl ?_
    refine r_getRc dX11_lines_5 fgX11_39 rfl (by exact k_4 hF) (by exact r_4_4 hF) ?_
    refine r_iload_n dX11_lines_8 rfl ?_
    refine r_callS2 (d1 := 6) (c1 := 1) (n1 := 6) dX11_lines_9 msX11_157 rfl (Nat.le_of_ble_eq_true rfl) (by exact Nat.le_of_ble_eq_true rfl) ?_
    refine S_demP155 hF hS155 (fun j155 hj155 hjn155 hp155 => ?_) (fun p155 => ?_)
    ·
      subst hj155
      show Wp g mX11_lines _ _ _ 12 _ (_ :: _) _ Q
      refine sa_3 dX11_lines_12 rfl (Nat.le_of_ble_eq_true rfl) ?_
      refine r_iload_n dX11_lines_13 rfl ?_
      refine r_iconst (0) dX11_lines_14 rfl ?_
      refine r_bipush (20) dX11_lines_15 rfl ?_
      refine r_callS3 (d1 := 0) (c1 := 0) (n1 := 0) dX11_lines_17 msX11_59 rfl (Nat.le_of_ble_eq_true rfl) (by exact Nat.le_of_ble_eq_true rfl) ?_
      refine S_X11_isWithin (fun w17a w17b => ?_) (fun w17 => ?_)
      ·
        show Wp g mX11_lines _ _ _ 20 _ (_ :: _) _ Q
        refine r_callS1 (d1 := 6) (c1 := 1) (n1 := 6) dX11_lines_20 msX11_63 rfl (Nat.le_of_ble_eq_true rfl) (by exact Nat.le_of_ble_eq_true rfl) ?_
        refine S_demand1 ?_
        show Wp g mX11_lines _ _ _ 23 _ [] _ Q
        refine r_iconst (0) dX11_lines_23 rfl ?_
        refine si_4 dX11_lines_24 rfl (Nat.le_of_ble_eq_true rfl) ?_
        refine r_iconst (0) dX11_lines_26 rfl ?_
        refine si_5 dX11_lines_27 rfl (Nat.le_of_ble_eq_true rfl) ?_
        obtain ⟨N, hN, rfl⟩ := i32_small 20 (by omega) w17a w17b
        exact L_lines hN N 0 f m hC a1 hp155 (by omega) (fun m' hc hn => by have k9 := k a1 j155 rfl hjn155 N hN rfl m' hc hn; rw [Nat.zero_add]; exact k9)
      ·
        show Wp g mX11_lines _ _ _ 20 _ (_ :: _) _ Q
        refine r_callS1 (d1 := 6) (c1 := 1) (n1 := 6) dX11_lines_20 msX11_63 rfl (Nat.le_of_ble_eq_true rfl) (by exact Nat.le_of_ble_eq_true rfl) ?_
        refine S_demand0 ?_
        exact kb a1 j155 rfl hjn155 w17
    ·
      exact kl a1 p155
  ·
    exact ke a0
