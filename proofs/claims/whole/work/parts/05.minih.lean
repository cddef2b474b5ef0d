def stRow (m : MM) (a : Nat) (h : Nat → Int32) : MM := (fun b j => if b = a then h j else m.1 b j, m.2)
def stRowL (m : MM) (a : Nat) (h : Nat → Int64) : MM := (m.1, fun b j => if b = a then h j else m.2.1 b j, m.2.2)
theorem ent_stRow {g : GG} {m : MM} {a : Nat} {h : Nat → Int32} (b : Nat) (hb : b ≠ a) (r : List Nat) (q : Nat × Nat) : ent g r (stRow m a h) b q = ent g r m b q := ent_congr (fun j => if_neg hb) (fun _ => rfl) (fun _ => rfl)
def mkG (m : MM) (N K : Nat) : MM := (fun b j => if nx m ≤ b then 0 else m.1 b j, fun b j => if nx m ≤ b then 0 else m.2.1 b j, fun b j => if nx m ≤ b then (if b = nx m ∧ j < N then nx m + 1 + j else 0) else m.2.2.1 b j, shp m ++ (18, N) :: List.replicate N (13, K))
section HR
variable {g : GG} {μ : MD} {d c n pc : Nat} {ls st : List Value} {m : MM} {Q : Out → Prop}
theorem r_acopy {idx a b l1 l2 : Nat} {sp dp z : Int32} (hd : decode μ.2.1 pc = .ok (.invokestatic idx, 3)) (hl : Cond.methodLink μ.1.cls idx arraycopyName ∈ TB) (hnat : Cond.native arraycopyName ∈ TB) (hstt : Cond.static arraycopyName ∈ TB) (hini : Cond.initialized "java/lang/System" ∈ TB) (hd0 : 2 ≤ d) (h8 : (st.map fun v => v.category).sum ≤ 8)
    (ha : kdl m a = some (13, l1)) (hb : kdl m b = some (13, l2)) (h1 : ¬ sp < 0) (h2 : ¬ dp < 0) (h3 : ¬ z < 0) (h4 : sp.toNatClampNeg + z.toNatClampNeg ≤ l1) (h5 : dp.toNatClampNeg + z.toNatClampNeg ≤ l2)
    (kk : Wp g μ d c n (pc + 3) ls st (stRow m b (va_cpy (ldI m a) (ldI m b) sp.toNatClampNeg dp.toNatClampNeg z.toNatClampNeg)) Q) : Wp g μ d c n pc ls (.int z :: .int dp :: .ref b :: .int sp :: .ref a :: st) m Q := by
  intro p e R s mid args below meth cd r0 r H locs cells slots la hs
  obtain ⟨C, M, S, hr, hls, hst, hla, hc, hn⟩ := hs
  obtain ⟨i, rfl, hw, hcv, hq⟩ := M.at ha
  obtain ⟨j, rfl, hw2, hcv2, hq2⟩ := M.at hb
  have hf := C.fr
  have h9 := st8 (g := g) (r := r) h8
  simp only [List.map_cons, hcv, hcv2]
  refine va_copyi C.1 C.2.1 (by rw [C.2.2.2.1]; exact hla.1.symm) C.own (C.hts _ hl) (C.hts _ hnat) (C.hts _ hstt) (C.hts _ hini) C.kn.1 M.1 M.2.1 S i j 0 0 hw hw2 (gT_at g).1 (gT_at g).1 rfl h1 h2 h3 h4 h5 (fun _ _ => rfl) (by omega) ?_ hd (fun H1 locs1 hP1 hD1 hS1 => ?_)
  · have e9 : nativeFrameWords "java/lang/System" "arraycopy" 5 + 11 ≤ 100 := by decide +kernel
    omega
  · exact kk p e R s mid args below meth cd r0 r H1 locs1 cells slots la ⟨C, Mem.set (m := m) (q := (13, l2)) rfl hq2 M.2.2.1 (fun b hb q' => ent_stRow b hb r q') M.2.2.2 (by rw [ent_i]; simp only [ldI, stRow, if_true] at hP1 ⊢; exact hP1) (by rw [ent_i]; simp only [ldI, stRow, if_true] at hD1 ⊢; exact hD1), hS1, hr, hls, okl_tail (okl_tail (okl_tail (okl_tail (okl_tail hst)))), hla, hc, hn⟩
-- the String constant
theorem r_ldcS (hcls : μ.1.cls = RX4) (hd : decode μ.2.1 pc = .ok (.ldc 136, 2)) (kk : Wp g μ d c n (pc + 2) ls (.ref 2 :: st) m Q) : Wp g μ d c n pc ls st m Q := by
  intro p e R s mid args below meth cd r0 r H locs cells slots la hs
  obtain ⟨C, M, S, hr, hls, hst, hla, hc, hn⟩ := hs
  have hz : vk_R RX4 136 WORDS (gK g) s := C.kn.2.2.2.2.2.2.2.2.2.1
  rw [← hcls] at hz
  exact va_ldcS C.1 C.2.1 C.own hz hd (kk p e R s mid args below meth cd r0 r H locs cells slots la ⟨C, M, S, hr, hls, okl_cr (show 2 < nx m by unfold nx; omega) hst, hla, hc, hn⟩)
theorem kn_str {s : State} (hK : Kn g s) (hv : va_S (gF g) (gH g) s.heap []) : vk_S 1 [WB.length] [WB] (fun _ => gK g) (fun _ => gV g) (gF g) s s.heap := vk_S.kept hK.2.2.2.2.2.2.2.2.2.2.1 (fun a h1 h2 => hv.2.1 a h1 h2)
theorem kn_T {s : State} (hK : Kn g s) (hv : va_S (gF g) (gH g) s.heap []) : va_T .byte (gV g) WB.length (fun j => .int (WB.getD j 0)) (gF g) s s.heap := by
  have h := ((kn_str hK hv).1 0 (by decide)).2.2.2
  simp only [List.getD_cons_zero] at h
  exact h
theorem r_strval {idx : Nat} (hd : decode μ.2.1 pc = .ok (.getfield idx, 3)) (hl : Cond.fieldLink μ.1.cls idx "java/lang/String" "value" "[B" ∈ TB) (kk : Wp g μ d c n (pc + 3) ls (.ref 3 :: st) m Q) : Wp g μ d c n pc ls (.ref 2 :: st) m Q := by
  intro p e R s mid args below meth cd r0 r H locs cells slots la hs
  obtain ⟨C, M, S, hr, hls, hst, hla, hc, hn⟩ := hs
  exact vk_getf C.1 C.2.1 ((kn_str C.kn C.vs).1 0 (by decide)).2.2.1 S C.own (C.hts _ hl) (fun _ h => h) hd (kk p e R s mid args below meth cd r0 r H locs cells slots la ⟨C, M, S, hr, hls, okl_cr (show 3 < nx m by unfold nx; omega) (okl_tail hst), hla, hc, hn⟩)
theorem r_strcoder {idx : Nat} (hd : decode μ.2.1 pc = .ok (.getfield idx, 3)) (hl : Cond.fieldLink μ.1.cls idx "java/lang/String" "coder" "B" ∈ TB) (kk : Wp g μ d c n (pc + 3) ls (.int 0 :: st) m Q) : Wp g μ d c n pc ls (.ref 2 :: st) m Q := by
  intro p e R s mid args below meth cd r0 r H locs cells slots la hs
  obtain ⟨C, M, S, hr, hls, hst, hla, hc, hn⟩ := hs
  exact vk_getf C.1 C.2.1 ((kn_str C.kn C.vs).1 0 (by decide)).2.1 S C.own (C.hts _ hl) (fun _ h => h) hd (kk p e R s mid args below meth cd r0 r H locs cells slots la ⟨C, M, S, hr, hls, okl_ci (okl_tail hst), hla, hc, hn⟩)
theorem r_strlen (hd : decode μ.2.1 pc = .ok (.arraylength, 1)) (kk : Wp g μ d c n (pc + 1) ls (.int (Int32.ofNat WB.length) :: st) m Q) : Wp g μ d c n pc ls (.ref 3 :: st) m Q := by
  intro p e R s mid args below meth cd r0 r H locs cells slots la hs
  obtain ⟨C, M, S, hr, hls, hst, hla, hc, hn⟩ := hs
  exact va_tlen (v := Int32.ofNat WB.length) C.1 C.2.1 (kn_T C.kn C.vs) S (Eq.refl _) hd (kk p e R s mid args below meth cd r0 r H locs cells slots la ⟨C, M, S, hr, hls, okl_ci (okl_tail hst), hla, hc, hn⟩)
theorem r_strbyte {i : Int32} (hd : decode μ.2.1 pc = .ok (.baload, 1)) (hi : vp_in i WB.length) (kk : Wp g μ d c n (pc + 1) ls (.int (WB.getD i.toNatClampNeg 0) :: st) m Q) : Wp g μ d c n pc ls (.int i :: .ref 3 :: st) m Q := by
  intro p e R s mid args below meth cd r0 r H locs cells slots la hs
  obtain ⟨C, M, S, hr, hls, hst, hla, hc, hn⟩ := hs
  exact va_tb (v := .int (WB.getD i.toNatClampNeg 0)) C.1 C.2.1 (kn_T C.kn C.vs) S hi (Eq.refl _) hd (kk p e R s mid args below meth cd r0 r H locs cells slots la ⟨C, M, S, hr, hls, okl_ci (okl_tail (okl_tail hst)), hla, hc, hn⟩)
theorem r_gsC {idx : Nat} (hd : decode μ.2.1 pc = .ok (.getstatic idx, 3)) (hl : Cond.fieldLink μ.1.cls idx "java/lang/String" "COMPACT_STRINGS" "Z" ∈ TB) (kk : Wp g μ d c n (pc + 3) ls (.int 1 :: st) m Q) : Wp g μ d c n pc ls st m Q := by
  intro p e R s mid args below meth cd r0 r H locs cells slots la hs
  obtain ⟨C, M, S, hr, hls, hst, hla, hc, hn⟩ := hs
  have hz := va_Z.kept C.kn.2.2.2.2.2.2.2.2.2.2.2.1 (fun a h1 h2 => C.vs.2.1 a h1 h2)
  exact va_gets C.1 C.2.1 hz S C.own (C.hts _ hl) (fun _ h => h) hd (kk p e R s mid args below meth cd r0 r H locs cells slots la ⟨C, M, S, hr, hls, okl_ci hst, hla, hc, hn⟩)
theorem r_gsP {idx : Nat} (hd : decode μ.2.1 pc = .ok (.getstatic idx, 3)) (hl : Cond.fieldLink μ.1.cls idx "jdk/internal/util/Preconditions" "SIOOBE_FORMATTER" "Ljava/util/function/BiFunction;" ∈ TB) (kk : Wp g μ d c n (pc + 3) ls (.float 0 :: st) m Q) : Wp g μ d c n pc ls st m Q := by
  intro p e R s mid args below meth cd r0 r H locs cells slots la hs
  obtain ⟨C, M, S, hr, hls, hst, hla, hc, hn⟩ := hs
  have hz := va_Z.kept C.kn.2.2.2.2.2.2.2.2.2.2.2.2.2.2.2.2 (fun a h1 h2 => C.vs.2.1 a h1 h2)
  exact va_gets C.1 C.2.1 hz S C.own (C.hts _ hl) (fun _ h => h) hd (kk p e R s mid args below meth cd r0 r H locs cells slots la ⟨C, M, S, hr, hls, okl_cons (show okv (nx m) (.float 0) from trivial) hst, hla, hc, hn⟩)
theorem r_callVs {ν : MD} {d1 c1 n1 idx k : Nat} (As : List Value) (hk : As.length = k) (hd : decode μ.2.1 pc = .ok (.invokevirtual idx, 3)) (hm : MV μ.1.cls idx k ν) (hnone : μ.2.2.2.2 = none) (hcs : ν.1.cls = "java/lang/String") (hdd : d1 + 1 ≤ d) (h8 : (st.map fun v => v.category).sum ≤ 8)
    (hcl : Cl g d1 c1 n1 ν (.ref 2 :: As) m (KQ g μ d c n (pc + 3) ls st Q)) : Wp g μ d (c + c1) (n + n1) pc ls (As.reverse ++ .ref 2 :: st) m Q := by
  intro p e R s mid args below meth cd r0 r H locs cells slots la hs
  obtain ⟨C, M, S, hr, hls, hst, hla, hc, hn⟩ := id hs
  obtain ⟨h1, h2, h3, h4⟩ := hm
  have hA := okl_rev hst
  have hrecv := vk_recv (kn_str C.kn C.vs) (i := 0) (by decide) S
  refine call_end hs (okl_tail hA.2) (Q1 := KQ g μ d c n (pc + 3) ls st Q) (fun v m' h => h) (fun E m' r' q H1 locs1 ce hq hM S1 hpre h1 h2 h3 => x_out C hnone (by omega) (by omega) E m' r' q H1 locs1 ce hq hM S1 hpre h1 h2 h3) ?_
  exact vx_runV (C := ν.1.cls) (b := gK g) (As := As.map (cv g r)) (Ts := TB) (nL := μ.2.2.1) ⟨C.1, C.2.1, C.2.2.2.1, C.own, C.hts⟩ (hcl r) ⟨callB_tb C h1 h4 hdd, C.hts _ h2, C.hts _ h3⟩ ⟨pc_blind, by rw [hcs]; exact hrecv, pre_of (as := .ref 2 :: As) C M S (okl_cr (okl_head hA.2) hA.1)⟩ rfl (by rw [List.length_map]; exact hk) hla.1 (by show (As.reverse ++ .ref 2 :: st).map (cv g r) = _; rw [List.map_append, List.map_reverse]; rfl) (lv_room (st8 h8)) hd ⟨by omega, by omega⟩
-- new int[N][K]
theorem nx_mkG (m : MM) (N K : Nat) : nx (mkG m N K) = nx m + 1 + N := by simp [nx, mkG, shp]; omega
theorem wsO_mkG {r : List Nat} {N K z : Nat} {ρ : Nat → Nat} (hl : r.length = (shp m).length) (hR : ∀ a k, ldR m a k < nx m) :
    wsO g (r ++ z :: (List.range N).map ρ) (mkG m N K) = (wsO g r m ++ [(z, .inl (gA g 5, N, .inr (.inr (.inr (.inr (fun i => if i < N then some (ρ i) else none))))))]) ++ (List.range N).map (fun i => (ρ i, .inl (gA g 0, K, .inl (fun _ => 0)))) := by
  have hn : nx m = r.length + 4 := by unfold nx; rw [hl]
  have hpre : r <+: r ++ z :: (List.range N).map ρ := List.prefix_append _ _
  apply List.ext_getElem?
  intro j
  have hlen : (r ++ z :: (List.range N).map ρ).length = r.length + 1 + N := by simp; omega
  have hwl : (wsO g r m).length = r.length := by simp [wsO]
  have hshp : shp (mkG m N K) = shp m ++ (18, N) :: List.replicate N (13, K) := rfl
  by_cases h1 : j < r.length
  · rw [List.append_assoc, List.getElem?_append_left (by rw [hwl]; exact h1)]
    have hj2 : j < (shp m).length := by omega
    have hq : (shp m)[j]? = some ((shp m)[j]) := List.getElem?_eq_getElem hj2
    rw [wsO_at hl hq]
    have hs2 : (r ++ z :: (List.range N).map ρ).length = (shp (mkG m N K)).length := by rw [hlen, hshp]; simp; omega
    rw [wsO_at hs2 (q := (shp m)[j]) (by rw [hshp, List.getElem?_append_left hj2]; exact hq)]
    have hne : ¬ nx m ≤ j + 4 := by omega
    have e1 : (r ++ z :: (List.range N).map ρ).getD j 0 = r.getD j 0 := by simp only [List.getD_eq_getElem?_getD, List.getElem?_append_left h1]
    rw [e1, ent_congr (m := m) (m' := mkG m N K) (b := j + 4) (fun k => if_neg hne) (fun k => if_neg hne) (fun k => if_neg hne), ent_ext hpre (fun a k => by rw [← hn]; exact hR a k)]
  · by_cases h2 : j = r.length
    · subst h2
      have hs2 : (r ++ z :: (List.range N).map ρ).length = (shp (mkG m N K)).length := by rw [hlen, hshp]; simp; omega
      rw [wsO_at hs2 (q := (18, N)) (by rw [hshp, hl]; simp)]
      rw [List.getElem?_append_left (by simp [hwl]), List.getElem?_append_right (by rw [hwl]; omega), hwl, Nat.sub_self]
      have e1 : (r ++ z :: (List.range N).map ρ).getD r.length 0 = z := by simp
      rw [e1, ent_r (by decide)]
      have hff : (fun i => rf g (r ++ z :: (List.range N).map ρ) (ldR (mkG m N K) (r.length + 4) i)) = (fun i => if i < N then some (ρ i) else none) := ?_
      · rw [hff]; rfl
      funext i
      have e2 : ldR (mkG m N K) (r.length + 4) i = if i < N then nx m + 1 + i else 0 := by
        show (if nx m ≤ r.length + 4 then (if r.length + 4 = nx m ∧ i < N then nx m + 1 + i else 0) else m.2.2.1 (r.length + 4) i) = _
        rw [if_pos (by omega)]
        by_cases hi : i < N
        · rw [if_pos ⟨by omega, hi⟩, if_pos hi]
        · rw [if_neg (fun h => hi h.2), if_neg hi]
      rw [e2]
      by_cases hi : i < N
      · rw [if_pos hi, if_pos hi, hn]
        have e3 : r.length + 4 + 1 + i = (r.length + 1 + i) + 4 := by omega
        rw [e3]
        show some ((r ++ z :: (List.range N).map ρ).getD (r.length + 1 + i) 0) = _
        congr 1
        rw [List.getD_eq_getElem?_getD, List.getElem?_append_right (by omega), show r.length + 1 + i - r.length = i + 1 by omega, List.getElem?_cons_succ, List.getElem?_map, List.getElem?_range hi]
        rfl
      · rw [if_neg hi, if_neg hi]; rfl
    · by_cases h3 : j < r.length + 1 + N
      · obtain ⟨i, rfl⟩ : ∃ i, j = r.length + 1 + i := ⟨j - (r.length + 1), by omega⟩
        have hi : i < N := by omega
        have hs2 : (r ++ z :: (List.range N).map ρ).length = (shp (mkG m N K)).length := by rw [hlen, hshp]; simp; omega
        rw [wsO_at hs2 (q := (13, K)) (by
          rw [hshp, List.getElem?_append_right (by omega), show r.length + 1 + i - (shp m).length = i + 1 by omega, List.getElem?_cons_succ, List.getElem?_replicate, if_pos hi])]
        rw [List.getElem?_append_right (by simp [hwl] <;> omega)]
        have e0 : r.length + 1 + i - (wsO g r m ++ [(z, (Sum.inl (gA g 5, N, Sum.inr (Sum.inr (Sum.inr (Sum.inr (fun i => if i < N then some (ρ i) else none))))) : va_E))]).length = i := by simp [hwl]
        rw [e0, List.getElem?_map, List.getElem?_range hi]
        have e1 : (r ++ z :: (List.range N).map ρ).getD (r.length + 1 + i) 0 = ρ i := by
          rw [List.getD_eq_getElem?_getD, List.getElem?_append_right (by omega), show r.length + 1 + i - r.length = i + 1 by omega, List.getElem?_cons_succ, List.getElem?_map, List.getElem?_range hi]
          rfl
        rw [e1, ent_i]
        have hff : (fun k => ldI (mkG m N K) (r.length + 1 + i + 4) k) = (fun _ => 0) := funext fun k => if_pos (by omega)
        rw [hff]; rfl
      · rw [List.getElem?_eq_none (by simp only [wsO, List.length_map, List.length_range, hlen]; omega), List.getElem?_eq_none (by simp [hwl]; omega)]
theorem r_mna {idx : Nat} {v w : Int32} (N K : Nat) (hd : decode μ.2.1 pc = .ok (.multianewarray idx 2, 4)) (hl : Cond.classLink μ.1.cls idx "[[I" ∈ TB) (ht : Cond.arrayClass .int ∈ TB) (hv : ¬ v < 0) (hw : ¬ w < 0) (hN : v.toNatClampNeg = N) (hK : w.toNatClampNeg = K) (hN2 : N ≤ 10000) (hK2 : K ≤ 10000)
    (kk : Wp g μ d c n (pc + 4) ls (.ref (nx m) :: st) (mkG m N K) Q) : Wp g μ d (c + (1 + N)) (n + (N + N * K)) pc ls (.int w :: .int v :: st) m Q := by
  intro p e R s mid args below meth cd r0 r H locs cells slots la hs
  obtain ⟨C, M, S, hr, hls, hst, hla, hc, hn⟩ := id hs
  have hAO : va_AOA .int s := C.kn.2.2.2.2.2.2.2.2.2.2.2.2.2.2.2.1
  have hcy : s.vm.findClass (FieldType.array .int).toString = some (gA g 0) := (C.kn.1.2 0 _ (gT_at g).1).2
  have hX : va_P (gD g) vwCl (wsO g r m ++ va_pl [] (fun _ => .inr (0, []))) H := by rw [show va_pl [] (fun _ => (Sum.inr (0, []) : va_E)) = [] from rfl, List.append_nil]; exact M.1
  have hY : va_D (gF g) (wsO g r m ++ va_pl [] (fun _ => .inr (0, []))) := by rw [show va_pl [] (fun _ => (Sum.inr (0, []) : va_E)) = [] from rfl, List.append_nil]; exact M.2.1
  have hcb : K * componentBytes .int ≤ 536870912 := by
    have : componentBytes .int = 4 := rfl
    rw [this]; omega
  refine va_mna (X := wsO g r m) (L := []) (f := fun _ => .inr (0, [])) (z := (K, .inl (fun _ => 0))) C.1 C.2.1 C.own (C.hts _ hl) hAO (C.hts _ ht) hcy C.kn.1 hX hY S (fun q h => Nat.le_trans C.vs.1 h) hv hw hN hK (by omega) hcb (by omega) rfl rfl (by omega) (by omega) (fun cc => by simp [Jvm.Free.Multi.innerC, vp_cell, arrV, defaultValue]; apply Array.ext <;> simp) hd (fun z ρ cA H1 hinj hnin hK1 hP1 hD1 hS1 => ?_)
  have hcA : cA = gA g 5 := cA_eq (tys := []) (cl := []) (D := gD g) (fun C h => by cases h) (hK1.2 6 _ rfl).2 (C.kn.1.2 5 _ (gT_at g).2.2.2.2.2).2
  subst hcA
  have e0 : va_pl ([] ++ (List.range N).map ρ) (vr_up (fun _ => (Sum.inr (0, []) : va_E)) ((List.range N).map ρ) (.inl (gA g 0, (K, .inl (fun _ => 0))))) = (List.range N).map (fun i => (ρ i, (Sum.inl (gA g 0, K, .inl (fun _ => 0)) : va_E))) := by
    rw [List.nil_append]
    unfold va_pl
    rw [List.map_map]
    apply List.map_congr_left
    intro i hi
    show (ρ i, vr_up _ _ _ (ρ i)) = _
    rw [vr_up_in (List.mem_map.mpr ⟨i, hi, rfl⟩)]
  rw [e0] at hP1 hD1
  have hpre : r <+: r ++ z :: (List.range N).map ρ := List.prefix_append _ _
  have hlen := M.len
  have eW := wsO_mkG (g := g) (N := N) (K := K) (z := z) (ρ := ρ) M.2.2.1 M.2.2.2
  have M1 : Mem g (r ++ z :: (List.range N).map ρ) (mkG m N K) H1 := by
    refine ⟨by rw [eW]; exact hP1, by rw [eW]; exact hD1, ?_, fun a k => ?_⟩
    · show _ = (shp m ++ (18, N) :: List.replicate N (13, K)).length
      simp [M.2.2.1]
    · rw [nx_mkG]
      show (if nx m ≤ a then (if a = nx m ∧ k < N then nx m + 1 + k else 0) else m.2.2.1 a k) < _
      split
      · split
        · omega
        · omega
      · have := M.2.2.2 a k
        show ldR m a k < _
        omega
  have K := kk p e R s mid args below meth cd r0 (r ++ z :: (List.range N).map ρ) H1 locs (cells + 1 + N) (slots + N + N * K) la ⟨C, M1, hS1, hr.trans hpre, okl_mono (by rw [nx_mkG]; omega) hls, okl_cr (show nx m < nx (mkG m N K) by rw [nx_mkG]; omega) (okl_mono (by rw [nx_mkG]; omega) (okl_tail (okl_tail hst))), by rw [lvF_ext hpre ls 0 (by rw [← hlen]; exact hls)]; exact hla, by omega, by omega⟩
  have e1 : cv g (r ++ z :: (List.range N).map ρ) (.ref (nx m)) = .ref z := by rw [hlen]; simp [cv, rf, va_rf]
  rw [List.map_cons, e1, cvl_ext hpre (by rw [← hlen]; exact okl_tail (okl_tail hst))] at K
  exact K
end HR
