theorem tbnb (L : List Cond) (h1 : ∀ w ∈ L, w ∈ lw_tbl) (h2 : L.all (fun w => goodWord w || nbk w) = true) : ∀ w ∈ L, w ∈ TB ∨ w ∈ NB := fun w hw => by
  have h3 := List.all_eq_true.mp h2 w hw
  rcases Bool.or_eq_true_iff.mp h3 with h | h
  · exact Or.inl (tb_in (h1 w hw) h)
  · exact Or.inr (List.mem_filter.mpr ⟨h1 w hw, h⟩)
def nmE : List String := ["java/lang/RuntimeException", "java/lang/Exception"]
section TH
variable {g : GG} {μ : MD} {d c n pc : Nat} {ls st : List Value} {m : MM} {Q : Out → Prop}
def EIAE : String := "java/lang/IllegalArgumentException"
theorem at_IAE : ∀ w ∈ vx_at0 RX11 298 "java/lang/IllegalArgumentException" nmE, w ∈ TB ∨ w ∈ NB := tbnb _ (by decide +kernel) (by decide +kernel)
theorem ot_IAE : ∀ w ∈ Cond.classLink RX11 296 "java/lang/IllegalArgumentException" :: Cond.initialized "java/lang/IllegalArgumentException" :: vx_at0 RX11 298 "java/lang/IllegalArgumentException" nmE, vx_ot w = true := by decide +kernel
theorem th_IAE (hc : μ.1.cls = RX11) (hnone : μ.2.2.2.2 = none) (d0 : decode μ.2.1 pc = .ok (.new 296, 3)) (d3 : decode μ.2.1 (pc + 3) = .ok (.dup, 1)) (d4 : decode μ.2.1 (pc + 4) = .ok (.invokespecial 298, 3)) (d7 : decode μ.2.1 (pc + 7) = .ok (.athrow, 1)) (hd : 6 ≤ d) (h8 : (st.map fun v => v.category).sum ≤ 8) (k : Q (.inr EIAE, m)) : Wp g μ d (c + 1) (n + 6) pc ls st m Q := r_throw (E := "java/lang/IllegalArgumentException") (names := nmE) hnone d0 d3 d4 d7 (by decide +kernel) (by decide +kernel) (by rw [hc]; exact clX11_296) (tb_1 16 rfl rfl) (by rw [hc]; exact at_IAE) (by rw [hc]; exact ot_IAE) hd h8 k
def ENSE : String := "java/util/NoSuchElementException"
theorem at_NSE : ∀ w ∈ vx_at0 RX11 201 "java/util/NoSuchElementException" nmE, w ∈ TB ∨ w ∈ NB := tbnb _ (by decide +kernel) (by decide +kernel)
theorem ot_NSE : ∀ w ∈ Cond.classLink RX11 199 "java/util/NoSuchElementException" :: Cond.initialized "java/util/NoSuchElementException" :: vx_at0 RX11 201 "java/util/NoSuchElementException" nmE, vx_ot w = true := by decide +kernel
theorem th_NSE (hc : μ.1.cls = RX11) (hnone : μ.2.2.2.2 = none) (d0 : decode μ.2.1 pc = .ok (.new 199, 3)) (d3 : decode μ.2.1 (pc + 3) = .ok (.dup, 1)) (d4 : decode μ.2.1 (pc + 4) = .ok (.invokespecial 201, 3)) (d7 : decode μ.2.1 (pc + 7) = .ok (.athrow, 1)) (hd : 6 ≤ d) (h8 : (st.map fun v => v.category).sum ≤ 8) (k : Q (.inr ENSE, m)) : Wp g μ d (c + 1) (n + 6) pc ls st m Q := r_throw (E := "java/util/NoSuchElementException") (names := nmE) hnone d0 d3 d4 d7 (by decide +kernel) (by decide +kernel) (by rw [hc]; exact clX11_199) (tb_1 18 rfl rfl) (by rw [hc]; exact at_NSE) (by rw [hc]; exact ot_NSE) hd h8 k
def EISE : String := "java/lang/IllegalStateException"
theorem at_ISE : ∀ w ∈ vx_at0 RX11 301 "java/lang/IllegalStateException" nmE, w ∈ TB ∨ w ∈ NB := tbnb _ (by decide +kernel) (by decide +kernel)
theorem ot_ISE : ∀ w ∈ Cond.classLink RX11 299 "java/lang/IllegalStateException" :: Cond.initialized "java/lang/IllegalStateException" :: vx_at0 RX11 301 "java/lang/IllegalStateException" nmE, vx_ot w = true := by decide +kernel
theorem th_ISE (hc : μ.1.cls = RX11) (hnone : μ.2.2.2.2 = none) (d0 : decode μ.2.1 pc = .ok (.new 299, 3)) (d3 : decode μ.2.1 (pc + 3) = .ok (.dup, 1)) (d4 : decode μ.2.1 (pc + 4) = .ok (.invokespecial 301, 3)) (d7 : decode μ.2.1 (pc + 7) = .ok (.athrow, 1)) (hd : 6 ≤ d) (h8 : (st.map fun v => v.category).sum ≤ 8) (k : Q (.inr EISE, m)) : Wp g μ d (c + 1) (n + 6) pc ls st m Q := r_throw (E := "java/lang/IllegalStateException") (names := nmE) hnone d0 d3 d4 d7 (by decide +kernel) (by decide +kernel) (by rw [hc]; exact clX11_299) (tb_1 27 rfl rfl) (by rw [hc]; exact at_ISE) (by rw [hc]; exact ot_ISE) hd h8 k
def EIOB : String := "java/lang/IndexOutOfBoundsException"
theorem at_IOB : ∀ w ∈ vx_at0 RX11 307 "java/lang/IndexOutOfBoundsException" nmE, w ∈ TB ∨ w ∈ NB := tbnb _ (by decide +kernel) (by decide +kernel)
theorem ot_IOB : ∀ w ∈ Cond.classLink RX11 305 "java/lang/IndexOutOfBoundsException" :: Cond.initialized "java/lang/IndexOutOfBoundsException" :: vx_at0 RX11 307 "java/lang/IndexOutOfBoundsException" nmE, vx_ot w = true := by decide +kernel
theorem th_IOB (hc : μ.1.cls = RX11) (hnone : μ.2.2.2.2 = none) (d0 : decode μ.2.1 pc = .ok (.new 305, 3)) (d3 : decode μ.2.1 (pc + 3) = .ok (.dup, 1)) (d4 : decode μ.2.1 (pc + 4) = .ok (.invokespecial 307, 3)) (d7 : decode μ.2.1 (pc + 7) = .ok (.athrow, 1)) (hd : 6 ≤ d) (h8 : (st.map fun v => v.category).sum ≤ 8) (k : Q (.inr EIOB, m)) : Wp g μ d (c + 1) (n + 6) pc ls st m Q := r_throw (E := "java/lang/IndexOutOfBoundsException") (names := nmE) hnone d0 d3 d4 d7 (by decide +kernel) (by decide +kernel) (by rw [hc]; exact clX11_305) (tb_1 26 rfl rfl) (by rw [hc]; exact at_IOB) (by rw [hc]; exact ot_IOB) hd h8 k
theorem r_getRc {idx ci k a l b : Nat} (hd : decode μ.2.1 pc = .ok (.getfield idx, 3)) (hf : FL μ.1.cls idx ci k) (hty : isR (tF ci k) = true) (ha : kdl m a = some (ci, l)) (hv : ldR m a k = b) (kk : Wp g μ d c n (pc + 3) ls (.ref b :: st) m Q) : Wp g μ d c n pc ls (.ref a :: st) m Q := by
  subst hv; exact r_getR hd hf hty ha kk
/-- a handler row of a method's table: it takes E at this place, and answers v -/
def HO (μ : MD) (pc : Nat) (E : String) (v : Int32) : Prop := ∃ (pre : List ExceptionTableEntry) (x : ExceptionTableEntry) (suf : List ExceptionTableEntry), tableOf (μ.2.2.2.2.getD []) = pre ++ x :: suf ∧ covers x pc = true ∧ x.catchType ≠ 0 ∧ Cond.classLink μ.1.cls x.catchType E ∈ TB ∧ Cond.castable E E ∈ NB ∧
  (∀ z ∈ pre, z.catchType ≠ 0 ∧ ∃ nm ∈ NE, Cond.classLink μ.1.cls z.catchType nm ∈ TB ∧ E ∈ NE ∧ E ≠ nm) ∧
  ∃ i z, ((decode μ.2.1 x.handlerPc = .ok (.astore i, 2) ∧ i < μ.2.2.1 ∧ decode μ.2.1 (x.handlerPc + 2) = .ok (.iconst z, 1) ∧ decode μ.2.1 (x.handlerPc + 3) = .ok (.ireturn, 1)) ∨ (∃ j : Fin 4, (j : Nat) = i ∧ decode μ.2.1 x.handlerPc = .ok (.astore_n j, 1) ∧ i < μ.2.2.1 ∧ decode μ.2.1 (x.handlerPc + 1) = .ok (.iconst z, 1) ∧ decode μ.2.1 (x.handlerPc + 2) = .ok (.ireturn, 1))) ∧ Int32.ofInt z = v
theorem x_catch {p : Program} {e : Env} {R : Room} {s : State} {mid : MethodId} {args : Array Value} {below : List Frame} {meth : Method} {cd : Code} {r0 r : List Nat} {cells slots : Nat} {la : Array Slot} {lv : List (Nat × Value)} (C : Ctx g μ d p e R s mid args meth cd) (hret : μ.2.2.2.1 = some .int) (hla : lv_has la μ.2.2.1 lv) (hc : cells ≤ R.cells) (hn : slots ≤ R.slots) {v : Int32}
    (E : String) (hh : HO μ pc E v) (m' : MM) (r' : List Nat) (q : Addr) (H1 : Heap) (locs1 : List Loc) (ce : Cell) (hq : Q (.inl (some (.int v)), m')) (hM : Mem g r' m' H1) (S1 : va_S (gF g) s.heap H1 locs1) (hpre : r0 <+: r') (hce : H1[q]? = some ce) (hcv : ce.vm = .none) (hcl : s.vm.findClass E = some ce.cls) :
    vx_W p (gl g) e R s mid args below meth cd H1 locs1 cells slots (vx_MQ below (QcO g r0 Q) (XcO g r0 Q) args s R.cells R.slots (gF g)) (F0 mid pc la (st.map (cv g r))) q := by
  obtain ⟨pre, x, suf, htab, hcov, hct, hlink, hcast, hpass, i, z, hdec, hz⟩ := hh
  subst hz
  refine vx_catch C.own pre x suf (by rw [C.table]; exact htab) (fun y hy => ?_) hcov hct (C.hts _ hlink) (C.nb hcast) hce hcv hcl ?_
  · obtain ⟨h1, nm, hnm, h2, h3, h4⟩ := hpass y hy
    exact Or.inr ⟨h1, nm, C.hts _ h2, C.kn.2.2.2.2.2.2.2.2.1 E h3 nm hnm h4⟩
  · have fin : ∀ (pc1 : Nat) (la1 : Array Slot), decode μ.2.1 pc1 = .ok (.iconst z, 1) → decode μ.2.1 (pc1 + 1) = .ok (.ireturn, 1) → W p (gl g) e R s mid args below meth cd H1 locs1 cells slots (vx_MQ below (QcO g r0 Q) (XcO g r0 Q) args s R.cells R.slots (gF g)) (F0 mid pc1 la1 []) := by
      intro pc1 la1 d1 d2
      refine lv_iconst C.1 C.2.1 d1 rfl ?_
      refine vx_ret (W.widen (k := R.cells) (n := R.slots) hc hn ?_)
      exact W.iret C.1 C.2.1 (C.2.2.1.trans hret) (fun t ht hW => ⟨r', some (.int (Int32.ofInt z)), m', rfl, hq, by rw [ht]; exact hM, by rw [ht]; exact vsG C.vs S1, hpre, okl_ci okl_nil, by rw [ht]; exact S1.1⟩) S1.2.2 d2 C.locks
    rcases hdec with ⟨h1, h2, h3, h4⟩ | ⟨j, hj, h1, h2, h3, h4⟩
    · exact lv_astore C.1 C.2.1 h1 hla h2 rfl (fun la1 _ => fin _ _ h3 h4)
    · exact lv_astore_n C.1 C.2.1 h1 hj hla h2 rfl (fun la1 _ => fin _ _ h3 h4)
/-- a call inside a try -/
def KH (g : GG) (μ : MD) (d c n pc pc0 : Nat) (ls st : List Value) (Q : Out → Prop) : Out → Prop := fun o => match o.1 with
  | .inl v => Wp g μ d c n pc ls (v.toList ++ st) o.2 Q
  | .inr E => ∃ v, HO μ pc0 E v ∧ Q (.inl (some (.int v)), o.2)
theorem r_callVH {ν : MD} {d1 c1 n1 idx k a ci l : Nat} (As : List Value) (hk : As.length = k) (hd : decode μ.2.1 pc = .ok (.invokevirtual idx, 3)) (hm : MV μ.1.cls idx k ν) (hret : μ.2.2.2.1 = some .int) (ha : kdl m a = some (ci, l)) (hci : ci < 13 ∧ RF ci = ν.1.cls) (hdd : d1 + 1 ≤ d) (h8 : (st.map fun v => v.category).sum ≤ 8)
    (hcl : Cl g d1 c1 n1 ν (.ref a :: As) m (KH g μ d c n (pc + 3) pc ls st Q)) : Wp g μ d (c + c1) (n + n1) pc ls (As.reverse ++ .ref a :: st) m Q := by
  intro p e R s mid args below meth cd r0 r H locs cells slots la hs
  obtain ⟨C, M, S, hr, hls, hst, hla, hc, hn⟩ := id hs
  obtain ⟨h1, h2, h3, h4⟩ := hm
  obtain ⟨i, rfl, hw, hcv, hq⟩ := M.at ha
  have hA := okl_rev hst
  rw [ent_o hci.1] at hw
  have hrecv := va_recv C.kn.1 M.1 (cl_at ci hci.1) hw
  refine call_end hs (okl_tail hA.2) (Q1 := KH g μ d c n (pc + 3) pc ls st Q) (fun v m' h => h) (fun E m' r' q H1 locs1 ce hq hM S1 hpre h1 h2 h3 => ?_) ?_
  · obtain ⟨v, hh, hQ⟩ := hq
    exact x_catch C hret hla (by omega) (by omega) E hh m' r' q H1 locs1 ce hQ hM S1 hpre h1 h2 h3
  · exact vx_runV (C := ν.1.cls) (b := r.getD i 0) (As := As.map (cv g r)) (Ts := TB) (nL := μ.2.2.1) ⟨C.1, C.2.1, C.2.2.2.1, C.own, C.hts⟩ (hcl r) ⟨callB_tb C h1 h4 hdd, C.hts _ h2, C.hts _ h3⟩ ⟨pc_blind, by rw [← hci.2]; exact hrecv, pre_of (as := .ref (i + 4) :: As) C M S (okl_cr (okl_head hA.2) hA.1)⟩ rfl (by rw [List.length_map]; exact hk) hla.1 (by show (As.reverse ++ .ref (i + 4) :: st).map (cv g r) = _; rw [List.map_append, List.map_reverse]; rfl) (lv_room (st8 h8)) hd ⟨by omega, by omega⟩
/-- a static call of a method with a table -/
def MT (own : String) (idx k : Nat) (ν : MD) : Prop := Cond.methodLink own idx ν.1 ∈ TB ∧ Cond.static ν.1 ∈ TB ∧ Cond.initialized ν.1.cls ∈ TB ∧ (∃ hh, ν.2.2.2.2 = some hh ∧ Cond.codeWith ν.1 ν.2.1 ν.2.2.1 ν.2.2.2.1 hh ∈ TB) ∧ (ν.1.cls ≠ "java/lang/invoke/MethodHandle" ∧ ν.1.cls ≠ "java/lang/invoke/VarHandle") ∧ (parseMethodDescriptor ν.1.desc).map (fun d => d.parameters.length) = some k ∧ ν.2.2.1 ≤ 45
theorem r_callT {ν : MD} {d1 c1 n1 idx k : Nat} (As : List Value) (hk : As.length = k) (hd : decode μ.2.1 pc = .ok (.invokestatic idx, 3)) (hm : MT μ.1.cls idx k ν) (hnone : μ.2.2.2.2 = none) (hdd : d1 + 1 ≤ d) (h8 : (st.map fun v => v.category).sum ≤ 8)
    (hcl : Cl g d1 c1 n1 ν As m (KQ g μ d c n (pc + 3) ls st Q)) : Wp g μ d (c + c1) (n + n1) pc ls (As.reverse ++ st) m Q := by
  intro p e R s mid args below meth cd r0 r H locs cells slots la hs
  obtain ⟨C, M, S, hr, hls, hst, hla, hc, hn⟩ := id hs
  obtain ⟨h1, h2, h3, ⟨hh, hsome, hcw⟩, h4, h5, h6⟩ := hm
  have hA := okl_rev hst
  have hf := C.fr
  have e0 : mdW ν = .codeWith ν.1 ν.2.1 ν.2.2.1 ν.2.2.2.1 hh := by unfold mdW; rw [hsome]
  refine call_end hs hA.2 (Q1 := KQ g μ d c n (pc + 3) ls st Q) (fun v m' h => h) (fun E m' r' q H1 locs1 ce hq hM S1 hpre h1 h2 h3 => x_out C hnone (by omega) (by omega) E m' r' q H1 locs1 ce hq hM S1 hpre h1 h2 h3) ?_
  refine vx_runSX (hh := hh) (n := k) (bytes := ν.2.1) (maxL := ν.2.2.1) (ret := ν.2.2.2.1) (As := As.map (cv g r)) (Ts := TB) (nL := μ.2.2.1) ⟨C.1, C.2.1, C.2.2.2.1, C.own, C.hts⟩ (hcl r) ⟨⟨rfl, rfl, Nat.le_trans hdd hf.1, ?_, tb_warm C.hts (by rw [e0]; exact hcw), by unfold mdS; rw [e0]; exact List.mem_cons_self⟩, C.hts _ hcw, C.hts _ h3, h4, ?_⟩ ⟨pc_blind, pre_of (as := As) C M S hA.1⟩ rfl (by rw [List.length_map]; exact hk) hla.1 (by show (As.reverse ++ st).map (cv g r) = _; rw [List.map_append, List.map_reverse]) (lv_room (st8 h8)) hd ⟨by omega, by omega⟩
  · show 8 + (ν.2.2.1 + 11) + 64 * d1 ≤ R.locals
    omega
  · have h7 : ∀ sig, parseMethodDescriptor ν.1.desc = some sig → k = sig.parameters.length := fun sig h => by
      rw [h] at h5
      exact (Option.some.inj h5).symm
    exact ⟨h7, C.hts _ h1, C.hts _ h2⟩
end TH
