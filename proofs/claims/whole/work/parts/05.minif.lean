theorem Mem.ext {g : GG} {r : List Nat} {m : MM} {H H1 : Heap} (M : Mem g r m H) (h : ∀ q : Nat, q < H.size → H1[q]? = H[q]?) : Mem g r m H1 := ⟨fun k q hq => (M.1 k q hq).kept (h _ (M.1 k q hq).lt), M.2.1, M.2.2.1, M.2.2.2⟩
theorem pc_blind {g : GG} {r : List Nat} {as : List Value} {m : MM} : FrameBlind (PcO g r as m) := fun a U gf mk h => ⟨h.1, h.2.1, h.2.2.1, Kn.same (u := U) (U := U.calling gf mk a) rfl h.2.2.2.1, h.2.2.2.2⟩
theorem Met_of {l : Launch} {y : MethodName} {ws : List Cond} {rm : Room} {Pc : Array Value → State → Prop} {Qc : Array Value → State → Outcome → State → Prop} {XC : String → State → State → Prop} {mc ms : Nat} {free : Addr → Prop} (h : vx_Met l y ws rm Pc Qc XC mc ms free) (hx : ∀ E st t, ¬ XC E st t) : Met l y ws rm Pc Qc mc ms free := by
  intro p e ha hc hk s m args below hf happ hP hK
  obtain ⟨k, o, h1, h2, h3, hq⟩ := h p e ha hc hk s m args below hf happ hP hK
  refine ⟨k, o, h1, h2, h3, ?_⟩
  rcases hq with hq | ⟨q, -, E, ce, L, hX, -⟩
  · exact hq
  · exact absurd hX (hx _ _ _)
section CC
variable {g : GG} {μ ν : MD} {d c n pc d1 c1 n1 : Nat} {ls st : List Value} {m : MM} {Q : Out → Prop}
/-- what a caller goes on with: the answer on its stack; a throw goes on to its own caller -/
def KQ (g : GG) (μ : MD) (d c n pc : Nat) (ls st : List Value) (Q : Out → Prop) : Out → Prop := fun o => match o.1 with
  | .inl v => Wp g μ d c n pc ls (v.toList ++ st) o.2 Q
  | .inr E => Q (.inr E, o.2)
/-- .. of a callee that never throws -/
def KN (g : GG) (μ : MD) (d c n pc : Nat) (ls st : List Value) (Q : Out → Prop) : Out → Prop := fun o => match o.1 with
  | .inl v => Wp g μ d c n pc ls (v.toList ++ st) o.2 Q
  | .inr _ => False
def MW (k : Nat) (ν : MD) : Prop := Cond.initialized ν.1.cls ∈ TB ∧ Cond.code ν.1 ν.2.1 ν.2.2.1 ν.2.2.2.1 ∈ TB ∧ ν.2.2.2.2 = none ∧ (ν.1.cls ≠ "java/lang/invoke/MethodHandle" ∧ ν.1.cls ≠ "java/lang/invoke/VarHandle") ∧ (parseMethodDescriptor ν.1.desc).map (fun d => d.parameters.length) = some k ∧ ν.2.2.1 ≤ 45
def MV (own : String) (idx k : Nat) (ν : MD) : Prop := Cond.methodLink own idx ν.1 ∈ TB ∧ Cond.instanceMethod ν.1 ∈ TB ∧ Cond.selects ν.1.cls ν.1 ν.1 ∈ TB ∧ MW k ν
def MS (own : String) (idx k : Nat) (ν : MD) : Prop := Cond.methodLink own idx ν.1 ∈ TB ∧ Cond.static ν.1 ∈ TB ∧ MW k ν
def MN (own : String) (idx k : Nat) (ν : MD) : Prop := (∃ host, Cond.methodLinkNest own idx ν.1 host ∈ NB) ∧ Cond.static ν.1 ∈ TB ∧ MW k ν
def MI (own : String) (idx k : Nat) (ν : MD) : Prop := (Cond.methodLink own idx ν.1 ∈ TB ∨ ∃ host, Cond.methodLinkNest own idx ν.1 host ∈ NB) ∧ Cond.instanceMethod ν.1 ∈ TB ∧ ν.1.name = "<init>" ∧ ν.2.2.2.1 = none ∧ MW k ν
theorem mdW_none (h : ν.2.2.2.2 = none) : mdW ν = .code ν.1 ν.2.1 ν.2.2.1 ν.2.2.2.1 := by unfold mdW; rw [h]
theorem tb_warm {s : State} {args : Array Value} (hts : ∀ w ∈ TB, w.before args s = true) (hw : mdW ν ∈ TB) : ∀ w ∈ mdS ν, ∀ (a' : Array Value) (U : State), s.WarmedH U.vm → w.before a' U = true := by
  intro w h a' U hW
  have h1 : w ∈ TB := by
    rcases List.mem_cons.mp h with rfl | h
    · exact hw
    · exact h
  exact word_at hW (tb_good h1) (hts w h1)
theorem callB_tb {p : Program} {e : Env} {R : Room} {s : State} {mid : MethodId} {args : Array Value} {meth : Method} {cd : Code} {k idx : Nat} (C : Ctx g μ d p e R s mid args meth cd) (hl : Cond.methodLink μ.1.cls idx ν.1 ∈ TB) (hm : MW k ν) (hdd : d1 + 1 ≤ d) :
    CallB R s args μ.1.cls idx ν.1 ν.2.1 ν.2.2.1 ν.2.2.2.1 (mdS ν) (rmD d1 c1 n1) c1 n1 k := by
  obtain ⟨h1, h2, h3, h4, h5, h6⟩ := hm
  have e := mdW_none h3
  have hf := C.fr
  refine ⟨rfl, rfl, Nat.le_trans hdd hf.1, ?_, tb_warm C.hts (by rw [e]; exact h2), by unfold mdS; rw [e]; exact List.mem_cons_self, C.hts _ h2, C.hts _ h1, h4, fun sig h => ?_, C.hts _ hl⟩
  · show 8 + (ν.2.2.1 + 11) + 64 * d1 ≤ R.locals
    omega
  · rw [h] at h5
    exact (Option.some.inj h5).symm
theorem callN_tb {p : Program} {e : Env} {R : Room} {s : State} {mid : MethodId} {args : Array Value} {meth : Method} {cd : Code} {k idx : Nat} {host : String} (C : Ctx g μ d p e R s mid args meth cd) (hl : Cond.methodLinkNest μ.1.cls idx ν.1 host ∈ NB) (hm : MW k ν) (hdd : d1 + 1 ≤ d) :
    va_CN R s args μ.1.cls idx ν.1 host ν.2.1 ν.2.2.1 ν.2.2.2.1 (mdS ν) (rmD d1 c1 n1) c1 n1 k := by
  obtain ⟨h1, h2, h3, h4, h5, h6⟩ := hm
  have e := mdW_none h3
  have hf := C.fr
  refine ⟨⟨rfl, rfl, Nat.le_trans hdd hf.1, ?_, tb_warm C.hts (by rw [e]; exact h2), by unfold mdS; rw [e]; exact List.mem_cons_self⟩, C.hts _ h2, C.hts _ h1, h4, fun sig h => ?_, C.nb hl⟩
  · show 8 + (ν.2.2.1 + 11) + 64 * d1 ≤ R.locals
    omega
  · rw [h] at h5
    exact (Option.some.inj h5).symm
theorem st8 {r : List Nat} (h8 : (st.map fun v => v.category).sum ≤ 8) : ((st.map (cv g r)).map fun v => v.category).sum ≤ 8 := by
  rw [List.map_map]
  have : (st.map ((fun v => v.category) ∘ cv g r)) = st.map fun v => v.category := List.map_congr_left fun v _ => cv_cat g r v
  rw [this]; exact h8
/-- behind a call -/
theorem call_end {p : Program} {e : Env} {R : Room} {s : State} {mid : MethodId} {args : Array Value} {below : List Frame} {meth : Method} {cd : Code} {r0 r : List Nat} {H : Heap} {locs : List Loc} {cells slots : Nat} {la : Array Slot} {stk0 : List Value} {stk : List Value} {Q1 : Out → Prop}
    (hs : Sit g μ d (c + c1) (n + n1) ls stk0 m p e R s mid args meth cd r0 r H locs cells slots la) (hst : okl (nx m) st) (hk : ∀ v m', Q1 (.inl v, m') → Wp g μ d c n (pc + 3) ls (v.toList ++ st) m' Q)
    (hx : ∀ (E : String) (m' : MM) (r' : List Nat) (q : Addr) (H1 : Heap) (locs1 : List Loc) (ce : Cell), Q1 (.inr E, m') → Mem g r' m' H1 → va_S (gF g) s.heap H1 locs1 → r0 <+: r' → H1[q]? = some ce → ce.vm = .none → s.vm.findClass E = some ce.cls → vx_W p (gl g) e R s mid args below meth cd H1 locs1 (cells + c1) (slots + n1) (vx_MQ below (QcO g r0 Q) (XcO g r0 Q) args s R.cells R.slots (gF g)) (F0 mid pc la (st.map (cv g r))) q)
    (run : vx_Run p (gl g) e R s mid args below meth cd H locs cells slots c1 n1 (F0 mid pc la stk) (st.map (cv g r)) (QcO g r Q1 #[]) (XcO g r Q1) (gF g)) :
    W p (gl g) e R s mid args below meth cd H locs cells slots (vx_MQ below (QcO g r0 Q) (XcO g r0 Q) args s R.cells R.slots (gF g)) (F0 mid pc la stk) := by
  obtain ⟨C, M, S, hr, hls, hst0, hla, hc, hn⟩ := hs
  have hlen := M.len
  intro T hT X
  rcases run T hT X with ⟨v, st₀, t, T', L, h0, X', hL, e1, e2, ⟨r', v', m', ho, hq, hM, hS', hpre, hok, hsz⟩, go⟩ | ⟨q, st₀, t, T', L, E, ce, h0, X', hL, e1, e2, ⟨r', m', hq, hM, hS', hpre, hsz⟩, hce, hcv, hcl, go⟩
  · rw [← e1] at hM hS' hsz
    rw [h0] at hsz
    cases ho
    have hlen' := hM.len
    have hnx : nx m ≤ nx m' := by rw [hlen, hlen']; have := hpre.length_le; omega
    have S1 : va_S (gF g) s.heap T'.heap (locs ++ L) := vsS C.vs (Nat.le_trans S.1 hsz) (fun z hz => by
      rcases List.mem_append.mp hz with h | h
      · exact S.2.2 z h
      · exact hL z h) hS'
    have K := hk v' m' hq p e R s mid args below meth cd r0 r' T'.heap (locs ++ L) (cells + c1) (slots + n1) la ⟨C, hM, S1, hr.trans hpre, okl_mono hnx hls, fun w hw => by
      rcases List.mem_append.mp hw with h | h
      · exact hok w h
      · exact okl_mono hnx hst w h, by rw [lvF_ext hpre ls 0 (by rw [← hlen]; exact hls)]; exact hla, by omega, by omega⟩
    obtain ⟨t2, a1, b1⟩ := K T' rfl X'
    refine ⟨t2, go t2 ?_, b1⟩
    have e3 : (v'.toList ++ st).map (cv g r') = (v'.map (cv g r')).toList ++ st.map (cv g r) := by
      rw [List.map_append, cvl_ext (l := st) hpre (by rw [← hlen]; exact hst)]
      cases v' <;> rfl
    rw [e3] at a1
    exact a1
  · rw [← e1] at hM hS' hsz hce
    rw [h0] at hsz
    have S1 : va_S (gF g) s.heap T'.heap (locs ++ L) := vsS C.vs (Nat.le_trans S.1 hsz) (fun z hz => by
      rcases List.mem_append.mp hz with h | h
      · exact S.2.2 z h
      · exact hL z h) hS'
    obtain ⟨t2, a1, b1⟩ := hx E m' r' q T'.heap (locs ++ L) ce hq hM S1 (hr.trans hpre) hce hcv hcl T' rfl X'
    exact ⟨t2, go.trans a1, b1⟩
theorem x_out {p : Program} {e : Env} {R : Room} {s : State} {mid : MethodId} {args : Array Value} {below : List Frame} {meth : Method} {cd : Code} {r0 r : List Nat} {cells slots : Nat} {la : Array Slot} (C : Ctx g μ d p e R s mid args meth cd) (hnone : μ.2.2.2.2 = none) (hc : cells ≤ R.cells) (hn : slots ≤ R.slots)
    (E : String) (m' : MM) (r' : List Nat) (q : Addr) (H1 : Heap) (locs1 : List Loc) (ce : Cell) (hq : Q (.inr E, m')) (hM : Mem g r' m' H1) (S1 : va_S (gF g) s.heap H1 locs1) (hpre : r0 <+: r') (hce : H1[q]? = some ce) (hcv : ce.vm = .none) (hcl : s.vm.findClass E = some ce.cls) :
    vx_W p (gl g) e R s mid args below meth cd H1 locs1 cells slots (vx_MQ below (QcO g r0 Q) (XcO g r0 Q) args s R.cells R.slots (gF g)) (F0 mid pc la (st.map (cv g r))) q := by
  refine vx_out (fun x hx => ?_) C.locks hce hcv hcl (fun t ht hW => ⟨r', m', hq, by rw [ht]; exact hM, by rw [ht]; exact vsG C.vs S1, hpre, by rw [ht]; exact S1.1⟩) S1.2.2 hc hn
  rw [C.table, hnone] at hx
  cases hx
theorem pre_of {p : Program} {e : Env} {R : Room} {s : State} {mid : MethodId} {args : Array Value} {meth : Method} {cd : Code} {r : List Nat} {H : Heap} {locs : List Loc} {as : List Value} (C : Ctx g μ d p e R s mid args meth cd) (M : Mem g r m H) (S : va_S (gF g) s.heap H locs) (hok : okl (nx m) as) : ∀ U : State, U.heap = H → s.WarmedH U.vm → PcO g r as m (as.map (cv g r)).toArray U :=
  fun U hU hW => ⟨rfl, by rw [hU]; exact M, by rw [hU]; exact vsG C.vs S, C.kn.warm hW, hok⟩
theorem okl_rev {a : Nat} {l t : List Value} (h : okl a (l.reverse ++ t)) : okl a l ∧ okl a t := ⟨fun v hv => h v (List.mem_append_left _ (List.mem_reverse.mpr hv)), fun v hv => h v (List.mem_append_right _ hv)⟩
theorem r_callV {idx k a ci l : Nat} (As : List Value) (hk : As.length = k) (hd : decode μ.2.1 pc = .ok (.invokevirtual idx, 3)) (hm : MV μ.1.cls idx k ν) (hnone : μ.2.2.2.2 = none) (ha : kdl m a = some (ci, l)) (hci : ci < 13 ∧ RF ci = ν.1.cls) (hdd : d1 + 1 ≤ d) (h8 : (st.map fun v => v.category).sum ≤ 8)
    (hcl : Cl g d1 c1 n1 ν (.ref a :: As) m (KQ g μ d c n (pc + 3) ls st Q)) : Wp g μ d (c + c1) (n + n1) pc ls (As.reverse ++ .ref a :: st) m Q := by
  intro p e R s mid args below meth cd r0 r H locs cells slots la hs
  obtain ⟨C, M, S, hr, hls, hst, hla, hc, hn⟩ := id hs
  obtain ⟨h1, h2, h3, h4⟩ := hm
  obtain ⟨i, rfl, hw, hcv, hq⟩ := M.at ha
  have hA := okl_rev hst
  rw [ent_o hci.1] at hw
  have hrecv := va_recv C.kn.1 M.1 (cl_at ci hci.1) hw
  refine call_end hs (okl_tail hA.2) (Q1 := KQ g μ d c n (pc + 3) ls st Q) (fun v m' h => h) (fun E m' r' q H1 locs1 ce hq hM S1 hpre h1 h2 h3 => x_out C hnone (by omega) (by omega) E m' r' q H1 locs1 ce hq hM S1 hpre h1 h2 h3) ?_
  exact vx_runV (C := ν.1.cls) (b := r.getD i 0) (As := As.map (cv g r)) (Ts := TB) (nL := μ.2.2.1) ⟨C.1, C.2.1, C.2.2.2.1, C.own, C.hts⟩ (hcl r) ⟨callB_tb C h1 h4 hdd, C.hts _ h2, C.hts _ h3⟩ ⟨pc_blind, by rw [← hci.2]; exact hrecv, pre_of (as := .ref (i + 4) :: As) C M S (okl_cr (okl_head hA.2) hA.1)⟩ rfl (by rw [List.length_map]; exact hk) hla.1 (by show (As.reverse ++ .ref (i + 4) :: st).map (cv g r) = _; rw [List.map_append, List.map_reverse]; rfl) (lv_room (st8 h8)) hd ⟨by omega, by omega⟩
theorem r_callS {idx k : Nat} (As : List Value) (hk : As.length = k) (hd : decode μ.2.1 pc = .ok (.invokestatic idx, 3)) (hm : MS μ.1.cls idx k ν) (hnone : μ.2.2.2.2 = none) (hdd : d1 + 1 ≤ d) (h8 : (st.map fun v => v.category).sum ≤ 8)
    (hcl : Cl g d1 c1 n1 ν As m (KQ g μ d c n (pc + 3) ls st Q)) : Wp g μ d (c + c1) (n + n1) pc ls (As.reverse ++ st) m Q := by
  intro p e R s mid args below meth cd r0 r H locs cells slots la hs
  obtain ⟨C, M, S, hr, hls, hst, hla, hc, hn⟩ := id hs
  obtain ⟨h1, h2, h4⟩ := hm
  have hA := okl_rev hst
  refine call_end hs hA.2 (Q1 := KQ g μ d c n (pc + 3) ls st Q) (fun v m' h => h) (fun E m' r' q H1 locs1 ce hq hM S1 hpre h1 h2 h3 => x_out C hnone (by omega) (by omega) E m' r' q H1 locs1 ce hq hM S1 hpre h1 h2 h3) ?_
  exact vx_runS (As := As.map (cv g r)) (Ts := TB) (nL := μ.2.2.1) ⟨C.1, C.2.1, C.2.2.2.1, C.own, C.hts⟩ (hcl r) ⟨callB_tb C h1 h4 hdd, C.hts _ h2⟩ ⟨pc_blind, pre_of (as := As) C M S hA.1⟩ rfl (by rw [List.length_map]; exact hk) hla.1 (by show (As.reverse ++ st).map (cv g r) = _; rw [List.map_append, List.map_reverse]) (lv_room (st8 h8)) hd ⟨by omega, by omega⟩
theorem run_vx {p : Program} {e : Env} {R : Room} {s : State} {mid : MethodId} {args : Array Value} {below : List Frame} {meth : Method} {cd : Code} {H : Heap} {locs : List Loc} {cells slots mc ms : Nat} {gf : JFrame} {rest : List Value} {Qa : State → Outcome → State → Prop} {XC : String → State → State → Prop} {free : Addr → Prop}
    (h : va_Run p (gl g) e R s mid args below meth cd H locs cells slots mc ms gf rest Qa free) : vx_Run p (gl g) e R s mid args below meth cd H locs cells slots mc ms gf rest Qa XC free := fun T hT X => Or.inl (h T hT X)
theorem kn_no {r : List Nat} : ∀ E st1 t, ¬ XcO g r (KN g μ d c n pc ls st Q) E st1 t := fun E st1 t h => by
  obtain ⟨_, _, h, _⟩ := h
  exact h
theorem r_callN {idx k : Nat} (As : List Value) (hk : As.length = k) (hd : decode μ.2.1 pc = .ok (.invokestatic idx, 3)) (hm : MN μ.1.cls idx k ν) (hdd : d1 + 1 ≤ d) (h8 : (st.map fun v => v.category).sum ≤ 8)
    (hcl : Cl g d1 c1 n1 ν As m (KN g μ d c n (pc + 3) ls st Q)) : Wp g μ d (c + c1) (n + n1) pc ls (As.reverse ++ st) m Q := by
  intro p e R s mid args below meth cd r0 r H locs cells slots la hs
  obtain ⟨C, M, S, hr, hls, hst, hla, hc, hn⟩ := id hs
  obtain ⟨⟨host, h1⟩, h2, h4⟩ := hm
  have hA := okl_rev hst
  refine call_end hs hA.2 (Q1 := KN g μ d c n (pc + 3) ls st Q) (fun v m' h => h) (fun E m' r' q H1 locs1 ce hq => absurd hq id) (run_vx ?_)
  exact va_runSN (As := As.map (cv g r)) (Ts := TB) (nL := μ.2.2.1) ⟨C.1, C.2.1, C.2.2.2.1, C.own, C.hts⟩ (Met_of (hcl r) kn_no) ⟨callN_tb C h1 h4 hdd, C.hts _ h2, trivial⟩ ⟨pc_blind, pre_of (as := As) C M S hA.1⟩ rfl (by rw [List.length_map]; exact hk) hla.1 (by show (As.reverse ++ st).map (cv g r) = _; rw [List.map_append, List.map_reverse]) (lv_room (st8 h8)) hd ⟨by omega, by omega⟩
theorem r_callI {idx k a : Nat} (As : List Value) (hk : As.length = k) (hd : decode μ.2.1 pc = .ok (.invokespecial idx, 3)) (hm : MI μ.1.cls idx k ν) (ha : 4 ≤ a) (hdd : d1 + 1 ≤ d) (h8 : (st.map fun v => v.category).sum ≤ 8)
    (hcl : Cl g d1 c1 n1 ν (.ref a :: As) m (KN g μ d c n (pc + 3) ls st Q)) : Wp g μ d (c + c1) (n + n1) pc ls (As.reverse ++ .ref a :: st) m Q := by
  intro p e R s mid args below meth cd r0 r H locs cells slots la hs
  obtain ⟨C, M, S, hr, hls, hst, hla, hc, hn⟩ := id hs
  obtain ⟨h1, h2, h3, hret, h4⟩ := hm
  obtain ⟨i, rfl⟩ : ∃ i, a = i + 4 := ⟨a - 4, by omega⟩
  have hA := okl_rev hst
  refine call_end hs (okl_tail hA.2) (Q1 := KN g μ d c n (pc + 3) ls st Q) (fun v m' h => h) (fun E m' r' q H1 locs1 ce hq => absurd hq id) (run_vx ?_)
  rcases h1 with h1 | ⟨host, h1⟩
  · have hB := callB_tb (c1 := c1) (n1 := n1) C h1 h4 hdd
    rw [hret] at hB
    exact va_runI (b := r.getD i 0) (As := As.map (cv g r)) (Ts := TB) (nL := μ.2.2.1) ⟨C.1, C.2.1, C.2.2.2.1, C.own, C.hts⟩ (Met_of (hcl r) kn_no) ⟨hB, h3, C.hts _ h2⟩ ⟨pc_blind, pre_of (as := .ref (i + 4) :: As) C M S (okl_cr (okl_head hA.2) hA.1)⟩ rfl (by rw [List.length_map]; exact hk) hla.1 (by show (As.reverse ++ .ref (i + 4) :: st).map (cv g r) = _; rw [List.map_append, List.map_reverse]; rfl) (lv_room (st8 h8)) hd ⟨by omega, by omega⟩
  · have hB := callN_tb (c1 := c1) (n1 := n1) C h1 h4 hdd
    rw [hret] at hB
    exact va_runIN (b := r.getD i 0) (As := As.map (cv g r)) (Ts := TB) (nL := μ.2.2.1) ⟨C.1, C.2.1, C.2.2.2.1, C.own, C.hts⟩ (Met_of (hcl r) kn_no) ⟨hB, h3, C.hts _ h2⟩ ⟨pc_blind, pre_of (as := .ref (i + 4) :: As) C M S (okl_cr (okl_head hA.2) hA.1)⟩ rfl (by rw [List.length_map]; exact hk) hla.1 (by show (As.reverse ++ .ref (i + 4) :: st).map (cv g r) = _; rw [List.map_append, List.map_reverse]; rfl) (lv_room (st8 h8)) hd ⟨by omega, by omega⟩
-- a method's entry
def lsA (as : List Value) : List Value := as.flatMap (fun v => if v.category = 2 then [v, .retAddr 0] else [v])
def lsE (n : Nat) (as : List Value) : List Value := lsA as ++ List.replicate (n - (lsA as).length) (.retAddr 0)
theorem lvF_entry {r : List Nat} (z : Nat) : ∀ (as : List Value) (i : Nat) (q : Nat × Value), q ∈ lvF g r i (lsA as ++ List.replicate z (.retAddr 0)) → q ∈ lv_args i (as.map (cv g r)) := by
  intro as
  induction as with
  | nil =>
    intro i q hq
    obtain ⟨k, v, -, e2, e3⟩ := lvF_mem _ _ _ hq
    have h1 : v ∈ List.replicate z (Value.retAddr 0) := List.mem_of_getElem? e2
    exact absurd (List.mem_replicate.mp h1).2 (e3 _)
  | cons v t ih =>
    intro i q hq
    have e : lsA (v :: t) = (if v.category = 2 then [v, .retAddr 0] else [v]) ++ lsA t := rfl
    rw [e] at hq
    show q ∈ (i, cv g r v) :: lv_args (if (cv g r v).category = 2 then i + 2 else i + 1) (t.map (cv g r))
    rw [cv_cat]
    by_cases h : v.category = 2
    · rw [if_pos h] at hq ⊢
      cases v with
      | long x =>
        rcases List.mem_cons.mp (show q ∈ (i, cv g r (.long x)) :: lvF g r (i + 2) (lsA t ++ List.replicate z (.retAddr 0)) from hq) with rfl | h1
        · exact List.mem_cons_self
        · exact List.mem_cons_of_mem _ (ih (i + 2) q h1)
      | double x =>
        rcases List.mem_cons.mp (show q ∈ (i, cv g r (.double x)) :: lvF g r (i + 2) (lsA t ++ List.replicate z (.retAddr 0)) from hq) with rfl | h1
        · exact List.mem_cons_self
        · exact List.mem_cons_of_mem _ (ih (i + 2) q h1)
      | _ => exact absurd h (by simp [Value.category])
    · rw [if_neg h] at hq ⊢
      have key : q = (i, cv g r v) ∨ q ∈ lvF g r (i + 1) (lsA t ++ List.replicate z (.retAddr 0)) := by
        cases v with
        | retAddr a => exact Or.inr hq
        | _ => exact List.mem_cons.mp hq
      rcases key with rfl | h1
      · exact List.mem_cons_self
      · exact List.mem_cons_of_mem _ (ih (i + 1) q h1)
theorem lg_sl_len {r : List Nat} (as : List Value) : (lg_sl (as.map (cv g r))).length = (lsA as).length := by
  induction as with
  | nil => rfl
  | cons v t ih =>
    show ((if (cv g r v).category = 2 then [Slot.val (cv g r v), .second] else [.val (cv g r v)]) ++ lg_sl (t.map (cv g r))).length = ((if v.category = 2 then [v, Value.retAddr 0] else [v]) ++ lsA t).length
    rw [cv_cat, List.length_append, List.length_append, ih]
    split <;> rfl
theorem okl_entry {a z : Nat} : ∀ (as : List Value), okl a as → okl a (lsA as ++ List.replicate z (.retAddr 0)) := by
  intro as h w hw
  rcases List.mem_append.mp hw with h1 | h1
  · obtain ⟨v, hv, h2⟩ := List.mem_flatMap.mp h1
    split at h2
    · rcases List.mem_cons.mp h2 with rfl | h3
      · exact h w hv
      · rcases List.mem_cons.mp h3 with rfl | h4
        · trivial
        · cases h4
    · rcases List.mem_cons.mp h2 with rfl | h3
      · exact h w hv
      · cases h3
  · rw [(List.mem_replicate.mp h1).2]; trivial
theorem Sit_entry {as : List Value} {p : Program} {e : Env} {s : State} {mid : MethodId} {args : Array Value} {below : List Frame} {meth : Method} {cd : Code} {r : List Nat} (hsz : (lsA as).length ≤ ν.2.2.1) (C : Ctx g ν d p e (rmD d c n) s mid args meth cd) (M : Mem g r m s.heap) (hok : okl (nx m) as) (hav : args = (as.map (cv g r)).toArray)
    (k : Wp g ν d c n 0 (lsE ν.2.2.1 as) [] m Q) : W p (gl g) e (rmD d c n) s mid args below meth cd s.heap [] 0 0 (vx_MQ below (QcO g r Q) (XcO g r Q) args s c n (gF g)) (entryFrame mid args ν.2.2.1) := by
  have hl := lv_entry (as.map (cv g r)) (n := ν.2.2.1) (by rw [lg_sl_len]; exact hsz)
  have e2 : entryFrame mid args ν.2.2.1 = F0 mid 0 ((lg_sl (as.map (cv g r)) ++ List.replicate (ν.2.2.1 - (lg_sl (as.map (cv g r))).length) Slot.unset).toArray) [] := by rw [hav]; exact lg_entry_eq _ _ _
  rw [e2]
  exact k p e (rmD d c n) s mid args below meth cd r r s.heap [] 0 0 _ ⟨C, M, va_S.rf, List.prefix_refl r, okl_entry as hok, okl_nil, lv_has_mono hl (fun q hq => lvF_entry _ as 0 q hq), Nat.le_of_eq (Nat.zero_add _), Nat.le_of_eq (Nat.zero_add _)⟩
theorem Cl.of {as : List Value} (hnone : ν.2.2.2.2 = none) (hp : plainName ν.1.cls = true) (hsz : (lsA as).length ≤ ν.2.2.1) (k : Wp g ν d c n 0 (lsE ν.2.2.1 as) [] m Q) : Cl g d c n ν as m Q := by
  intro r
  refine vx_ofW (cc := ν.2.1) (maxL := ν.2.2.1) (ret := ν.2.2.2.1) (ws' := TB) hp (by unfold mdS; rw [mdW_none hnone]) ?_
  intro p e s mid args below meth cd s₁ B hml htab hv
  obtain ⟨hav, M, hS, hK, hok⟩ := hv
  have hts := atoms_spec (ws := mdS ν) B.pre
  have hown : s.vm.findClass ν.1.cls = some mid.cls := findClass_of_methodNamed B.named
  refine Sit_entry hsz ⟨B.exec, B.bytes, B.returns, hml, hown, fun w hw => hts w (List.mem_cons_of_mem _ hw), B.notSynchronized, (name_of_methodNamed B.named B.method).1, ?_, Nat.le_refl _, Nat.le_refl _, hK, hS⟩ M hok hav k
  rw [hnone]
  exact List.eq_nil_iff_forall_not_mem.mpr htab
theorem Cl.ofH {as : List Value} {hh : List (Nat × Nat × Nat × Nat)} (hsome : ν.2.2.2.2 = some hh) (hp : plainName ν.1.cls = true) (hsz : (lsA as).length ≤ ν.2.2.1) (k : Wp g ν d c n 0 (lsE ν.2.2.1 as) [] m Q) : Cl g d c n ν as m Q := by
  intro r
  have e0 : mdW ν = .codeWith ν.1 ν.2.1 ν.2.2.1 ν.2.2.2.1 hh := by unfold mdW; rw [hsome]
  refine vx_ofWH (cc := ν.2.1) (maxL := ν.2.2.1) (ret := ν.2.2.2.1) (ws' := TB) (hh := hh) hp (by unfold mdS; rw [e0]) ?_
  intro p e s mid args below meth cd s₁ B hml hv
  obtain ⟨hav, M, hS, hK, hok⟩ := hv
  have hts := atoms_spec (ws := mdS ν) B.pre
  have hown : s.vm.findClass ν.1.cls = some mid.cls := findClass_of_methodNamed B.named
  refine Sit_entry hsz ⟨B.exec, B.bytes, B.returns, hml, hown, fun w hw => hts w (List.mem_cons_of_mem _ hw), B.notSynchronized, (name_of_methodNamed B.named B.method).1, ?_, Nat.le_refl _, Nat.le_refl _, hK, hS⟩ M hok hav k
  rw [hsome]
  have h9 := hts _ (List.mem_cons_self : mdW ν ∈ mdS ν)
  rw [e0] at h9
  exact vx_table (x := ν.1) B h9
/-- throw new E() -/
theorem r_throw {E : String} {names : List String} {ik ic : Nat} (hnone : μ.2.2.2.2 = none) (d0 : decode μ.2.1 pc = .ok (.new ik, 3)) (d3 : decode μ.2.1 (pc + 3) = .ok (.dup, 1)) (d4 : decode μ.2.1 (pc + 4) = .ok (.invokespecial ic, 3)) (d7 : decode μ.2.1 (pc + 7) = .ok (.athrow, 1))
    (hE : Bundle.fit E = true) (hN : ∀ x ∈ names, Bundle.fit x = true) (hk : Cond.classLink μ.1.cls ik E ∈ TB) (hini : Cond.initialized E ∈ TB) (hat : ∀ w ∈ vx_at0 μ.1.cls ic E names, w ∈ TB ∨ w ∈ NB) (hg : ∀ w ∈ Cond.classLink μ.1.cls ik E :: Cond.initialized E :: vx_at0 μ.1.cls ic E names, vx_ot w = true)
    (hd : names.length + 4 ≤ d) (h8 : (st.map fun v => v.category).sum ≤ 8) (k : Q (.inr E, m)) : Wp g μ d (c + 1) (n + 6) pc ls st m Q := by
  intro p e R s mid args below meth cd r0 r H locs cells slots la hs
  obtain ⟨C, M, S, hr, hls, hst, hla, hc, hn⟩ := id hs
  have hf := C.fr
  have hZ := C.kn.2.2.2.2.2
  refine vx_throw0 (mc := R.cells) (ms := R.slots) (A := gF g) C.1 C.2.1 C.kn.2.2.2.2.1 C.own hE hN (C.hts _ hk) (C.hts _ hini) (fun w hw => (hat w hw).elim (fun h => C.hts _ h) (fun h => C.nb h)) hg
    (vx_Zq.kept hZ.1 (fun a h1 h2 => C.vs.2.1 a h1 h2)) (vx_Zq.kept hZ.2.1 (fun a h1 h2 => C.vs.2.1 a h1 h2)) S (by rw [C.2.2.2.1]; exact hla.1) d0 d3 d4 d7 (fun x hx => ?_) (by omega) ?_ (by omega) (by omega) C.locks (fun t ht hs1 hs2 => ?_) S.2.2 (by omega) (by omega)
  · rw [C.table, hnone] at hx; cases hx
  · have := st8 (g := g) (r := r) h8
    omega
  · have hM1 : Mem g r m t.heap := M.ext hs2
    have hS1 : va_S (gF g) (gH g) t.heap [] := by
      have h0 := vsG C.vs S
      refine ⟨Nat.le_trans h0.1 hs1, fun q h1 h2 => ?_, fun _ h => by cases h⟩
      rw [hs2 q (Nat.lt_of_lt_of_le h1 h0.1)]
      exact h0.2.1 q h1 h2
    exact ⟨r, m, k, hM1, hS1, hr, Nat.le_trans S.1 hs1⟩
end CC

section CR
variable {g : GG} {μ ν : MD} {d c n pc d1 c1 n1 : Nat} {ls st : List Value} {m : MM} {Q : Out → Prop}
theorem r_callV0 {idx a ci l : Nat} (hd : decode μ.2.1 pc = .ok (.invokevirtual idx, 3)) (hm : MV μ.1.cls idx 0 ν) (hnone : μ.2.2.2.2 = none) (hci : ci < 13 ∧ RF ci = ν.1.cls) (hdd : d1 + 1 ≤ d) (h8 : (st.map fun v => v.category).sum ≤ 8) (ha : kdl m a = some (ci, l)) (hcl : Cl g d1 c1 n1 ν [.ref a] m (KQ g μ d c n (pc + 3) ls st Q)) : Wp g μ d (c + c1) (n + n1) pc ls (.ref a :: st) m Q := r_callV [] rfl hd hm hnone ha hci hdd h8 hcl
theorem r_callI0 {idx a : Nat} (hd : decode μ.2.1 pc = .ok (.invokespecial idx, 3)) (hm : MI μ.1.cls idx 0 ν) (hdd : d1 + 1 ≤ d) (h8 : (st.map fun v => v.category).sum ≤ 8) (ha : 4 ≤ a) (hcl : Cl g d1 c1 n1 ν [.ref a] m (KN g μ d c n (pc + 3) ls st Q)) : Wp g μ d (c + c1) (n + n1) pc ls (.ref a :: st) m Q := r_callI [] rfl hd hm ha hdd h8 hcl
theorem r_callS0 {idx : Nat} (hd : decode μ.2.1 pc = .ok (.invokestatic idx, 3)) (hm : MS μ.1.cls idx 0 ν) (hnone : μ.2.2.2.2 = none) (hdd : d1 + 1 ≤ d) (h8 : (st.map fun v => v.category).sum ≤ 8) (hcl : Cl g d1 c1 n1 ν [] m (KQ g μ d c n (pc + 3) ls st Q)) : Wp g μ d (c + c1) (n + n1) pc ls (st) m Q := r_callS [] rfl hd hm hnone hdd h8 hcl
theorem r_callN0 {idx : Nat} (hd : decode μ.2.1 pc = .ok (.invokestatic idx, 3)) (hm : MN μ.1.cls idx 0 ν) (hdd : d1 + 1 ≤ d) (h8 : (st.map fun v => v.category).sum ≤ 8) (hcl : Cl g d1 c1 n1 ν [] m (KN g μ d c n (pc + 3) ls st Q)) : Wp g μ d (c + c1) (n + n1) pc ls (st) m Q := r_callN [] rfl hd hm hdd h8 hcl
theorem r_callV1 {idx a ci l : Nat} {x1 : Value} (hd : decode μ.2.1 pc = .ok (.invokevirtual idx, 3)) (hm : MV μ.1.cls idx 1 ν) (hnone : μ.2.2.2.2 = none) (hci : ci < 13 ∧ RF ci = ν.1.cls) (hdd : d1 + 1 ≤ d) (h8 : (st.map fun v => v.category).sum ≤ 8) (ha : kdl m a = some (ci, l)) (hcl : Cl g d1 c1 n1 ν [.ref a, x1] m (KQ g μ d c n (pc + 3) ls st Q)) : Wp g μ d (c + c1) (n + n1) pc ls (x1 :: .ref a :: st) m Q := r_callV [x1] rfl hd hm hnone ha hci hdd h8 hcl
theorem r_callI1 {idx a : Nat} {x1 : Value} (hd : decode μ.2.1 pc = .ok (.invokespecial idx, 3)) (hm : MI μ.1.cls idx 1 ν) (hdd : d1 + 1 ≤ d) (h8 : (st.map fun v => v.category).sum ≤ 8) (ha : 4 ≤ a) (hcl : Cl g d1 c1 n1 ν [.ref a, x1] m (KN g μ d c n (pc + 3) ls st Q)) : Wp g μ d (c + c1) (n + n1) pc ls (x1 :: .ref a :: st) m Q := r_callI [x1] rfl hd hm ha hdd h8 hcl
theorem r_callS1 {idx : Nat} {x1 : Value} (hd : decode μ.2.1 pc = .ok (.invokestatic idx, 3)) (hm : MS μ.1.cls idx 1 ν) (hnone : μ.2.2.2.2 = none) (hdd : d1 + 1 ≤ d) (h8 : (st.map fun v => v.category).sum ≤ 8) (hcl : Cl g d1 c1 n1 ν [x1] m (KQ g μ d c n (pc + 3) ls st Q)) : Wp g μ d (c + c1) (n + n1) pc ls (x1 :: st) m Q := r_callS [x1] rfl hd hm hnone hdd h8 hcl
theorem r_callN1 {idx : Nat} {x1 : Value} (hd : decode μ.2.1 pc = .ok (.invokestatic idx, 3)) (hm : MN μ.1.cls idx 1 ν) (hdd : d1 + 1 ≤ d) (h8 : (st.map fun v => v.category).sum ≤ 8) (hcl : Cl g d1 c1 n1 ν [x1] m (KN g μ d c n (pc + 3) ls st Q)) : Wp g μ d (c + c1) (n + n1) pc ls (x1 :: st) m Q := r_callN [x1] rfl hd hm hdd h8 hcl
theorem r_callV2 {idx a ci l : Nat} {x1 x2 : Value} (hd : decode μ.2.1 pc = .ok (.invokevirtual idx, 3)) (hm : MV μ.1.cls idx 2 ν) (hnone : μ.2.2.2.2 = none) (hci : ci < 13 ∧ RF ci = ν.1.cls) (hdd : d1 + 1 ≤ d) (h8 : (st.map fun v => v.category).sum ≤ 8) (ha : kdl m a = some (ci, l)) (hcl : Cl g d1 c1 n1 ν [.ref a, x1, x2] m (KQ g μ d c n (pc + 3) ls st Q)) : Wp g μ d (c + c1) (n + n1) pc ls (x2 :: x1 :: .ref a :: st) m Q := r_callV [x1, x2] rfl hd hm hnone ha hci hdd h8 hcl
theorem r_callI2 {idx a : Nat} {x1 x2 : Value} (hd : decode μ.2.1 pc = .ok (.invokespecial idx, 3)) (hm : MI μ.1.cls idx 2 ν) (hdd : d1 + 1 ≤ d) (h8 : (st.map fun v => v.category).sum ≤ 8) (ha : 4 ≤ a) (hcl : Cl g d1 c1 n1 ν [.ref a, x1, x2] m (KN g μ d c n (pc + 3) ls st Q)) : Wp g μ d (c + c1) (n + n1) pc ls (x2 :: x1 :: .ref a :: st) m Q := r_callI [x1, x2] rfl hd hm ha hdd h8 hcl
theorem r_callS2 {idx : Nat} {x1 x2 : Value} (hd : decode μ.2.1 pc = .ok (.invokestatic idx, 3)) (hm : MS μ.1.cls idx 2 ν) (hnone : μ.2.2.2.2 = none) (hdd : d1 + 1 ≤ d) (h8 : (st.map fun v => v.category).sum ≤ 8) (hcl : Cl g d1 c1 n1 ν [x1, x2] m (KQ g μ d c n (pc + 3) ls st Q)) : Wp g μ d (c + c1) (n + n1) pc ls (x2 :: x1 :: st) m Q := r_callS [x1, x2] rfl hd hm hnone hdd h8 hcl
theorem r_callN2 {idx : Nat} {x1 x2 : Value} (hd : decode μ.2.1 pc = .ok (.invokestatic idx, 3)) (hm : MN μ.1.cls idx 2 ν) (hdd : d1 + 1 ≤ d) (h8 : (st.map fun v => v.category).sum ≤ 8) (hcl : Cl g d1 c1 n1 ν [x1, x2] m (KN g μ d c n (pc + 3) ls st Q)) : Wp g μ d (c + c1) (n + n1) pc ls (x2 :: x1 :: st) m Q := r_callN [x1, x2] rfl hd hm hdd h8 hcl
theorem r_callV3 {idx a ci l : Nat} {x1 x2 x3 : Value} (hd : decode μ.2.1 pc = .ok (.invokevirtual idx, 3)) (hm : MV μ.1.cls idx 3 ν) (hnone : μ.2.2.2.2 = none) (hci : ci < 13 ∧ RF ci = ν.1.cls) (hdd : d1 + 1 ≤ d) (h8 : (st.map fun v => v.category).sum ≤ 8) (ha : kdl m a = some (ci, l)) (hcl : Cl g d1 c1 n1 ν [.ref a, x1, x2, x3] m (KQ g μ d c n (pc + 3) ls st Q)) : Wp g μ d (c + c1) (n + n1) pc ls (x3 :: x2 :: x1 :: .ref a :: st) m Q := r_callV [x1, x2, x3] rfl hd hm hnone ha hci hdd h8 hcl
theorem r_callI3 {idx a : Nat} {x1 x2 x3 : Value} (hd : decode μ.2.1 pc = .ok (.invokespecial idx, 3)) (hm : MI μ.1.cls idx 3 ν) (hdd : d1 + 1 ≤ d) (h8 : (st.map fun v => v.category).sum ≤ 8) (ha : 4 ≤ a) (hcl : Cl g d1 c1 n1 ν [.ref a, x1, x2, x3] m (KN g μ d c n (pc + 3) ls st Q)) : Wp g μ d (c + c1) (n + n1) pc ls (x3 :: x2 :: x1 :: .ref a :: st) m Q := r_callI [x1, x2, x3] rfl hd hm ha hdd h8 hcl
theorem r_callS3 {idx : Nat} {x1 x2 x3 : Value} (hd : decode μ.2.1 pc = .ok (.invokestatic idx, 3)) (hm : MS μ.1.cls idx 3 ν) (hnone : μ.2.2.2.2 = none) (hdd : d1 + 1 ≤ d) (h8 : (st.map fun v => v.category).sum ≤ 8) (hcl : Cl g d1 c1 n1 ν [x1, x2, x3] m (KQ g μ d c n (pc + 3) ls st Q)) : Wp g μ d (c + c1) (n + n1) pc ls (x3 :: x2 :: x1 :: st) m Q := r_callS [x1, x2, x3] rfl hd hm hnone hdd h8 hcl
theorem r_callN3 {idx : Nat} {x1 x2 x3 : Value} (hd : decode μ.2.1 pc = .ok (.invokestatic idx, 3)) (hm : MN μ.1.cls idx 3 ν) (hdd : d1 + 1 ≤ d) (h8 : (st.map fun v => v.category).sum ≤ 8) (hcl : Cl g d1 c1 n1 ν [x1, x2, x3] m (KN g μ d c n (pc + 3) ls st Q)) : Wp g μ d (c + c1) (n + n1) pc ls (x3 :: x2 :: x1 :: st) m Q := r_callN [x1, x2, x3] rfl hd hm hdd h8 hcl
theorem r_callV4 {idx a ci l : Nat} {x1 x2 x3 x4 : Value} (hd : decode μ.2.1 pc = .ok (.invokevirtual idx, 3)) (hm : MV μ.1.cls idx 4 ν) (hnone : μ.2.2.2.2 = none) (hci : ci < 13 ∧ RF ci = ν.1.cls) (hdd : d1 + 1 ≤ d) (h8 : (st.map fun v => v.category).sum ≤ 8) (ha : kdl m a = some (ci, l)) (hcl : Cl g d1 c1 n1 ν [.ref a, x1, x2, x3, x4] m (KQ g μ d c n (pc + 3) ls st Q)) : Wp g μ d (c + c1) (n + n1) pc ls (x4 :: x3 :: x2 :: x1 :: .ref a :: st) m Q := r_callV [x1, x2, x3, x4] rfl hd hm hnone ha hci hdd h8 hcl
theorem r_callI4 {idx a : Nat} {x1 x2 x3 x4 : Value} (hd : decode μ.2.1 pc = .ok (.invokespecial idx, 3)) (hm : MI μ.1.cls idx 4 ν) (hdd : d1 + 1 ≤ d) (h8 : (st.map fun v => v.category).sum ≤ 8) (ha : 4 ≤ a) (hcl : Cl g d1 c1 n1 ν [.ref a, x1, x2, x3, x4] m (KN g μ d c n (pc + 3) ls st Q)) : Wp g μ d (c + c1) (n + n1) pc ls (x4 :: x3 :: x2 :: x1 :: .ref a :: st) m Q := r_callI [x1, x2, x3, x4] rfl hd hm ha hdd h8 hcl
theorem r_callS4 {idx : Nat} {x1 x2 x3 x4 : Value} (hd : decode μ.2.1 pc = .ok (.invokestatic idx, 3)) (hm : MS μ.1.cls idx 4 ν) (hnone : μ.2.2.2.2 = none) (hdd : d1 + 1 ≤ d) (h8 : (st.map fun v => v.category).sum ≤ 8) (hcl : Cl g d1 c1 n1 ν [x1, x2, x3, x4] m (KQ g μ d c n (pc + 3) ls st Q)) : Wp g μ d (c + c1) (n + n1) pc ls (x4 :: x3 :: x2 :: x1 :: st) m Q := r_callS [x1, x2, x3, x4] rfl hd hm hnone hdd h8 hcl
theorem r_callN4 {idx : Nat} {x1 x2 x3 x4 : Value} (hd : decode μ.2.1 pc = .ok (.invokestatic idx, 3)) (hm : MN μ.1.cls idx 4 ν) (hdd : d1 + 1 ≤ d) (h8 : (st.map fun v => v.category).sum ≤ 8) (hcl : Cl g d1 c1 n1 ν [x1, x2, x3, x4] m (KN g μ d c n (pc + 3) ls st Q)) : Wp g μ d (c + c1) (n + n1) pc ls (x4 :: x3 :: x2 :: x1 :: st) m Q := r_callN [x1, x2, x3, x4] rfl hd hm hdd h8 hcl
theorem r_callV5 {idx a ci l : Nat} {x1 x2 x3 x4 x5 : Value} (hd : decode μ.2.1 pc = .ok (.invokevirtual idx, 3)) (hm : MV μ.1.cls idx 5 ν) (hnone : μ.2.2.2.2 = none) (hci : ci < 13 ∧ RF ci = ν.1.cls) (hdd : d1 + 1 ≤ d) (h8 : (st.map fun v => v.category).sum ≤ 8) (ha : kdl m a = some (ci, l)) (hcl : Cl g d1 c1 n1 ν [.ref a, x1, x2, x3, x4, x5] m (KQ g μ d c n (pc + 3) ls st Q)) : Wp g μ d (c + c1) (n + n1) pc ls (x5 :: x4 :: x3 :: x2 :: x1 :: .ref a :: st) m Q := r_callV [x1, x2, x3, x4, x5] rfl hd hm hnone ha hci hdd h8 hcl
theorem r_callI5 {idx a : Nat} {x1 x2 x3 x4 x5 : Value} (hd : decode μ.2.1 pc = .ok (.invokespecial idx, 3)) (hm : MI μ.1.cls idx 5 ν) (hdd : d1 + 1 ≤ d) (h8 : (st.map fun v => v.category).sum ≤ 8) (ha : 4 ≤ a) (hcl : Cl g d1 c1 n1 ν [.ref a, x1, x2, x3, x4, x5] m (KN g μ d c n (pc + 3) ls st Q)) : Wp g μ d (c + c1) (n + n1) pc ls (x5 :: x4 :: x3 :: x2 :: x1 :: .ref a :: st) m Q := r_callI [x1, x2, x3, x4, x5] rfl hd hm ha hdd h8 hcl
theorem r_callS5 {idx : Nat} {x1 x2 x3 x4 x5 : Value} (hd : decode μ.2.1 pc = .ok (.invokestatic idx, 3)) (hm : MS μ.1.cls idx 5 ν) (hnone : μ.2.2.2.2 = none) (hdd : d1 + 1 ≤ d) (h8 : (st.map fun v => v.category).sum ≤ 8) (hcl : Cl g d1 c1 n1 ν [x1, x2, x3, x4, x5] m (KQ g μ d c n (pc + 3) ls st Q)) : Wp g μ d (c + c1) (n + n1) pc ls (x5 :: x4 :: x3 :: x2 :: x1 :: st) m Q := r_callS [x1, x2, x3, x4, x5] rfl hd hm hnone hdd h8 hcl
theorem r_callN5 {idx : Nat} {x1 x2 x3 x4 x5 : Value} (hd : decode μ.2.1 pc = .ok (.invokestatic idx, 3)) (hm : MN μ.1.cls idx 5 ν) (hdd : d1 + 1 ≤ d) (h8 : (st.map fun v => v.category).sum ≤ 8) (hcl : Cl g d1 c1 n1 ν [x1, x2, x3, x4, x5] m (KN g μ d c n (pc + 3) ls st Q)) : Wp g μ d (c + c1) (n + n1) pc ls (x5 :: x4 :: x3 :: x2 :: x1 :: st) m Q := r_callN [x1, x2, x3, x4, x5] rfl hd hm hdd h8 hcl
theorem r_callV6 {idx a ci l : Nat} {x1 x2 x3 x4 x5 x6 : Value} (hd : decode μ.2.1 pc = .ok (.invokevirtual idx, 3)) (hm : MV μ.1.cls idx 6 ν) (hnone : μ.2.2.2.2 = none) (hci : ci < 13 ∧ RF ci = ν.1.cls) (hdd : d1 + 1 ≤ d) (h8 : (st.map fun v => v.category).sum ≤ 8) (ha : kdl m a = some (ci, l)) (hcl : Cl g d1 c1 n1 ν [.ref a, x1, x2, x3, x4, x5, x6] m (KQ g μ d c n (pc + 3) ls st Q)) : Wp g μ d (c + c1) (n + n1) pc ls (x6 :: x5 :: x4 :: x3 :: x2 :: x1 :: .ref a :: st) m Q := r_callV [x1, x2, x3, x4, x5, x6] rfl hd hm hnone ha hci hdd h8 hcl
theorem r_callI6 {idx a : Nat} {x1 x2 x3 x4 x5 x6 : Value} (hd : decode μ.2.1 pc = .ok (.invokespecial idx, 3)) (hm : MI μ.1.cls idx 6 ν) (hdd : d1 + 1 ≤ d) (h8 : (st.map fun v => v.category).sum ≤ 8) (ha : 4 ≤ a) (hcl : Cl g d1 c1 n1 ν [.ref a, x1, x2, x3, x4, x5, x6] m (KN g μ d c n (pc + 3) ls st Q)) : Wp g μ d (c + c1) (n + n1) pc ls (x6 :: x5 :: x4 :: x3 :: x2 :: x1 :: .ref a :: st) m Q := r_callI [x1, x2, x3, x4, x5, x6] rfl hd hm ha hdd h8 hcl
theorem r_callS6 {idx : Nat} {x1 x2 x3 x4 x5 x6 : Value} (hd : decode μ.2.1 pc = .ok (.invokestatic idx, 3)) (hm : MS μ.1.cls idx 6 ν) (hnone : μ.2.2.2.2 = none) (hdd : d1 + 1 ≤ d) (h8 : (st.map fun v => v.category).sum ≤ 8) (hcl : Cl g d1 c1 n1 ν [x1, x2, x3, x4, x5, x6] m (KQ g μ d c n (pc + 3) ls st Q)) : Wp g μ d (c + c1) (n + n1) pc ls (x6 :: x5 :: x4 :: x3 :: x2 :: x1 :: st) m Q := r_callS [x1, x2, x3, x4, x5, x6] rfl hd hm hnone hdd h8 hcl
theorem r_callN6 {idx : Nat} {x1 x2 x3 x4 x5 x6 : Value} (hd : decode μ.2.1 pc = .ok (.invokestatic idx, 3)) (hm : MN μ.1.cls idx 6 ν) (hdd : d1 + 1 ≤ d) (h8 : (st.map fun v => v.category).sum ≤ 8) (hcl : Cl g d1 c1 n1 ν [x1, x2, x3, x4, x5, x6] m (KN g μ d c n (pc + 3) ls st Q)) : Wp g μ d (c + c1) (n + n1) pc ls (x6 :: x5 :: x4 :: x3 :: x2 :: x1 :: st) m Q := r_callN [x1, x2, x3, x4, x5, x6] rfl hd hm hdd h8 hcl
theorem r_callS7 {idx : Nat} {x1 x2 x3 x4 x5 x6 x7 : Value} (hd : decode μ.2.1 pc = .ok (.invokestatic idx, 3)) (hm : MS μ.1.cls idx 7 ν) (hnone : μ.2.2.2.2 = none) (hdd : d1 + 1 ≤ d) (h8 : (st.map fun v => v.category).sum ≤ 8) (hcl : Cl g d1 c1 n1 ν [x1, x2, x3, x4, x5, x6, x7] m (KQ g μ d c n (pc + 3) ls st Q)) : Wp g μ d (c + c1) (n + n1) pc ls (x7 :: x6 :: x5 :: x4 :: x3 :: x2 :: x1 :: st) m Q := r_callS [x1, x2, x3, x4, x5, x6, x7] rfl hd hm hnone hdd h8 hcl
theorem r_callN7 {idx : Nat} {x1 x2 x3 x4 x5 x6 x7 : Value} (hd : decode μ.2.1 pc = .ok (.invokestatic idx, 3)) (hm : MN μ.1.cls idx 7 ν) (hdd : d1 + 1 ≤ d) (h8 : (st.map fun v => v.category).sum ≤ 8) (hcl : Cl g d1 c1 n1 ν [x1, x2, x3, x4, x5, x6, x7] m (KN g μ d c n (pc + 3) ls st Q)) : Wp g μ d (c + c1) (n + n1) pc ls (x7 :: x6 :: x5 :: x4 :: x3 :: x2 :: x1 :: st) m Q := r_callN [x1, x2, x3, x4, x5, x6, x7] rfl hd hm hdd h8 hcl
theorem r_callV7 {idx a ci l : Nat} {x1 x2 x3 x4 x5 x6 x7 : Value} (hd : decode μ.2.1 pc = .ok (.invokevirtual idx, 3)) (hm : MV μ.1.cls idx 7 ν) (hnone : μ.2.2.2.2 = none) (hci : ci < 13 ∧ RF ci = ν.1.cls) (hdd : d1 + 1 ≤ d) (h8 : (st.map fun v => v.category).sum ≤ 8) (ha : kdl m a = some (ci, l)) (hcl : Cl g d1 c1 n1 ν [.ref a, x1, x2, x3, x4, x5, x6, x7] m (KQ g μ d c n (pc + 3) ls st Q)) : Wp g μ d (c + c1) (n + n1) pc ls (x7 :: x6 :: x5 :: x4 :: x3 :: x2 :: x1 :: .ref a :: st) m Q := r_callV [x1, x2, x3, x4, x5, x6, x7] rfl hd hm hnone ha hci hdd h8 hcl
theorem r_callS8 {idx : Nat} {x1 x2 x3 x4 x5 x6 x7 x8 : Value} (hd : decode μ.2.1 pc = .ok (.invokestatic idx, 3)) (hm : MS μ.1.cls idx 8 ν) (hnone : μ.2.2.2.2 = none) (hdd : d1 + 1 ≤ d) (h8 : (st.map fun v => v.category).sum ≤ 8) (hcl : Cl g d1 c1 n1 ν [x1, x2, x3, x4, x5, x6, x7, x8] m (KQ g μ d c n (pc + 3) ls st Q)) : Wp g μ d (c + c1) (n + n1) pc ls (x8 :: x7 :: x6 :: x5 :: x4 :: x3 :: x2 :: x1 :: st) m Q := r_callS [x1, x2, x3, x4, x5, x6, x7, x8] rfl hd hm hnone hdd h8 hcl
theorem r_callN8 {idx : Nat} {x1 x2 x3 x4 x5 x6 x7 x8 : Value} (hd : decode μ.2.1 pc = .ok (.invokestatic idx, 3)) (hm : MN μ.1.cls idx 8 ν) (hdd : d1 + 1 ≤ d) (h8 : (st.map fun v => v.category).sum ≤ 8) (hcl : Cl g d1 c1 n1 ν [x1, x2, x3, x4, x5, x6, x7, x8] m (KN g μ d c n (pc + 3) ls st Q)) : Wp g μ d (c + c1) (n + n1) pc ls (x8 :: x7 :: x6 :: x5 :: x4 :: x3 :: x2 :: x1 :: st) m Q := r_callN [x1, x2, x3, x4, x5, x6, x7, x8] rfl hd hm hdd h8 hcl
theorem r_callV8 {idx a ci l : Nat} {x1 x2 x3 x4 x5 x6 x7 x8 : Value} (hd : decode μ.2.1 pc = .ok (.invokevirtual idx, 3)) (hm : MV μ.1.cls idx 8 ν) (hnone : μ.2.2.2.2 = none) (hci : ci < 13 ∧ RF ci = ν.1.cls) (hdd : d1 + 1 ≤ d) (h8 : (st.map fun v => v.category).sum ≤ 8) (ha : kdl m a = some (ci, l)) (hcl : Cl g d1 c1 n1 ν [.ref a, x1, x2, x3, x4, x5, x6, x7, x8] m (KQ g μ d c n (pc + 3) ls st Q)) : Wp g μ d (c + c1) (n + n1) pc ls (x8 :: x7 :: x6 :: x5 :: x4 :: x3 :: x2 :: x1 :: .ref a :: st) m Q := r_callV [x1, x2, x3, x4, x5, x6, x7, x8] rfl hd hm hnone ha hci hdd h8 hcl
theorem r_callS9 {idx : Nat} {x1 x2 x3 x4 x5 x6 x7 x8 x9 : Value} (hd : decode μ.2.1 pc = .ok (.invokestatic idx, 3)) (hm : MS μ.1.cls idx 9 ν) (hnone : μ.2.2.2.2 = none) (hdd : d1 + 1 ≤ d) (h8 : (st.map fun v => v.category).sum ≤ 8) (hcl : Cl g d1 c1 n1 ν [x1, x2, x3, x4, x5, x6, x7, x8, x9] m (KQ g μ d c n (pc + 3) ls st Q)) : Wp g μ d (c + c1) (n + n1) pc ls (x9 :: x8 :: x7 :: x6 :: x5 :: x4 :: x3 :: x2 :: x1 :: st) m Q := r_callS [x1, x2, x3, x4, x5, x6, x7, x8, x9] rfl hd hm hnone hdd h8 hcl
theorem r_callN9 {idx : Nat} {x1 x2 x3 x4 x5 x6 x7 x8 x9 : Value} (hd : decode μ.2.1 pc = .ok (.invokestatic idx, 3)) (hm : MN μ.1.cls idx 9 ν) (hdd : d1 + 1 ≤ d) (h8 : (st.map fun v => v.category).sum ≤ 8) (hcl : Cl g d1 c1 n1 ν [x1, x2, x3, x4, x5, x6, x7, x8, x9] m (KN g μ d c n (pc + 3) ls st Q)) : Wp g μ d (c + c1) (n + n1) pc ls (x9 :: x8 :: x7 :: x6 :: x5 :: x4 :: x3 :: x2 :: x1 :: st) m Q := r_callN [x1, x2, x3, x4, x5, x6, x7, x8, x9] rfl hd hm hdd h8 hcl
theorem r_callV9 {idx a ci l : Nat} {x1 x2 x3 x4 x5 x6 x7 x8 x9 : Value} (hd : decode μ.2.1 pc = .ok (.invokevirtual idx, 3)) (hm : MV μ.1.cls idx 9 ν) (hnone : μ.2.2.2.2 = none) (hci : ci < 13 ∧ RF ci = ν.1.cls) (hdd : d1 + 1 ≤ d) (h8 : (st.map fun v => v.category).sum ≤ 8) (ha : kdl m a = some (ci, l)) (hcl : Cl g d1 c1 n1 ν [.ref a, x1, x2, x3, x4, x5, x6, x7, x8, x9] m (KQ g μ d c n (pc + 3) ls st Q)) : Wp g μ d (c + c1) (n + n1) pc ls (x9 :: x8 :: x7 :: x6 :: x5 :: x4 :: x3 :: x2 :: x1 :: .ref a :: st) m Q := r_callV [x1, x2, x3, x4, x5, x6, x7, x8, x9] rfl hd hm hnone ha hci hdd h8 hcl
end CR
