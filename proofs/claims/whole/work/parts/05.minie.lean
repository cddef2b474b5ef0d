theorem nx_mk (m : MM) (q : Nat × Nat) : nx (mk m q) = nx m + 1 := by simp [nx, mk, shp]
theorem wsO_mk {g : GG} {r : List Nat} {m : MM} {q : Nat × Nat} {z : Nat} (hl : r.length = (shp m).length) (hR : ∀ a k, ldR m a k < nx m) : wsO g (r ++ [z]) (mk m q) = wsO g r m ++ [(z, ent g (r ++ [z]) (mk m q) (nx m) q)] := by
  have hn : nx m = r.length + 4 := by unfold nx; rw [hl]
  unfold wsO
  rw [List.length_append, List.length_singleton, List.range_succ, List.map_append, List.map_singleton]
  congr 1
  · apply List.map_congr_left
    intro i hi
    have hi : i < r.length := List.mem_range.mp hi
    have e1 : (r ++ [z]).getD i 0 = r.getD i 0 := by simp only [List.getD_eq_getElem?_getD, List.getElem?_append_left hi]
    have e2 : (shp (mk m q)).getD i (0, 0) = (shp m).getD i (0, 0) := by
      show (shp m ++ [q]).getD i (0, 0) = _
      simp only [List.getD_eq_getElem?_getD, List.getElem?_append_left (show i < (shp m).length by omega)]
    have hne : i + 4 ≠ nx m := by omega
    rw [e1, e2, ent_congr (m := m) (m' := mk m q) (b := i + 4) (fun j => if_neg hne) (fun j => if_neg hne) (fun j => if_neg hne), ent_ext (List.prefix_append r [z]) (fun a k => by rw [← hn]; exact hR a k)]
  · have e1 : (r ++ [z]).getD r.length 0 = z := by simp
    have e2 : (shp (mk m q)).getD r.length (0, 0) = q := by
      show (shp m ++ [q]).getD r.length (0, 0) = _
      rw [hl]; simp
    rw [e1, e2, hn]
theorem Mem.push {g : GG} {r : List Nat} {m : MM} {H H1 : Heap} {q : Nat × Nat} {z : Nat} (M : Mem g r m H) (hP : va_P (gD g) vwCl (wsO g r m ++ [(z, ent g (r ++ [z]) (mk m q) (nx m) q)]) H1) (hD : va_D (gF g) (wsO g r m ++ [(z, ent g (r ++ [z]) (mk m q) (nx m) q)])) : Mem g (r ++ [z]) (mk m q) H1 := by
  have e := wsO_mk (g := g) (q := q) (z := z) M.2.2.1 M.2.2.2
  refine ⟨by rw [e]; exact hP, by rw [e]; exact hD, ?_, fun a k => ?_⟩
  · show (r ++ [z]).length = (shp m ++ [q]).length
    simp [M.2.2.1]
  · rw [nx_mk]
    show zr m.2.2.1 (nx m) 0 a k < nx m + 1
    unfold zr
    split
    · omega
    · exact Nat.lt_succ_of_lt (M.2.2.2 a k)
theorem Mem.len {g : GG} {r : List Nat} {m : MM} {H : Heap} (M : Mem g r m H) : nx m = r.length + 4 := by unfold nx; rw [M.2.2.1]
def dv (t : FieldType) : Value := match t with
  | .long => .long 0 | .object _ => .null | .array _ => .null | _ => .int 0
theorem dvOK : ∀ ci, ci < 13 → ∀ k, k < nF ci → defaultValue (tF ci k) = dv (tF ci k) := by decide +kernel
theorem zr_at {α : Type} {f : Nat → Nat → α} {a : Nat} {z : α} (j : Nat) : zr f a z a j = z := if_pos rfl
theorem fv_mk {g : GG} {r : List Nat} {m : MM} {q : Nat × Nat} {ty : FieldType} (k : Nat) : fv g r (mk m q) (nx m) ty k = dv ty := by
  have e1 : ldI (mk m q) (nx m) k = 0 := zr_at k
  have e2 : ldL (mk m q) (nx m) k = 0 := zr_at k
  have e3 : ldR (mk m q) (nx m) k = 0 := zr_at k
  cases ty <;> simp only [fv, dv, e1, e2, e3] <;> rfl
section AR
variable {g : GG} {μ : MD} {d c n pc : Nat} {ls st : List Value} {m : MM} {Q : Out → Prop}
theorem r_new {idx ci : Nat} (hd : decode μ.2.1 pc = .ok (.new idx, 3)) (hci : ci < 13) (hl : Cond.classLink μ.1.cls idx (RF ci) ∈ TB) (hi : Cond.instantiable (RF ci) (nF ci) ∈ TB) (h0 : Cond.initialized (RF ci) ∈ TB)
    (kk : Wp g μ d c n (pc + 3) ls (.ref (nx m) :: st) (mk m (ci, 0)) Q) : Wp g μ d (c + 1) (n + nF ci) pc ls st m Q := by
  intro p e R s mid args below meth cd r0 r H locs cells slots la hs
  obtain ⟨C, M, S, hr, hls, hst, hla, hc, hn⟩ := hs
  refine va_new (fs := (List.range (nF ci)).map (fun k => dv (tF ci k))) C.1 C.2.1 C.hts (inTB ci hci) (tF ci) (tyOK ci hci) C.own (C.hts _ hl) (C.hts _ hi) (C.hts _ h0) C.kn.1 M.1 M.2.1 S (fun q h => Nat.le_trans C.vs.1 h) (cl_at ci hci) (fun j hj => by rw [dvOK ci hci j hj]; simp [vp_V, hj]) (by omega) (by omega) hd (fun z H1 hP1 hD1 hS1 => ?_)
  have hE : ent g (r ++ [z]) (mk m (ci, 0)) (nx m) (ci, 0) = .inr (ci, (List.range (nF ci)).map (fun k => dv (tF ci k))) := by
    rw [ent_o hci]
    congr 2
    exact List.map_congr_left fun k _ => fv_mk k
  have hpre : r <+: r ++ [z] := List.prefix_append r [z]
  have hlen := M.len
  have K := kk p e R s mid args below meth cd r0 (r ++ [z]) H1 locs (cells + 1) (slots + nF ci) la ⟨C, M.push (by rw [hE]; exact hP1) (by rw [hE]; exact hD1), hS1, hr.trans hpre, okl_mono (by rw [nx_mk]; omega) hls, okl_cr (show nx m < nx (mk m (ci, 0)) by rw [nx_mk]; omega) (okl_mono (by rw [nx_mk]; omega) hst), by rw [lvF_ext hpre ls 0 (by rw [← hlen]; exact hls)]; exact hla, by omega, by omega⟩
  have e1 : cv g (r ++ [z]) (.ref (nx m)) = .ref z := by rw [hlen]; simp [cv, rf, va_rf]
  rw [List.map_cons, e1, cvl_ext hpre (by rw [← hlen]; exact hst)] at K
  exact K
theorem cA_eq {U : State} {tys : List (ClassId × FieldType)} {cl : List vw_C} {D : va_G} {cA cB : ClassId} {ty : FieldType} (hty : ∀ C, ty ≠ .object C) (h1 : va_RA U cA ty) (h2 : va_RA U cB ty) : cA = cB := by
  cases ty with
  | object C => exact absurd rfl (hty C)
  | _ => exact Option.some.inj (h1.symm.trans h2)
theorem cA_eqO {U : State} {cA cB : ClassId} {C : String} (h1 : va_RA U cA (.object C)) (h2 : va_RA U cB (.object C)) : cA = cB := by
  obtain ⟨_, _, _, _, _, f1⟩ := h1
  obtain ⟨_, _, _, _, _, f2⟩ := h2
  exact Option.some.inj (f1.symm.trans f2)
/-- behind the making of an array -/
theorem made {z kd l : Nat} {E : va_E} {p : Program} {e : Env} {R : Room} {s : State} {mid : MethodId} {args : Array Value} {below : List Frame} {meth : Method} {cd : Code} {r0 r : List Nat} {H H1 : Heap} {locs locs1 : List Loc} {cells slots N' : Nat} {la : Array Slot} {v : Int32} {N : Nat} {len : Nat}
    (kk : Wp g μ d c n (pc + len) ls (.ref (nx m) :: st) (mk m (kd, l)) Q) (hs : Sit g μ d (c + 1) (n + N) ls (.int v :: st) m p e R s mid args meth cd r0 r H locs cells slots la) (hN : N' ≤ N)
    (hE : ∀ r', ent g r' (mk m (kd, l)) (nx m) (kd, l) = E) (hP1 : va_P (gD g) vwCl (wsO g r m ++ [(z, E)]) H1) (hD1 : va_D (gF g) (wsO g r m ++ [(z, E)])) (hS1 : va_S (gF g) s.heap H1 locs1) :
    W p (gl g) e R s mid args below meth cd H1 locs1 (cells + 1) (slots + N') (vx_MQ below (QcO g r0 Q) (XcO g r0 Q) args s R.cells R.slots (gF g)) (F0 mid (pc + len) la (.ref z :: st.map (cv g r))) := by
  obtain ⟨C, M, S, hr, hls, hst, hla, hc, hn⟩ := hs
  have hpre : r <+: r ++ [z] := List.prefix_append r [z]
  have hlen := M.len
  have hst := okl_tail hst
  have K := kk p e R s mid args below meth cd r0 (r ++ [z]) H1 locs1 (cells + 1) (slots + N') la ⟨C, M.push (by rw [hE]; exact hP1) (by rw [hE]; exact hD1), hS1, hr.trans hpre, okl_mono (by rw [nx_mk]; omega) hls, okl_cr (show nx m < nx (mk m (kd, l)) by rw [nx_mk]; omega) (okl_mono (by rw [nx_mk]; omega) hst), by rw [lvF_ext hpre ls 0 (by rw [← hlen]; exact hls)]; exact hla, by omega, by omega⟩
  have e1 : cv g (r ++ [z]) (.ref (nx m)) = .ref z := by rw [hlen]; simp [cv, rf, va_rf]
  rw [List.map_cons, e1, cvl_ext hpre (by rw [← hlen]; exact hst)] at K
  exact K
theorem r_newI {v : Int32} (N : Nat) (hd : decode μ.2.1 pc = .ok (.newarray .int, 2)) (ht : Cond.arrayClass .int ∈ TB) (hv : ¬ v < 0) (hN : v.toNatClampNeg ≤ N) (hN2 : N ≤ 100000)
    (kk : Wp g μ d c n (pc + 2) ls (.ref (nx m) :: st) (mk m (13, v.toNatClampNeg)) Q) : Wp g μ d (c + 1) (n + N) pc ls (.int v :: st) m Q := by
  intro p e R s mid args below meth cd r0 r H locs cells slots la hs
  obtain ⟨C, M, S, hr, hls, hst, hla, hc, hn⟩ := id hs
  have hcb : v.toNatClampNeg * componentBytes .int ≤ 536870912 := by
    have : componentBytes .int = 4 := rfl
    rw [this]; omega
  refine va_newa (atype := .int) (ty := .int) (a0 := (v.toNatClampNeg, .inl (fun _ => 0))) C.1 C.2.1 (C.hts _ ht) rfl C.kn.1 M.1 M.2.1 S (fun q h => Nat.le_trans C.vs.1 h) (fun cA => rfl) hv rfl hcb (by omega) (by omega) hd (fun z cA H1 hK1 hP1 hD1 hS1 => ?_)
  have hcA : cA = gA g 0 := cA_eq (tys := []) (cl := []) (D := gD g) (fun C h => by cases h) (hK1.2 6 _ rfl).2 (C.kn.1.2 0 _ (gT_at g).1).2
  subst hcA
  refine made kk hs hN (fun r' => ?_) hP1 hD1 hS1
  rw [ent_i]
  congr 4
  funext j
  exact zr_at j
theorem r_newL {v : Int32} (N : Nat) (hd : decode μ.2.1 pc = .ok (.newarray .long, 2)) (ht : Cond.arrayClass .long ∈ TB) (hv : ¬ v < 0) (hN : v.toNatClampNeg ≤ N) (hN2 : N ≤ 100000)
    (kk : Wp g μ d c n (pc + 2) ls (.ref (nx m) :: st) (mk m (14, v.toNatClampNeg)) Q) : Wp g μ d (c + 1) (n + N) pc ls (.int v :: st) m Q := by
  intro p e R s mid args below meth cd r0 r H locs cells slots la hs
  obtain ⟨C, M, S, hr, hls, hst, hla, hc, hn⟩ := id hs
  have hcb : v.toNatClampNeg * componentBytes .long ≤ 536870912 := by
    have : componentBytes .long = 8 := rfl
    rw [this]; omega
  refine va_newa (atype := .long) (ty := .long) (a0 := (v.toNatClampNeg, .inr (.inl (fun _ => 0)))) C.1 C.2.1 (C.hts _ ht) rfl C.kn.1 M.1 M.2.1 S (fun q h => Nat.le_trans C.vs.1 h) (fun cA => rfl) hv rfl hcb (by omega) (by omega) hd (fun z cA H1 hK1 hP1 hD1 hS1 => ?_)
  have hcA : cA = gA g 1 := cA_eq (tys := []) (cl := []) (D := gD g) (fun C h => by cases h) (hK1.2 6 _ rfl).2 (C.kn.1.2 1 _ (gT_at g).2.1).2
  subst hcA
  refine made kk hs hN (fun r' => ?_) hP1 hD1 hS1
  rw [ent_l]
  congr 5
  funext j
  exact zr_at j
theorem kn_ao {U : State} (h : Kn g U) {q ci : Nat} (hq : elK q ci) : va_AO (RF ci) U := by
  obtain ⟨-, -, -, -, -, -, -, -, -, -, -, -, h13, h14, h15, -, -⟩ := h
  rcases hq with ⟨rfl, rfl⟩ | ⟨rfl, rfl⟩ | ⟨rfl, rfl⟩
  · exact h13
  · exact h14
  · exact h15
theorem r_newA {v : Int32} {idx q ci : Nat} (N : Nat) (hd : decode μ.2.1 pc = .ok (.anewarray idx, 3)) (hq : elK q ci) (hl : Cond.classLink μ.1.cls idx (RF ci) ∈ TB) (hv : ¬ v < 0) (hN : v.toNatClampNeg ≤ N) (hN2 : N ≤ 100000)
    (kk : Wp g μ d c n (pc + 3) ls (.ref (nx m) :: st) (mk m (q, v.toNatClampNeg)) Q) : Wp g μ d (c + 1) (n + N) pc ls (.int v :: st) m Q := by
  intro p e R s mid args below meth cd r0 r H locs cells slots la hs
  obtain ⟨C, M, S, hr, hls, hst, hla, hc, hn⟩ := id hs
  refine va_newq C.1 C.2.1 C.own (C.hts _ hl) (kn_ao C.kn hq) C.kn.1 M.1 M.2.1 S (fun q h => Nat.le_trans C.vs.1 h) hv rfl (by omega) (by omega) (by omega) hd (fun z cA H1 hK1 hP1 hD1 hS1 => ?_)
  have hq1 : 14 < q := by rcases hq with h | h | h <;> omega
  have hty : (gT g)[q - 13]? = some (gA g (q - 13), .object (RF ci)) := by rcases hq with ⟨rfl, rfl⟩ | ⟨rfl, rfl⟩ | ⟨rfl, rfl⟩ <;> rfl
  have hcA : cA = gA g (q - 13) := cA_eqO (hK1.2 6 _ rfl).2 (C.kn.1.2 _ _ hty).2
  subst hcA
  refine made kk hs hN (fun r' => ?_) hP1 hD1 hS1
  rw [ent_r hq1]
  congr 7
  funext j
  have e3 : ldR (mk m (q, v.toNatClampNeg)) (nx m) j = 0 := zr_at j
  rw [e3]; rfl
theorem r_objinit {idx a : Nat} (hd : decode μ.2.1 pc = .ok (.invokespecial idx, 3)) (h1 : Cond.methodLink μ.1.cls idx objectInit ∈ TB) (h2 : Cond.instanceMethod objectInit ∈ TB) (h3 : Cond.code objectInit ⟨#[0xb1]⟩ 1 none ∈ TB) (ha : 4 ≤ a) (hd0 : 1 ≤ d) (hst8 : (st.map fun v => v.category).sum ≤ 8)
    (kk : Wp g μ d c n (pc + 3) ls st m Q) : Wp g μ d c n pc ls (.ref a :: st) m Q := by
  intro p e R s mid args below meth cd r0 r H locs cells slots la hs
  obtain ⟨C, M, S, hr, hls, hst, hla, hc, hn⟩ := id hs
  have K := kk p e R s mid args below meth cd r0 r H locs cells slots la ⟨C, M, S, hr, hls, okl_tail hst, hla, hc, hn⟩
  obtain ⟨i, rfl⟩ : ∃ i, a = i + 4 := ⟨a - 4, by omega⟩
  rw [List.map_cons]
  have h8 : ((st.map (cv g r)).map fun v => v.category).sum ≤ 8 := by
    rw [List.map_map]
    have : (st.map ((fun v => v.category) ∘ cv g r)) = st.map fun v => v.category := List.map_congr_left fun v _ => cv_cat g r v
    rw [this]; exact hst8
  refine W.objInit C.1 C.2.1 C.own (C.hts _ h1) (C.hts _ h2) (C.hts _ h3) rfl (by rw [C.2.2.2.1]; exact hla.1) rfl hd (Nat.le_trans hd0 C.fr.1) ?_ K
  have := C.fr.2
  show 2 * 0 + ((st.map (cv g r)).map fun v => v.category).sum + 12 ≤ R.locals
  omega
-- ends
theorem r_ireturn {x : Int32} {ty : FieldType} (hd : decode μ.2.1 pc = .ok (.ireturn, 1)) (hr : μ.2.2.2.1 = some ty) (hn0 : narrow ty (.int x) = .int x) (k : Q (.inl (some (.int x)), m)) : Wp g μ d c n pc ls [.int x] m Q := by
  intro p e R s mid args below meth cd r0 r H locs cells slots la hs
  obtain ⟨C, M, S, hr0, hls, hst, hla, hc, hn⟩ := id hs
  refine vx_ret (W.widen (k := R.cells) (n := R.slots) (by omega) (by omega) ?_)
  exact W.zret (ty := ty) C.1 C.2.1 (C.2.2.1.trans hr) hn0 (fun t ht hW => ⟨r, some (.int x), m, rfl, k, by rw [ht]; exact M, by rw [ht]; exact vsG C.vs S, hr0, hst, by rw [ht]; exact S.1⟩) S.2.2 hd C.locks
theorem r_lreturn {x : Int64} (hd : decode μ.2.1 pc = .ok (.lreturn, 1)) (hr : μ.2.2.2.1 = some .long) (k : Q (.inl (some (.long x)), m)) : Wp g μ d c n pc ls [.long x] m Q := by
  intro p e R s mid args below meth cd r0 r H locs cells slots la hs
  obtain ⟨C, M, S, hr0, hls, hst, hla, hc, hn⟩ := id hs
  refine vx_ret (W.widen (k := R.cells) (n := R.slots) (by omega) (by omega) ?_)
  exact W.lret C.1 C.2.1 (C.2.2.1.trans hr) (fun t ht hW => ⟨r, some (.long x), m, rfl, k, by rw [ht]; exact M, by rw [ht]; exact vsG C.vs S, hr0, hst, by rw [ht]; exact S.1⟩) S.2.2 hd C.locks
theorem r_areturn {x : Nat} {ty : FieldType} (hd : decode μ.2.1 pc = .ok (.areturn, 1)) (hr : μ.2.2.2.1 = some ty) (hty : isR ty = true) (k : Q (.inl (some (.ref x)), m)) : Wp g μ d c n pc ls [.ref x] m Q := by
  intro p e R s mid args below meth cd r0 r H locs cells slots la hs
  obtain ⟨C, M, S, hr0, hls, hst, hla, hc, hn⟩ := id hs
  refine vx_ret (W.widen (k := R.cells) (n := R.slots) (by omega) (by omega) ?_)
  have h1 : (∃ n, ty = .object n) ∨ ∃ t, ty = .array t := by
    cases ty <;> first | exact Or.inl ⟨_, rfl⟩ | exact Or.inr ⟨_, rfl⟩ | (simp [isR] at hty)
  have h2 : cv g r (.ref x) = .null ∨ ∃ z, cv g r (.ref x) = .ref z := match x with
    | 0 => Or.inl rfl
    | 1 => Or.inr ⟨_, rfl⟩
    | 2 => Or.inr ⟨_, rfl⟩
    | 3 => Or.inr ⟨_, rfl⟩
    | x + 4 => Or.inr ⟨_, rfl⟩
  exact W.aret C.1 C.2.1 (C.2.2.1.trans hr) h1 h2 (fun t ht hW => ⟨r, some (.ref x), m, rfl, k, by rw [ht]; exact M, by rw [ht]; exact vsG C.vs S, hr0, hst, by rw [ht]; exact S.1⟩) S.2.2 hd C.locks
theorem r_return (hd : decode μ.2.1 pc = .ok (.return_, 1)) (hr : μ.2.2.2.1 = none) (k : Q (.inl none, m)) : Wp g μ d c n pc ls [] m Q := by
  intro p e R s mid args below meth cd r0 r H locs cells slots la hs
  obtain ⟨C, M, S, hr0, hls, hst, hla, hc, hn⟩ := id hs
  refine vx_ret (W.widen (k := R.cells) (n := R.slots) (by omega) (by omega) ?_)
  exact W.vret C.1 C.2.1 (C.2.2.1.trans hr) (fun t ht hW => ⟨r, none, m, rfl, k, by rw [ht]; exact M, by rw [ht]; exact vsG C.vs S, hr0, hst, by rw [ht]; exact S.1⟩) S.2.2 hd C.locks
end AR
