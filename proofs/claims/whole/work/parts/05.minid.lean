theorem ws_tb (ws : List Cond) (ps : List Nat) (hp : ws = ps.filterMap (fun i => lw_tbl[i]?)) (h : ws.all goodWord = true) : ∀ w ∈ ws, w ∈ TB := by
  intro w hw
  have h1 := List.all_eq_true.mp h w hw
  rw [hp] at hw
  obtain ⟨i, -, hi⟩ := List.mem_filterMap.mp hw
  exact tb_in (List.mem_of_getElem? hi) h1
theorem lays_X0 : ∀ w ∈ u_ws RX0 TX0 9, w ∈ TB := ws_tb _ [392, 394, 396, 398, 400, 402, 404, 406, 408] (by decide +kernel) (by decide +kernel)
theorem lays_X1 : ∀ w ∈ u_ws RX1 TX1 4, w ∈ TB := ws_tb _ [139, 141, 143, 145] (by decide +kernel) (by decide +kernel)
theorem lays_X2 : ∀ w ∈ u_ws RX2 TX2 6, w ∈ TB := ws_tb _ [368, 370, 372, 374, 376, 378] (by decide +kernel) (by decide +kernel)
theorem lays_X3 : ∀ w ∈ u_ws RX3 TX3 1, w ∈ TB := ws_tb _ [893] (by decide +kernel) (by decide +kernel)
theorem lays_X4 : ∀ w ∈ u_ws RX4 TX4 11, w ∈ TB := ws_tb _ [278, 280, 282, 284, 286, 288, 290, 292, 294, 296, 298] (by decide +kernel) (by decide +kernel)
theorem lays_X5 : ∀ w ∈ u_ws RX5 TX5 2, w ∈ TB := ws_tb _ [157, 159] (by decide +kernel) (by decide +kernel)
theorem lays_X6 : ∀ w ∈ u_ws RX6 TX6 6, w ∈ TB := ws_tb _ [188, 190, 192, 194, 196, 198] (by decide +kernel) (by decide +kernel)
theorem lays_X7 : ∀ w ∈ u_ws RX7 TX7 2, w ∈ TB := ws_tb _ [311, 313] (by decide +kernel) (by decide +kernel)
theorem lays_X8 : ∀ w ∈ u_ws RX8 TX8 1, w ∈ TB := ws_tb _ [210] (by decide +kernel) (by decide +kernel)
theorem lays_X9 : ∀ w ∈ u_ws RX9 TX9 6, w ∈ TB := ws_tb _ [336, 338, 340, 342, 344, 346] (by decide +kernel) (by decide +kernel)
theorem lays_X10 : ∀ w ∈ u_ws RX10 TX10 11, w ∈ TB := ws_tb _ [235, 237, 239, 241, 243, 245, 247, 249, 251, 253, 255] (by decide +kernel) (by decide +kernel)
theorem lays_X11 : ∀ w ∈ u_ws RX11 TX11 9, w ∈ TB := ws_tb _ [420, 422, 424, 426, 428, 430, 432, 434, 436] (by decide +kernel) (by decide +kernel)
theorem lays_X12 : ∀ w ∈ u_ws RX12 TX12 45, w ∈ TB := ws_tb _ [1452, 1454, 1456, 1458, 1460, 1462, 1464, 1466, 1468, 1470, 1472, 1474, 1476, 1478, 1480, 1482, 1484, 1486, 1488, 1490, 1492, 1494, 1496, 1498, 1500, 1502, 1504, 1506, 1508, 1510, 1512, 1514, 1516, 1518, 1520, 1522, 1524, 1526, 1528, 1530, 1532, 1534, 1536, 1538, 1540] (by decide +kernel) (by decide +kernel)
def RF : Nat → String := fun c => match c with
  | 0 => RX0 | 1 => RX1 | 2 => RX2 | 3 => RX3 | 4 => RX4 | 5 => RX5 | 6 => RX6 | 7 => RX7 | 8 => RX8 | 9 => RX9 | 10 => RX10 | 11 => RX11 | _ => RX12
def TFu : Nat → u_T := fun c => match c with
  | 0 => TX0 | 1 => TX1 | 2 => TX2 | 3 => TX3 | 4 => TX4 | 5 => TX5 | 6 => TX6 | 7 => TX7 | 8 => TX8 | 9 => TX9 | 10 => TX10 | 11 => TX11 | _ => TX12
theorem cl_at : ∀ ci, ci < 13 → vwCl[ci]? = some (RF ci, TFu ci, nF ci) := fun ci h => match ci, h with
  | 0, _ => rfl
  | 1, _ => rfl
  | 2, _ => rfl
  | 3, _ => rfl
  | 4, _ => rfl
  | 5, _ => rfl
  | 6, _ => rfl
  | 7, _ => rfl
  | 8, _ => rfl
  | 9, _ => rfl
  | 10, _ => rfl
  | 11, _ => rfl
  | 12, _ => rfl
  | q + 13, h => absurd h (by omega)
theorem inTB : ∀ ci, ci < 13 → ∀ w ∈ u_ws (RF ci) (TFu ci) (nF ci), w ∈ TB := fun ci h => match ci, h with
  | 0, _ => lays_X0
  | 1, _ => lays_X1
  | 2, _ => lays_X2
  | 3, _ => lays_X3
  | 4, _ => lays_X4
  | 5, _ => lays_X5
  | 6, _ => lays_X6
  | 7, _ => lays_X7
  | 8, _ => lays_X8
  | 9, _ => lays_X9
  | 10, _ => lays_X10
  | 11, _ => lays_X11
  | 12, _ => lays_X12
  | q + 13, h => absurd h (by omega)
theorem tyOK : ∀ ci, ci < 13 → ∀ k, k < nF ci → parseFieldDescriptor (TFu ci k).2.2.1 = some (tF ci k) := fun ci h => match ci, h with
  | 0, _ => tyX0_ok
  | 1, _ => tyX1_ok
  | 2, _ => tyX2_ok
  | 3, _ => tyX3_ok
  | 4, _ => tyX4_ok
  | 5, _ => tyX5_ok
  | 6, _ => tyX6_ok
  | 7, _ => tyX7_ok
  | 8, _ => tyX8_ok
  | 9, _ => tyX9_ok
  | 10, _ => tyX10_ok
  | 11, _ => tyX11_ok
  | 12, _ => tyX12_ok
  | q + 13, h => absurd h (by omega)
theorem nmOK : ∀ ci, ci < 13 → ∀ a, a < nF ci → ∀ b, b < nF ci → a ≠ b → (TFu ci a).2.1 ≠ (TFu ci b).2.1 := fun ci h => match ci, h with
  | 0, _ => nmX0
  | 1, _ => nmX1
  | 2, _ => nmX2
  | 3, _ => nmX3
  | 4, _ => nmX4
  | 5, _ => nmX5
  | 6, _ => nmX6
  | 7, _ => nmX7
  | 8, _ => nmX8
  | 9, _ => nmX9
  | 10, _ => nmX10
  | 11, _ => nmX11
  | 12, _ => nmX12
  | q + 13, h => absurd h (by omega)
def isI (t : FieldType) : Bool := match t with
  | .long => false | .object _ => false | .array _ => false | _ => true
def isR (t : FieldType) : Bool := match t with
  | .object _ => true | .array _ => true | _ => false
theorem fv_I {g : GG} {r : List Nat} {m : MM} {a k : Nat} {ty : FieldType} (h : isI ty = true) : fv g r m a ty k = .int (ldI m a k) := by
  cases ty <;> first | rfl | (simp [isI] at h)
theorem fv_R {g : GG} {r : List Nat} {m : MM} {a k : Nat} {ty : FieldType} (h : isR ty = true) : fv g r m a ty k = cv g r (.ref (ldR m a k)) := by
  cases ty <;> first | rfl | (simp [isR] at h)
theorem Ctx.own {g : GG} {μ : MD} {d : Nat} {p : Program} {e : Env} {R : Room} {s : State} {mid : MethodId} {args : Array Value} {meth : Method} {c : Code} (C : Ctx g μ d p e R s mid args meth c) : s.vm.findClass μ.1.cls = some mid.cls := C.2.2.2.2.1
theorem Ctx.hts {g : GG} {μ : MD} {d : Nat} {p : Program} {e : Env} {R : Room} {s : State} {mid : MethodId} {args : Array Value} {meth : Method} {c : Code} (C : Ctx g μ d p e R s mid args meth c) : ∀ w ∈ TB, w.before args s = true := C.2.2.2.2.2.1
theorem Ctx.locks {g : GG} {μ : MD} {d : Nat} {p : Program} {e : Env} {R : Room} {s : State} {mid : MethodId} {args : Array Value} {meth : Method} {c : Code} (C : Ctx g μ d p e R s mid args meth c) : meth.locks = false := C.2.2.2.2.2.2.1
theorem Ctx.name {g : GG} {μ : MD} {d : Nat} {p : Program} {e : Env} {R : Room} {s : State} {mid : MethodId} {args : Array Value} {meth : Method} {c : Code} (C : Ctx g μ d p e R s mid args meth c) : meth.name = μ.1.name := C.2.2.2.2.2.2.2.1
theorem Ctx.table {g : GG} {μ : MD} {d : Nat} {p : Program} {e : Env} {R : Room} {s : State} {mid : MethodId} {args : Array Value} {meth : Method} {c : Code} (C : Ctx g μ d p e R s mid args meth c) : c.exceptionTable.toList = tableOf (μ.2.2.2.2.getD []) := C.2.2.2.2.2.2.2.2.1
theorem Ctx.fr {g : GG} {μ : MD} {d : Nat} {p : Program} {e : Env} {R : Room} {s : State} {mid : MethodId} {args : Array Value} {meth : Method} {c : Code} (C : Ctx g μ d p e R s mid args meth c) : d ≤ R.frames ∧ 64 * d ≤ R.locals := ⟨C.2.2.2.2.2.2.2.2.2.1, C.2.2.2.2.2.2.2.2.2.2.1⟩
theorem Ctx.kn {g : GG} {μ : MD} {d : Nat} {p : Program} {e : Env} {R : Room} {s : State} {mid : MethodId} {args : Array Value} {meth : Method} {c : Code} (C : Ctx g μ d p e R s mid args meth c) : Kn g s := C.2.2.2.2.2.2.2.2.2.2.2.1
theorem Ctx.vs {g : GG} {μ : MD} {d : Nat} {p : Program} {e : Env} {R : Room} {s : State} {mid : MethodId} {args : Array Value} {meth : Method} {c : Code} (C : Ctx g μ d p e R s mid args meth c) : va_S (gF g) (gH g) s.heap [] := C.2.2.2.2.2.2.2.2.2.2.2.2
theorem Ctx.nb {g : GG} {μ : MD} {d : Nat} {p : Program} {e : Env} {R : Room} {s : State} {mid : MethodId} {args : Array Value} {meth : Method} {c : Code} (C : Ctx g μ d p e R s mid args meth c) {w : Cond} (h : w ∈ NB) : w.before args s = true := by
  have h1 := C.kn.2.2.2.2.2.2.2.1 w h
  have h2 := (List.mem_filter.mp h).2
  refine va_Nw.use ?_ h1
  cases w <;> first | rfl | (simp [nbk] at h2)
theorem Mem.at {g : GG} {r : List Nat} {m : MM} {H : Heap} {a : Nat} {q : Nat × Nat} (M : Mem g r m H) (h : kdl m a = some q) : ∃ i, a = i + 4 ∧ (wsO g r m)[i]? = some (r.getD i 0, ent g r m a q) ∧ cv g r (.ref a) = .ref (r.getD i 0) ∧ (shp m)[i]? = some q := by
  obtain ⟨i, rfl, h1, h2⟩ := kdl_inv h
  exact ⟨i, rfl, wsO_at M.2.2.1 h1, rfl, h1⟩
theorem ent_o {g : GG} {r : List Nat} {m : MM} {a ci l : Nat} (h : ci < 13) : ent g r m a (ci, l) = .inr (ci, (List.range (nF ci)).map (fun k => fv g r m a (tF ci k) k)) := if_pos h
theorem ent_i {g : GG} {r : List Nat} {m : MM} {a l : Nat} : ent g r m a (13, l) = .inl (gA g 0, l, .inl (fun j => ldI m a j)) := rfl
theorem ent_l {g : GG} {r : List Nat} {m : MM} {a l : Nat} : ent g r m a (14, l) = .inl (gA g 1, l, .inr (.inl (fun j => ldL m a j))) := rfl
theorem ent_r {g : GG} {r : List Nat} {m : MM} {a l k : Nat} (h : 14 < k) : ent g r m a (k, l) = .inl (gA g (k - 13), l, .inr (.inr (.inr (.inr (fun j => rf g r (ldR m a j)))))) := by
  unfold ent
  rw [if_neg (by omega), if_neg (by omega), if_neg (by omega)]
theorem fs_set {N k : Nat} {f f' : Nat → Value} {x : Value} (hk : k < N) (h1 : f' k = x) (h2 : ∀ j, j ≠ k → f' j = f j) : (List.range N).map f' = ((List.range N).map f).set k x := by
  apply List.ext_getElem?
  intro j
  rw [List.getElem?_set]
  by_cases e : k = j
  · subst e
    rw [if_pos rfl, if_pos (by simpa using hk), List.getElem?_map, List.getElem?_range hk, Option.map_some, h1]
  · rw [if_neg e, List.getElem?_map, List.getElem?_map]
    by_cases hj : j < N
    · rw [List.getElem?_range hj, Option.map_some, Option.map_some, h2 j (fun q => e q.symm)]
    · rw [List.getElem?_eq_none (by simpa using hj)]; rfl
/-- a pool entry of a class is this field -/
def FL (own : String) (idx ci k : Nat) : Prop := ci < 13 ∧ k < nF ci ∧ (Cond.fieldLink own idx (TFu ci k).1 (TFu ci k).2.1 (TFu ci k).2.2.1 ∈ TB ∨ ∃ host, Cond.fieldLinkNest own idx (TFu ci k).1 (TFu ci k).2.1 (TFu ci k).2.2.1 host ∈ NB)
/-- .. and this method may write it -/
def FP (y : MethodName) (idx ci k : Nat) : Prop := ci < 13 ∧ k < nF ci ∧ ((Cond.fieldLink y.cls idx (TFu ci k).1 (TFu ci k).2.1 (TFu ci k).2.2.1 ∈ TB ∧ (TFu ci k).2.2.2 = false) ∨ (∃ host, Cond.fieldLinkNest y.cls idx (TFu ci k).1 (TFu ci k).2.1 (TFu ci k).2.2.1 host ∈ NB ∧ (TFu ci k).2.2.2 = false) ∨
  (Cond.fieldLink y.cls idx (TFu ci k).1 (TFu ci k).2.1 (TFu ci k).2.2.1 ∈ TB ∧ (TFu ci k).2.2.2 = true ∧ y.name = "<init>" ∧ (TFu ci k).1 = y.cls))
section MR
variable {g : GG} {μ : MD} {d c n pc : Nat} {ls st : List Value} {m : MM} {Q : Out → Prop}
theorem r_get {idx ci k a l : Nat} {v : Value} (hd : decode μ.2.1 pc = .ok (.getfield idx, 3)) (hf : FL μ.1.cls idx ci k) (ha : kdl m a = some (ci, l)) (hv : ∀ r, fv g r m a (tF ci k) k = cv g r v) (hok : (∀ a k, ldR m a k < nx m) → okv (nx m) v)
    (kk : Wp g μ d c n (pc + 3) ls (v :: st) m Q) : Wp g μ d c n pc ls (.ref a :: st) m Q := by
  intro p e R s mid args below meth cd r0 r H locs cells slots la hs
  obtain ⟨C, M, S, hr, hl, hst, hla, hc, hn⟩ := hs
  obtain ⟨hci, hk, hlink⟩ := hf
  obtain ⟨i, rfl, hw, hcv, hq⟩ := M.at ha
  have K := kk p e R s mid args below meth cd r0 r H locs cells slots la ⟨C, M, S, hr, hl, okl_cons (hok M.2.2.2) (okl_tail hst), hla, hc, hn⟩
  rw [List.map_cons, ← hv r] at K
  rw [List.map_cons, hcv]
  rw [ent_o hci] at hw
  have hfs : ((List.range (nF ci)).map (fun k => fv g r m (i + 4) (tF ci k) k))[k]? = some (fv g r m (i + 4) (tF ci k) k) := by rw [List.getElem?_map, List.getElem?_range hk]; rfl
  rcases hlink with h | ⟨host, h⟩
  · exact va_get C.1 C.2.1 C.hts (inTB ci hci) C.own C.kn.1 M.1 i hw (cl_at ci hci) k hk (C.hts _ h) (fun _ h9 => h9) hfs hd K
  · exact va_getN C.1 C.2.1 C.hts (inTB ci hci) C.own C.kn.1 M.1 i hw (cl_at ci hci) k hk (C.nb h) (fun _ h9 => h9) hfs hd K
theorem r_getI {idx ci k a l : Nat} (hd : decode μ.2.1 pc = .ok (.getfield idx, 3)) (hf : FL μ.1.cls idx ci k) (hty : isI (tF ci k) = true) (ha : kdl m a = some (ci, l)) (kk : Wp g μ d c n (pc + 3) ls (.int (ldI m a k) :: st) m Q) : Wp g μ d c n pc ls (.ref a :: st) m Q := r_get (v := .int (ldI m a k)) hd hf ha (fun r => fv_I hty) (fun _ => trivial) kk
theorem r_getL {idx ci k a l : Nat} (hd : decode μ.2.1 pc = .ok (.getfield idx, 3)) (hf : FL μ.1.cls idx ci k) (hty : tF ci k = .long) (ha : kdl m a = some (ci, l)) (kk : Wp g μ d c n (pc + 3) ls (.long (ldL m a k) :: st) m Q) : Wp g μ d c n pc ls (.ref a :: st) m Q := r_get (v := .long (ldL m a k)) hd hf ha (fun r => by rw [hty]; rfl) (fun _ => trivial) kk
theorem r_getR {idx ci k a l : Nat} (hd : decode μ.2.1 pc = .ok (.getfield idx, 3)) (hf : FL μ.1.cls idx ci k) (hty : isR (tF ci k) = true) (ha : kdl m a = some (ci, l)) (kk : Wp g μ d c n (pc + 3) ls (.ref (ldR m a k) :: st) m Q) : Wp g μ d c n pc ls (.ref a :: st) m Q := r_get (v := .ref (ldR m a k)) hd hf ha (fun r => fv_R hty) (fun h => h a k) kk
theorem r_put {idx ci k a l : Nat} {v : Value} (m' : MM) (hd : decode μ.2.1 pc = .ok (.putfield idx, 3)) (hf : FP μ.1 idx ci k) (ha : kdl m a = some (ci, l)) (hs' : shp m' = shp m)
    (hne : ∀ b, b ≠ a → ∀ (r : List Nat) (q : Nat × Nat), ent g r m' b q = ent g r m b q) (hsame : ∀ (r : List Nat) (j : Nat), j ≠ k → fv g r m' a (tF ci j) j = fv g r m a (tF ci j) j) (hv : ∀ r, fv g r m' a (tF ci k) k = cv g r v)
    (hR : (∀ a k, ldR m a k < nx m) → okv (nx m) v → ∀ a k, ldR m' a k < nx m) (hnar : ∀ r, narrow (tF ci k) (cv g r v) = cv g r v) (hfit : ∀ r, fits (tF ci k) (cv g r v) = true)
    (kk : Wp g μ d c n (pc + 3) ls st m' Q) : Wp g μ d c n pc ls (v :: .ref a :: st) m Q := by
  intro p e R s mid args below meth cd r0 r H locs cells slots la hs
  obtain ⟨C, M, S, hr, hl, hst, hla, hc, hn⟩ := hs
  obtain ⟨hci, hk, hlink⟩ := hf
  obtain ⟨i, rfl, hw, hcv, hq⟩ := M.at ha
  have hnx : nx m' = nx m := by unfold nx; rw [hs']
  rw [ent_o hci] at hw
  have hset : ent g r m' (i + 4) (ci, l) = .inr (ci, ((List.range (nF ci)).map (fun k => fv g r m (i + 4) (tF ci k) k)).set k (cv g r v)) := by
    rw [ent_o hci, fs_set (f' := fun k => fv g r m' (i + 4) (tF ci k) k) hk (hv r) (fun j hj => hsame r j hj)]
  have K : ∀ (H1 : Heap) (locs1 : List Loc), va_P (gD g) vwCl ((wsO g r m).set i (r.getD i 0, .inr (ci, ((List.range (nF ci)).map (fun k => fv g r m (i + 4) (tF ci k) k)).set k (cv g r v)))) H1 → va_D (gF g) ((wsO g r m).set i (r.getD i 0, .inr (ci, ((List.range (nF ci)).map (fun k => fv g r m (i + 4) (tF ci k) k)).set k (cv g r v)))) → va_S (gF g) s.heap H1 locs1 → W p (gl g) e R s mid args below meth cd H1 locs1 cells slots (vx_MQ below (QcO g r0 Q) (XcO g r0 Q) args s R.cells R.slots (gF g)) (F0 mid (pc + 3) la (st.map (cv g r))) := by
    intro H1 locs1 hP1 hD1 hS1
    refine kk p e R s mid args below meth cd r0 r H1 locs1 cells slots la ⟨C, Mem.set hs' hq M.2.2.1 (fun b hb q' => hne b hb r q') (by rw [hnx]; exact hR M.2.2.2 (okl_head hst)) (by rw [hset]; exact hP1) (by rw [hset]; exact hD1), hS1, hr, by rw [hnx]; exact hl, by rw [hnx]; exact okl_tail (okl_tail hst), hla, hc, hn⟩
  rw [List.map_cons, List.map_cons, hcv]
  have hlen : k < ((List.range (nF ci)).map (fun k => fv g r m (i + 4) (tF ci k) k)).length := by simpa using hk
  rcases hlink with ⟨h, hfin⟩ | ⟨host, h, hfin⟩ | ⟨h, hfin, h1, h2⟩
  · exact va_put C.1 C.2.1 C.hts (inTB ci hci) (tF ci) (tyOK ci hci) (nmOK ci hci) C.own C.kn.1 M.1 M.2.1 S i hw (cl_at ci hci) k hk (C.hts _ h) (fun _ h9 => h9) hfin (tyOK ci hci k hk) (hnar r) (hfit r) hlen hd K
  · exact va_putN C.1 C.2.1 C.hts (inTB ci hci) (tF ci) (tyOK ci hci) (nmOK ci hci) C.own C.kn.1 M.1 M.2.1 S i hw (cl_at ci hci) k hk (C.nb h) (fun _ h9 => h9) hfin (tyOK ci hci k hk) (hnar r) (hfit r) hlen hd K
  · exact va_putF C.1 C.2.1 C.hts (inTB ci hci) (tF ci) (tyOK ci hci) (nmOK ci hci) C.own C.kn.1 M.1 M.2.1 S i hw (cl_at ci hci) k hk (C.hts _ h) (fun _ h9 => h9) hfin (C.name.trans h1) h2 (tyOK ci hci k hk) (hnar r) (hfit r) hlen hd K
theorem ent_stI {g : GG} {m : MM} {a k : Nat} {v : Int32} (b : Nat) (hb : b ≠ a) (r : List Nat) (q : Nat × Nat) : ent g r (stI m a k v) b q = ent g r m b q := ent_congr (fun j => up2_ne hb j) (fun _ => rfl) (fun _ => rfl)
theorem ent_stL {g : GG} {m : MM} {a k : Nat} {v : Int64} (b : Nat) (hb : b ≠ a) (r : List Nat) (q : Nat × Nat) : ent g r (stL m a k v) b q = ent g r m b q := ent_congr (fun _ => rfl) (fun j => up2_ne hb j) (fun _ => rfl)
theorem ent_stR {g : GG} {m : MM} {a k : Nat} {v : Nat} (b : Nat) (hb : b ≠ a) (r : List Nat) (q : Nat × Nat) : ent g r (stR m a k v) b q = ent g r m b q := ent_congr (fun _ => rfl) (fun _ => rfl) (fun j => up2_ne hb j)
theorem r_putI {idx ci k a l : Nat} {x : Int32} (hd : decode μ.2.1 pc = .ok (.putfield idx, 3)) (hf : FP μ.1 idx ci k) (hty : isI (tF ci k) = true) (ha : kdl m a = some (ci, l)) (hnar : narrow (tF ci k) (.int x) = .int x ∧ fits (tF ci k) (.int x) = true)
    (kk : Wp g μ d c n (pc + 3) ls st (stI m a k x) Q) : Wp g μ d c n pc ls (.int x :: .ref a :: st) m Q :=
  r_put (stI m a k x) hd hf ha rfl (fun b hb r q => ent_stI b hb r q) (fun r j hj => by
    cases tF ci j <;> first | rfl | exact congrArg Value.int (up2_nk hj a)) (fun r => by rw [fv_I hty]; exact congrArg Value.int up2_self) (fun h _ => h) (fun r => hnar.1) (fun r => hnar.2) kk
theorem r_putL {idx ci k a l : Nat} {x : Int64} (hd : decode μ.2.1 pc = .ok (.putfield idx, 3)) (hf : FP μ.1 idx ci k) (hty : tF ci k = .long) (ha : kdl m a = some (ci, l))
    (kk : Wp g μ d c n (pc + 3) ls st (stL m a k x) Q) : Wp g μ d c n pc ls (.long x :: .ref a :: st) m Q :=
  r_put (stL m a k x) hd hf ha rfl (fun b hb r q => ent_stL b hb r q) (fun r j hj => by
    cases tF ci j <;> first | rfl | exact congrArg Value.long (up2_nk hj a)) (fun r => by rw [hty]; exact congrArg Value.long up2_self) (fun h _ => h) (fun r => by rw [hty]; rfl) (fun r => by rw [hty]; rfl) kk
theorem cv_fits {g : GG} {ty : FieldType} (h : isR ty = true) (r : List Nat) (x : Nat) : narrow ty (cv g r (.ref x)) = cv g r (.ref x) ∧ fits ty (cv g r (.ref x)) = true := by
  have h1 : cv g r (.ref x) = .null ∨ ∃ z, cv g r (.ref x) = .ref z := match x with
    | 0 => Or.inl rfl
    | 1 => Or.inr ⟨_, rfl⟩
    | 2 => Or.inr ⟨_, rfl⟩
    | 3 => Or.inr ⟨_, rfl⟩
    | x + 4 => Or.inr ⟨_, rfl⟩
  rcases h1 with h1 | ⟨z, h1⟩ <;> rw [h1] <;> cases ty <;> first | exact ⟨rfl, rfl⟩ | (simp [isR] at h)
theorem r_putR {idx ci k a l : Nat} {x : Nat} (hd : decode μ.2.1 pc = .ok (.putfield idx, 3)) (hf : FP μ.1 idx ci k) (hty : isR (tF ci k) = true) (ha : kdl m a = some (ci, l))
    (kk : Wp g μ d c n (pc + 3) ls st (stR m a k x) Q) : Wp g μ d c n pc ls (.ref x :: .ref a :: st) m Q :=
  r_put (stR m a k x) hd hf ha rfl (fun b hb r q => ent_stR b hb r q) (fun r j hj => by
    cases tF ci j <;> first | rfl | exact congrArg (fun z => va_rf (rf g r z)) (up2_nk hj a)) (fun r => by rw [fv_R hty]; exact congrArg (fun z => cv g r (.ref z)) up2_self)
    (fun h hx a2 k2 => by
      show up2 m.2.2.1 a k x a2 k2 < nx m
      unfold up2
      split
      · exact hx
      · exact h a2 k2) (fun r => (cv_fits hty r x).1) (fun r => (cv_fits hty r x).2) kk
-- arrays
theorem gT_at (g : GG) : (gT g)[0]? = some (gA g 0, .int) ∧ (gT g)[1]? = some (gA g 1, .long) ∧ (gT g)[2]? = some (gA g 2, .object RX1) ∧ (gT g)[3]? = some (gA g 3, .object RX3) ∧ (gT g)[4]? = some (gA g 4, .object RX10) ∧ (gT g)[5]? = some (gA g 5, .array .int) := ⟨rfl, rfl, rfl, rfl, rfl, rfl⟩
theorem r_iaload {a l : Nat} {i : Int32} (hd : decode μ.2.1 pc = .ok (.iaload, 1)) (ha : kdl m a = some (13, l)) (hi : vp_in i l) (kk : Wp g μ d c n (pc + 1) ls (.int (ldI m a i.toNatClampNeg) :: st) m Q) : Wp g μ d c n pc ls (.int i :: .ref a :: st) m Q := by
  intro p e R s mid args below meth cd r0 r H locs cells slots la hs
  obtain ⟨C, M, S, hr, hl, hst, hla, hc, hn⟩ := hs
  obtain ⟨j, rfl, hw, hcv, hq⟩ := M.at ha
  have K := kk p e R s mid args below meth cd r0 r H locs cells slots la ⟨C, M, S, hr, hl, okl_ci (okl_tail (okl_tail hst)), hla, hc, hn⟩
  rw [List.map_cons, List.map_cons, hcv]
  exact va_iald C.1 C.2.1 C.kn.1 M.1 j 0 hw (gT_at g).1 hi hd K
theorem r_laload {a l : Nat} {i : Int32} (hd : decode μ.2.1 pc = .ok (.laload, 1)) (ha : kdl m a = some (14, l)) (hi : vp_in i l) (kk : Wp g μ d c n (pc + 1) ls (.long (ldL m a i.toNatClampNeg) :: st) m Q) : Wp g μ d c n pc ls (.int i :: .ref a :: st) m Q := by
  intro p e R s mid args below meth cd r0 r H locs cells slots la hs
  obtain ⟨C, M, S, hr, hl, hst, hla, hc, hn⟩ := hs
  obtain ⟨j, rfl, hw, hcv, hq⟩ := M.at ha
  have K := kk p e R s mid args below meth cd r0 r H locs cells slots la ⟨C, M, S, hr, hl, okl_cl (okl_tail (okl_tail hst)), hla, hc, hn⟩
  rw [List.map_cons, List.map_cons, hcv]
  exact va_lald C.1 C.2.1 C.kn.1 M.1 j 1 hw (gT_at g).2.1 hi hd K
theorem r_aaload {a l q : Nat} {i : Int32} (hd : decode μ.2.1 pc = .ok (.aaload, 1)) (hq0 : 14 < q ∧ q < 19) (ha : kdl m a = some (q, l)) (hi : vp_in i l) (kk : Wp g μ d c n (pc + 1) ls (.ref (ldR m a i.toNatClampNeg) :: st) m Q) : Wp g μ d c n pc ls (.int i :: .ref a :: st) m Q := by
  intro p e R s mid args below meth cd r0 r H locs cells slots la hs
  obtain ⟨C, M, S, hr, hl, hst, hla, hc, hn⟩ := hs
  obtain ⟨j, rfl, hw, hcv, hq⟩ := M.at ha
  have K := kk p e R s mid args below meth cd r0 r H locs cells slots la ⟨C, M, S, hr, hl, okl_cr (M.2.2.2 _ _) (okl_tail (okl_tail hst)), hla, hc, hn⟩
  rw [List.map_cons, List.map_cons, hcv]
  rw [ent_r hq0.1] at hw
  have hlt : i.toNatClampNeg < l := Nat.not_le.mp fun q => hi (Or.inr q)
  have ho : ∃ ty : FieldType, ty.isReference = true ∧ ArrOfT s (gA g (q - 13)) ty := by
    obtain ⟨t0, t1, t2, t3, t4, t5⟩ := gT_at g
    rcases (show q = 15 ∨ q = 16 ∨ q = 17 ∨ q = 18 by omega) with rfl | rfl | rfl | rfl
    · exact ⟨_, rfl, (C.kn.1.2 _ _ t2).1⟩
    · exact ⟨_, rfl, (C.kn.1.2 _ _ t3).1⟩
    · exact ⟨_, rfl, (C.kn.1.2 _ _ t4).1⟩
    · exact ⟨_, rfl, (C.kn.1.2 _ _ t5).1⟩
  obtain ⟨ty, h1, h2⟩ := ho
  exact W.aald (v := va_rf (rf g r (ldR m (j + 4) i.toNatClampNeg))) (ty := ty) C.1 C.2.1 (M.1 j _ hw) (h2 l (fun z => va_rf (rf g r (ldR m (j + 4) z)))) h1 (fun q => by cases q) (by show ¬ (i < 0 ∨ (arrV _ _ _).slots.size ≤ _); rw [arrV_size]; exact hi) (by show (arrV _ _ _).slots[_]? = _; rw [arrV_read _ _ hlt]) rfl rfl hd K
theorem r_iastore {a l : Nat} {i x : Int32} (hd : decode μ.2.1 pc = .ok (.iastore, 1)) (ha : kdl m a = some (13, l)) (hi : vp_in i l) (kk : Wp g μ d c n (pc + 1) ls st (stI m a i.toNatClampNeg x) Q) : Wp g μ d c n pc ls (.int x :: .int i :: .ref a :: st) m Q := by
  intro p e R s mid args below meth cd r0 r H locs cells slots la hs
  obtain ⟨C, M, S, hr, hl, hst, hla, hc, hn⟩ := hs
  obtain ⟨j, rfl, hw, hcv, hq⟩ := M.at ha
  rw [List.map_cons, List.map_cons, List.map_cons, hcv]
  have hset : ent g r (stI m (j + 4) i.toNatClampNeg x) (j + 4) (13, l) = .inl (gA g 0, l, .inl (upd (fun z => ldI m (j + 4) z) i.toNatClampNeg x)) := by
    rw [ent_i]
    congr 4
    funext z
    show up2 m.1 (j + 4) i.toNatClampNeg x (j + 4) z = upd (fun z => ldI m (j + 4) z) i.toNatClampNeg x z
    by_cases e : z = i.toNatClampNeg
    · subst e; rw [up2_self]; simp [upd]
    · rw [up2_nk e]; simp [upd, e]; rfl
  refine va_iast C.1 C.2.1 C.kn.1 M.1 M.2.1 S j 0 hw (gT_at g).1 hi hd (fun H1 locs1 hP1 hD1 hS1 => ?_)
  exact kk p e R s mid args below meth cd r0 r H1 locs1 cells slots la ⟨C, Mem.set (m := m) (q := (13, l)) rfl hq M.2.2.1 (fun b hb q' => ent_stI b hb r q') M.2.2.2 (by rw [hset]; exact hP1) (by rw [hset]; exact hD1), hS1, hr, hl, okl_tail (okl_tail (okl_tail hst)), hla, hc, hn⟩
theorem r_lastore {a l : Nat} {i : Int32} {x : Int64} (hd : decode μ.2.1 pc = .ok (.lastore, 1)) (ha : kdl m a = some (14, l)) (hi : vp_in i l) (kk : Wp g μ d c n (pc + 1) ls st (stL m a i.toNatClampNeg x) Q) : Wp g μ d c n pc ls (.long x :: .int i :: .ref a :: st) m Q := by
  intro p e R s mid args below meth cd r0 r H locs cells slots la hs
  obtain ⟨C, M, S, hr, hl, hst, hla, hc, hn⟩ := hs
  obtain ⟨j, rfl, hw, hcv, hq⟩ := M.at ha
  rw [List.map_cons, List.map_cons, List.map_cons, hcv]
  have hset : ent g r (stL m (j + 4) i.toNatClampNeg x) (j + 4) (14, l) = .inl (gA g 1, l, .inr (.inl (vp_updL (fun z => ldL m (j + 4) z) i.toNatClampNeg x))) := by
    rw [ent_l]
    congr 5
    funext z
    show up2 m.2.1 (j + 4) i.toNatClampNeg x (j + 4) z = vp_updL (fun z => ldL m (j + 4) z) i.toNatClampNeg x z
    by_cases e : z = i.toNatClampNeg
    · subst e; rw [up2_self]; simp [vp_updL]
    · rw [up2_nk e]; simp [vp_updL, e]; rfl
  refine va_last C.1 C.2.1 C.kn.1 M.1 M.2.1 S j 1 hw (gT_at g).2.1 hi hd (fun H1 locs1 hP1 hD1 hS1 => ?_)
  exact kk p e R s mid args below meth cd r0 r H1 locs1 cells slots la ⟨C, Mem.set (m := m) (q := (14, l)) rfl hq M.2.2.1 (fun b hb q' => ent_stL b hb r q') M.2.2.2 (by rw [hset]; exact hP1) (by rw [hset]; exact hD1), hS1, hr, hl, okl_tail (okl_tail (okl_tail hst)), hla, hc, hn⟩
/-- which class an array of objects is of -/
def elK (q ci : Nat) : Prop := (q = 15 ∧ ci = 1) ∨ (q = 16 ∧ ci = 3) ∨ (q = 17 ∧ ci = 10)
theorem r_aastore {a l q ci l2 : Nat} {i : Int32} {x : Nat} (hd : decode μ.2.1 pc = .ok (.aastore, 1)) (hq0 : elK q ci) (ha : kdl m a = some (q, l)) (hx : kdl m x = some (ci, l2)) (hi : vp_in i l) (kk : Wp g μ d c n (pc + 1) ls st (stR m a i.toNatClampNeg x) Q) : Wp g μ d c n pc ls (.ref x :: .int i :: .ref a :: st) m Q := by
  intro p e R s mid args below meth cd r0 r H locs cells slots la hs
  obtain ⟨C, M, S, hr, hl, hst, hla, hc, hn⟩ := hs
  obtain ⟨j, rfl, hw, hcv, hq⟩ := M.at ha
  obtain ⟨z, rfl, hw2, hcv2, hq2⟩ := M.at hx
  rw [List.map_cons, List.map_cons, List.map_cons, hcv, hcv2]
  have hq1 : 14 < q := by rcases hq0 with h | h | h <;> omega
  have hci : ci < 13 := by rcases hq0 with h | h | h <;> omega
  have hty : (gT g)[q - 13]? = some (gA g (q - 13), .object (RF ci)) := by rcases hq0 with ⟨rfl, rfl⟩ | ⟨rfl, rfl⟩ | ⟨rfl, rfl⟩ <;> rfl
  rw [ent_r hq1] at hw
  rw [ent_o hci] at hw2
  have hset : ent g r (stR m (j + 4) i.toNatClampNeg (z + 4)) (j + 4) (q, l) = .inl (gA g (q - 13), l, .inr (.inr (.inr (.inr (va_up (fun w => rf g r (ldR m (j + 4) w)) i.toNatClampNeg (some (r.getD z 0))))))) := by
    rw [ent_r hq1]
    congr 7
    funext w
    show rf g r (up2 m.2.2.1 (j + 4) i.toNatClampNeg (z + 4) (j + 4) w) = va_up (fun w => rf g r (ldR m (j + 4) w)) i.toNatClampNeg (some (r.getD z 0)) w
    by_cases e : w = i.toNatClampNeg
    · subst e; rw [up2_self, va_up_self]; rfl
    · rw [up2_nk e, va_up_ne _ _ e]; rfl
  refine va_astq C.1 C.2.1 C.kn.1 M.1 M.2.1 S j (q - 13) z ci hw hty hw2 (cl_at ci hci) hi hd (fun H1 locs1 hP1 hD1 hS1 => ?_)
  have hok : z + 4 < nx m := okl_head hst
  exact kk p e R s mid args below meth cd r0 r H1 locs1 cells slots la ⟨C, Mem.set (m := m) (q := (q, l)) rfl hq M.2.2.1 (fun b hb q' => ent_stR b hb r q') (fun a2 k2 => by
      show up2 m.2.2.1 (j + 4) i.toNatClampNeg (z + 4) a2 k2 < nx m
      unfold up2
      split
      · exact hok
      · exact M.2.2.2 a2 k2) (by rw [hset]; exact hP1) (by rw [hset]; exact hD1), hS1, hr, hl, okl_tail (okl_tail (okl_tail hst)), hla, hc, hn⟩
theorem r_alen {a l q : Nat} (v : Int32) (hd : decode μ.2.1 pc = .ok (.arraylength, 1)) (hq0 : 12 < q ∧ q < 19) (ha : kdl m a = some (q, l)) (hv : Int32.ofNat l = v) (kk : Wp g μ d c n (pc + 1) ls (.int v :: st) m Q) : Wp g μ d c n pc ls (.ref a :: st) m Q := by
  intro p e R s mid args below meth cd r0 r H locs cells slots la hs
  obtain ⟨C, M, S, hr, hl, hst, hla, hc, hn⟩ := hs
  obtain ⟨j, rfl, hw, hcv, hq⟩ := M.at ha
  have K := kk p e R s mid args below meth cd r0 r H locs cells slots la ⟨C, M, S, hr, hl, okl_ci (okl_tail hst), hla, hc, hn⟩
  rw [List.map_cons, hcv]
  obtain ⟨t0, t1, t2, t3, t4, t5⟩ := gT_at g
  rcases (show q = 13 ∨ q = 14 ∨ q = 15 ∨ q = 16 ∨ q = 17 ∨ q = 18 by omega) with rfl | rfl | rfl | rfl | rfl | rfl
  · exact va_alen C.1 C.2.1 C.kn.1 M.1 j 0 hw t0 hv hd K
  · exact va_alen C.1 C.2.1 C.kn.1 M.1 j 1 hw t1 hv hd K
  · rw [ent_r (by decide)] at hw; exact va_alen C.1 C.2.1 C.kn.1 M.1 j 2 hw t2 hv hd K
  · rw [ent_r (by decide)] at hw; exact va_alen C.1 C.2.1 C.kn.1 M.1 j 3 hw t3 hv hd K
  · rw [ent_r (by decide)] at hw; exact va_alen C.1 C.2.1 C.kn.1 M.1 j 4 hw t4 hv hd K
  · rw [ent_r (by decide)] at hw; exact va_alen C.1 C.2.1 C.kn.1 M.1 j 5 hw t5 hv hd K
/-- the script -/
theorem r_sld {i : Int32} (hd : decode μ.2.1 pc = .ok (.iaload, 1)) (hi : vp_in i (gL g)) (kk : Wp g μ d c n (pc + 1) ls (.int (gX g i.toNatClampNeg) :: st) m Q) : Wp g μ d c n pc ls (.int i :: .ref 1 :: st) m Q := by
  intro p e R s mid args below meth cd r0 r H locs cells slots la hs
  obtain ⟨C, M, S, hr, hl, hst, hla, hc, hn⟩ := hs
  have K := kk p e R s mid args below meth cd r0 r H locs cells slots la ⟨C, M, S, hr, hl, okl_ci (okl_tail (okl_tail hst)), hla, hc, hn⟩
  have hA : ¬ gF g (gS g) := Nat.not_le.mpr C.kn.2.2.1
  have hS2 : va_S (gF g) (gH g) H [] := vsG C.vs S
  exact va_sld C.1 C.2.1 C.kn.2.1 C.kn.2.2.1 hA ⟨hS2.1, hS2.2.1, fun z hz => S.2.2 z hz⟩ hi hd K
theorem r_slen (v : Int32) (hv : Int32.ofNat (gL g) = v) (hd : decode μ.2.1 pc = .ok (.arraylength, 1)) (kk : Wp g μ d c n (pc + 1) ls (.int v :: st) m Q) : Wp g μ d c n pc ls (.ref 1 :: st) m Q := by
  intro p e R s mid args below meth cd r0 r H locs cells slots la hs
  obtain ⟨C, M, S, hr, hl, hst, hla, hc, hn⟩ := hs
  subst hv
  have K := kk p e R s mid args below meth cd r0 r H locs cells slots la ⟨C, M, S, hr, hl, okl_ci (okl_tail hst), hla, hc, hn⟩
  have hA : ¬ gF g (gS g) := Nat.not_le.mpr C.kn.2.2.1
  have hS2 : va_S (gF g) (gH g) H [] := vsG C.vs S
  exact va_slen C.1 C.2.1 C.kn.2.1 C.kn.2.2.1 hA ⟨hS2.1, hS2.2.1, fun z hz => S.2.2 z hz⟩ hd K
end MR

