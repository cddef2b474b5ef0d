section RL
variable {g : GG} {μ : MD} {d c n pc : Nat} {ls st : List Value} {m : MM} {Q : Out → Prop}
theorem Wp.go {pc' : Nat} {st' : List Value} (hok : okl (nx m) ls → okl (nx m) st → okl (nx m) st')
    (h : ∀ (p : Program) (e : Env) (R : Room) (s : State) (mid : MethodId) (args : Array Value) (below : List Frame) (meth : Method) (cd : Code) (r : List Nat) (H : Heap) (locs : List Loc) (cells slots : Nat) (la : Array Slot) (Qm : State → Prop),
      Ctx g μ d p e R s mid args meth cd → lv_has la μ.2.2.1 (lvF g r 0 ls) → W p (gl g) e R s mid args below meth cd H locs cells slots Qm (F0 mid pc' la (st'.map (cv g r))) → W p (gl g) e R s mid args below meth cd H locs cells slots Qm (F0 mid pc la (st.map (cv g r))))
    (k : Wp g μ d c n pc' ls st' m Q) : Wp g μ d c n pc ls st m Q := by
  intro p e R s mid args below meth cd r0 r H locs cells slots la hs
  obtain ⟨C, M, S, hr, hl, hst, hla, hc, hn⟩ := hs
  exact h p e R s mid args below meth cd r H locs cells slots la _ C hla (k p e R s mid args below meth cd r0 r H locs cells slots la ⟨C, M, S, hr, hl, hok hl hst, hla, hc, hn⟩)
theorem Wp.br {pt pf : Nat} {st' : List Value} {A : Prop} (hok : okl (nx m) st → okl (nx m) st')
    (h : ∀ (p : Program) (e : Env) (R : Room) (s : State) (mid : MethodId) (args : Array Value) (below : List Frame) (meth : Method) (cd : Code) (r : List Nat) (H : Heap) (locs : List Loc) (cells slots : Nat) (la : Array Slot) (Qm : State → Prop),
      Ctx g μ d p e R s mid args meth cd → (A → W p (gl g) e R s mid args below meth cd H locs cells slots Qm (F0 mid pt la (st'.map (cv g r)))) → (¬ A → W p (gl g) e R s mid args below meth cd H locs cells slots Qm (F0 mid pf la (st'.map (cv g r)))) → W p (gl g) e R s mid args below meth cd H locs cells slots Qm (F0 mid pc la (st.map (cv g r))))
    (kt : A → Wp g μ d c n pt ls st' m Q) (kf : ¬ A → Wp g μ d c n pf ls st' m Q) : Wp g μ d c n pc ls st m Q := by
  intro p e R s mid args below meth cd r0 r H locs cells slots la hs
  obtain ⟨C, M, S, hr, hl, hst, hla, hc, hn⟩ := hs
  exact h p e R s mid args below meth cd r H locs cells slots la _ C (fun a => kt a p e R s mid args below meth cd r0 r H locs cells slots la ⟨C, M, S, hr, hl, hok hst, hla, hc, hn⟩) (fun a => kf a p e R s mid args below meth cd r0 r H locs cells slots la ⟨C, M, S, hr, hl, hok hst, hla, hc, hn⟩)
theorem cv_cat (g : GG) (r : List Nat) (v : Value) : (cv g r v).category = v.category := by
  cases v with
  | ref a => match a with
    | 0 => rfl
    | 1 => rfl
    | 2 => rfl
    | 3 => rfl
    | a + 4 => rfl
  | float b => exact (show (va_rf (gP g)).category = 1 by cases gP g <;> rfl)
  | _ => rfl
theorem r_iadd {x y : Int32} (hd : decode μ.2.1 pc = .ok (.iadd, 1)) (k : Wp g μ d c n (pc + 1) ls (.int (x + y) :: st) m Q) : Wp g μ d c n pc ls (.int y :: .int x :: st) m Q := Wp.go (fun _ h => (okl_ci (okl_tail (okl_tail h)))) (fun p e R s mid args below meth cd r H locs cells slots la Qm C hla w => lv_iadd C.1 C.2.1 hd  w) k
theorem r_isub {x y : Int32} (hd : decode μ.2.1 pc = .ok (.isub, 1)) (k : Wp g μ d c n (pc + 1) ls (.int (x - y) :: st) m Q) : Wp g μ d c n pc ls (.int y :: .int x :: st) m Q := Wp.go (fun _ h => (okl_ci (okl_tail (okl_tail h)))) (fun p e R s mid args below meth cd r H locs cells slots la Qm C hla w => lv_isub C.1 C.2.1 hd  w) k
theorem r_imul {x y : Int32} (hd : decode μ.2.1 pc = .ok (.imul, 1)) (k : Wp g μ d c n (pc + 1) ls (.int (x * y) :: st) m Q) : Wp g μ d c n pc ls (.int y :: .int x :: st) m Q := Wp.go (fun _ h => (okl_ci (okl_tail (okl_tail h)))) (fun p e R s mid args below meth cd r H locs cells slots la Qm C hla w => lv_imul C.1 C.2.1 hd  w) k
theorem r_iand {x y : Int32} (hd : decode μ.2.1 pc = .ok (.iand, 1)) (k : Wp g μ d c n (pc + 1) ls (.int (x &&& y) :: st) m Q) : Wp g μ d c n pc ls (.int y :: .int x :: st) m Q := Wp.go (fun _ h => (okl_ci (okl_tail (okl_tail h)))) (fun p e R s mid args below meth cd r H locs cells slots la Qm C hla w => lv_iand C.1 C.2.1 hd  w) k
theorem r_ior {x y : Int32} (hd : decode μ.2.1 pc = .ok (.ior, 1)) (k : Wp g μ d c n (pc + 1) ls (.int (x ||| y) :: st) m Q) : Wp g μ d c n pc ls (.int y :: .int x :: st) m Q := Wp.go (fun _ h => (okl_ci (okl_tail (okl_tail h)))) (fun p e R s mid args below meth cd r H locs cells slots la Qm C hla w => lv_ior C.1 C.2.1 hd  w) k
theorem r_ishl {x y : Int32} (hd : decode μ.2.1 pc = .ok (.ishl, 1)) (k : Wp g μ d c n (pc + 1) ls (.int (x <<< (y &&& 31)) :: st) m Q) : Wp g μ d c n pc ls (.int y :: .int x :: st) m Q := Wp.go (fun _ h => (okl_ci (okl_tail (okl_tail h)))) (fun p e R s mid args below meth cd r H locs cells slots la Qm C hla w => lv_ishl C.1 C.2.1 hd  w) k
theorem r_ishr {x y : Int32} (hd : decode μ.2.1 pc = .ok (.ishr, 1)) (k : Wp g μ d c n (pc + 1) ls (.int (x >>> (y &&& 31)) :: st) m Q) : Wp g μ d c n pc ls (.int y :: .int x :: st) m Q := Wp.go (fun _ h => (okl_ci (okl_tail (okl_tail h)))) (fun p e R s mid args below meth cd r H locs cells slots la Qm C hla w => lv_ishr C.1 C.2.1 hd  w) k
theorem r_iushr {x y : Int32} (hd : decode μ.2.1 pc = .ok (.iushr, 1)) (k : Wp g μ d c n (pc + 1) ls (.int ((x.toUInt32 >>> (y.toUInt32 &&& Int32.toUInt32 31)).toInt32) :: st) m Q) : Wp g μ d c n pc ls (.int y :: .int x :: st) m Q := Wp.go (fun _ h => (okl_ci (okl_tail (okl_tail h)))) (fun p e R s mid args below meth cd r H locs cells slots la Qm C hla w => lv_iushr C.1 C.2.1 hd rfl w) k
theorem r_idiv {x y : Int32} (hd : decode μ.2.1 pc = .ok (.idiv, 1)) (hne : ¬ y = 0) (k : Wp g μ d c n (pc + 1) ls (.int (x / y) :: st) m Q) : Wp g μ d c n pc ls (.int y :: .int x :: st) m Q := Wp.go (fun _ h => (okl_ci (okl_tail (okl_tail h)))) (fun p e R s mid args below meth cd r H locs cells slots la Qm C hla w => lv_idiv C.1 C.2.1 hd hne w) k
theorem r_irem {x y : Int32} (hd : decode μ.2.1 pc = .ok (.irem, 1)) (hne : ¬ y = 0) (k : Wp g μ d c n (pc + 1) ls (.int (x - x / y * y) :: st) m Q) : Wp g μ d c n pc ls (.int y :: .int x :: st) m Q := Wp.go (fun _ h => (okl_ci (okl_tail (okl_tail h)))) (fun p e R s mid args below meth cd r H locs cells slots la Qm C hla w => lv_irem C.1 C.2.1 hd hne w) k
theorem r_ineg {x : Int32} (hd : decode μ.2.1 pc = .ok (.ineg, 1)) (k : Wp g μ d c n (pc + 1) ls (.int (-x) :: st) m Q) : Wp g μ d c n pc ls (.int x :: st) m Q := Wp.go (fun _ h => (okl_ci (okl_tail h))) (fun p e R s mid args below meth cd r H locs cells slots la Qm C hla w => lv_ineg C.1 C.2.1 hd  w) k
theorem r_ladd {x y : Int64} (hd : decode μ.2.1 pc = .ok (.ladd, 1)) (k : Wp g μ d c n (pc + 1) ls (.long (x + y) :: st) m Q) : Wp g μ d c n pc ls (.long y :: .long x :: st) m Q := Wp.go (fun _ h => (okl_cl (okl_tail (okl_tail h)))) (fun p e R s mid args below meth cd r H locs cells slots la Qm C hla w => lv_ladd C.1 C.2.1 hd  w) k
theorem r_lsub {x y : Int64} (hd : decode μ.2.1 pc = .ok (.lsub, 1)) (k : Wp g μ d c n (pc + 1) ls (.long (x - y) :: st) m Q) : Wp g μ d c n pc ls (.long y :: .long x :: st) m Q := Wp.go (fun _ h => (okl_cl (okl_tail (okl_tail h)))) (fun p e R s mid args below meth cd r H locs cells slots la Qm C hla w => lv_lsub C.1 C.2.1 hd  w) k
theorem r_lmul {x y : Int64} (hd : decode μ.2.1 pc = .ok (.lmul, 1)) (k : Wp g μ d c n (pc + 1) ls (.long (x * y) :: st) m Q) : Wp g μ d c n pc ls (.long y :: .long x :: st) m Q := Wp.go (fun _ h => (okl_cl (okl_tail (okl_tail h)))) (fun p e R s mid args below meth cd r H locs cells slots la Qm C hla w => lv_lmul C.1 C.2.1 hd  w) k
theorem r_land {x y : Int64} (hd : decode μ.2.1 pc = .ok (.land, 1)) (k : Wp g μ d c n (pc + 1) ls (.long (x &&& y) :: st) m Q) : Wp g μ d c n pc ls (.long y :: .long x :: st) m Q := Wp.go (fun _ h => (okl_cl (okl_tail (okl_tail h)))) (fun p e R s mid args below meth cd r H locs cells slots la Qm C hla w => lv_land C.1 C.2.1 hd  w) k
theorem r_lor {x y : Int64} (hd : decode μ.2.1 pc = .ok (.lor, 1)) (k : Wp g μ d c n (pc + 1) ls (.long (x ||| y) :: st) m Q) : Wp g μ d c n pc ls (.long y :: .long x :: st) m Q := Wp.go (fun _ h => (okl_cl (okl_tail (okl_tail h)))) (fun p e R s mid args below meth cd r H locs cells slots la Qm C hla w => lv_lor C.1 C.2.1 hd  w) k
theorem r_ldiv {x y : Int64} (hd : decode μ.2.1 pc = .ok (.ldiv, 1)) (hne : ¬ y = 0) (k : Wp g μ d c n (pc + 1) ls (.long (x / y) :: st) m Q) : Wp g μ d c n pc ls (.long y :: .long x :: st) m Q := Wp.go (fun _ h => (okl_cl (okl_tail (okl_tail h)))) (fun p e R s mid args below meth cd r H locs cells slots la Qm C hla w => lv_ldiv C.1 C.2.1 hd hne w) k
theorem r_lneg {x : Int64} (hd : decode μ.2.1 pc = .ok (.lneg, 1)) (k : Wp g μ d c n (pc + 1) ls (.long (-x) :: st) m Q) : Wp g μ d c n pc ls (.long x :: st) m Q := Wp.go (fun _ h => (okl_cl (okl_tail h))) (fun p e R s mid args below meth cd r H locs cells slots la Qm C hla w => lv_lneg C.1 C.2.1 hd  w) k
theorem r_lshl {x : Int64} {y : Int32} (hd : decode μ.2.1 pc = .ok (.lshl, 1)) (k : Wp g μ d c n (pc + 1) ls (.long (x <<< (y.toInt64 &&& 63)) :: st) m Q) : Wp g μ d c n pc ls (.int y :: .long x :: st) m Q := Wp.go (fun _ h => (okl_cl (okl_tail (okl_tail h)))) (fun p e R s mid args below meth cd r H locs cells slots la Qm C hla w => lv_lshl C.1 C.2.1 hd rfl w) k
theorem r_i2l {x : Int32} (hd : decode μ.2.1 pc = .ok (.i2l, 1)) (k : Wp g μ d c n (pc + 1) ls (.long x.toInt64 :: st) m Q) : Wp g μ d c n pc ls (.int x :: st) m Q := Wp.go (fun _ h => (okl_cl (okl_tail h))) (fun p e R s mid args below meth cd r H locs cells slots la Qm C hla w => lv_i2l C.1 C.2.1 hd rfl w) k
theorem r_l2i {x : Int64} (hd : decode μ.2.1 pc = .ok (.l2i, 1)) (k : Wp g μ d c n (pc + 1) ls (.int x.toInt32 :: st) m Q) : Wp g μ d c n pc ls (.long x :: st) m Q := Wp.go (fun _ h => (okl_ci (okl_tail h))) (fun p e R s mid args below meth cd r H locs cells slots la Qm C hla w => lv_l2i C.1 C.2.1 hd rfl w) k
theorem r_i2c {x : Int32} (hd : decode μ.2.1 pc = .ok (.i2c, 1)) (k : Wp g μ d c n (pc + 1) ls (.int (x.toUInt32 % 65536).toInt32 :: st) m Q) : Wp g μ d c n pc ls (.int x :: st) m Q := Wp.go (fun _ h => (okl_ci (okl_tail h))) (fun p e R s mid args below meth cd r H locs cells slots la Qm C hla w => lv_i2c C.1 C.2.1 hd rfl w) k
theorem r_iconst {z : Int} (v : Int32) (hd : decode μ.2.1 pc = .ok (.iconst z, 1)) (hv : Int32.ofInt z = v) (k : Wp g μ d c n (pc + 1) ls (.int v :: st) m Q) : Wp g μ d c n pc ls (st) m Q := Wp.go (fun _ h => (okl_ci h)) (fun p e R s mid args below meth cd r H locs cells slots la Qm C hla w => lv_iconst C.1 C.2.1 hd hv w) k
theorem r_bipush {z : Int} (v : Int32) (hd : decode μ.2.1 pc = .ok (.bipush z, 2)) (hv : (Int8.ofInt z).toInt32 = v) (k : Wp g μ d c n (pc + 2) ls (.int v :: st) m Q) : Wp g μ d c n pc ls (st) m Q := Wp.go (fun _ h => (okl_ci h)) (fun p e R s mid args below meth cd r H locs cells slots la Qm C hla w => lv_bipush C.1 C.2.1 hd hv w) k
theorem r_sipush {z : Int} (v : Int32) (hd : decode μ.2.1 pc = .ok (.sipush z, 3)) (hv : (Int16.ofInt z).toInt32 = v) (k : Wp g μ d c n (pc + 3) ls (.int v :: st) m Q) : Wp g μ d c n pc ls (st) m Q := Wp.go (fun _ h => (okl_ci h)) (fun p e R s mid args below meth cd r H locs cells slots la Qm C hla w => lv_sipush C.1 C.2.1 hd hv w) k
theorem r_lconst {z : Fin 2} (v : Int64) (hd : decode μ.2.1 pc = .ok (.lconst z, 1)) (hv : Int64.ofNat (z : Nat) = v) (k : Wp g μ d c n (pc + 1) ls (.long v :: st) m Q) : Wp g μ d c n pc ls (st) m Q := Wp.go (fun _ h => (okl_cl h)) (fun p e R s mid args below meth cd r H locs cells slots la Qm C hla w => lv_lconst C.1 C.2.1 hd hv w) k
theorem r_null  (hd : decode μ.2.1 pc = .ok (.aconst_null, 1)) (k : Wp g μ d c n (pc + 1) ls (.ref 0 :: st) m Q) : Wp g μ d c n pc ls (st) m Q := Wp.go (fun _ h => (okl_cr (show 0 < nx m from Nat.succ_pos _) h)) (fun p e R s mid args below meth cd r H locs cells slots la Qm C hla w => lv_null C.1 C.2.1 hd  w) k
theorem r_ldc {i : Nat} (v : Int32) (hd : decode μ.2.1 pc = .ok (.ldc i, 2)) (hv : Cond.constant μ.1.cls i v ∈ TB) (k : Wp g μ d c n (pc + 2) ls (.int v :: st) m Q) : Wp g μ d c n pc ls st m Q := Wp.go (fun _ h => okl_ci h) (fun p e R s mid args below meth cd r H locs cells slots la Qm C hla w => lv_ldc C.1 C.2.1 C.2.2.2.2.1 (C.2.2.2.2.2.1 _ hv) hd w) k
theorem r_ldcw {i : Nat} (v : Int32) (hd : decode μ.2.1 pc = .ok (.ldc_w i, 3)) (hv : Cond.constant μ.1.cls i v ∈ TB) (k : Wp g μ d c n (pc + 3) ls (.int v :: st) m Q) : Wp g μ d c n pc ls st m Q := Wp.go (fun _ h => okl_ci h) (fun p e R s mid args below meth cd r H locs cells slots la Qm C hla w => lv_ldcw C.1 C.2.1 C.2.2.2.2.1 (C.2.2.2.2.2.1 _ hv) hd w) k
theorem r_ldc2 {i : Nat} (v : Int64) (hd : decode μ.2.1 pc = .ok (.ldc2_w i, 3)) (hv : Cond.constantLong μ.1.cls i v ∈ TB) (k : Wp g μ d c n (pc + 3) ls (.long v :: st) m Q) : Wp g μ d c n pc ls st m Q := Wp.go (fun _ h => okl_cl h) (fun p e R s mid args below meth cd r H locs cells slots la Qm C hla w => lv_ldc2 C.1 C.2.1 C.2.2.2.2.1 (C.2.2.2.2.2.1 _ hv) hd w) k
theorem r_dup {v : Value} (hd : decode μ.2.1 pc = .ok (.dup, 1)) (hc : v.category = 1) (k : Wp g μ d c n (pc + 1) ls (v :: v :: st) m Q) : Wp g μ d c n pc ls (v :: st) m Q := Wp.go (fun _ h => okl_cons (okl_head h) h) (fun p e R s mid args below meth cd r H locs cells slots la Qm C hla w => lv_dup C.1 C.2.1 hd (by rw [cv_cat]; exact hc) w) k
theorem r_pop {v : Value} (hd : decode μ.2.1 pc = .ok (.pop, 1)) (hc : v.category = 1) (k : Wp g μ d c n (pc + 1) ls st m Q) : Wp g μ d c n pc ls (v :: st) m Q := Wp.go (fun _ h => okl_tail h) (fun p e R s mid args below meth cd r H locs cells slots la Qm C hla w => lv_pop C.1 C.2.1 hd (by rw [cv_cat]; exact hc) w) k
theorem r_dup2 {v u : Value} (hd : decode μ.2.1 pc = .ok (.dup2, 1)) (hc : v.category = 1) (hc2 : u.category = 1) (k : Wp g μ d c n (pc + 1) ls (v :: u :: v :: u :: st) m Q) : Wp g μ d c n pc ls (v :: u :: st) m Q := Wp.go (fun _ h => okl_cons (okl_head h) (okl_cons (okl_head (okl_tail h)) h)) (fun p e R s mid args below meth cd r H locs cells slots la Qm C hla w => lv_dup2_11 C.1 C.2.1 hd (by rw [cv_cat]; exact hc) (by rw [cv_cat]; exact hc2) w) k
theorem r_goto {off : Int} (tgt : Nat) (hd : decode μ.2.1 pc = .ok (.goto off, 3)) (ht : (pc : Int) + off = (tgt : Int)) (k : Wp g μ d c n tgt ls st m Q) : Wp g μ d c n pc ls st m Q := Wp.go (fun _ h => h) (fun p e R s mid args below meth cd r H locs cells slots la Qm C hla w => lv_goto C.1 C.2.1 hd ht w) k
theorem r_iload {i : Nat} {x : Int32} (hd : decode μ.2.1 pc = .ok (.iload i, 2)) (hx : ls[i]? = some (.int x)) (k : Wp g μ d c n (pc + 2) ls (.int x :: st) m Q) : Wp g μ d c n pc ls st m Q := Wp.go (fun _ h => okl_ci h) (fun p e R s mid args below meth cd r H locs cells slots la Qm C hla w => lv_iload C.1 C.2.1 hd (lvF_get hla hx (fun a h => by cases h)) w) k
theorem r_iload_n {i : Fin 4} {x : Int32} (hd : decode μ.2.1 pc = .ok (.iload_n i, 1)) (hx : ls[(i : Nat)]? = some (.int x)) (k : Wp g μ d c n (pc + 1) ls (.int x :: st) m Q) : Wp g μ d c n pc ls st m Q := Wp.go (fun _ h => okl_ci h) (fun p e R s mid args below meth cd r H locs cells slots la Qm C hla w => lv_iload_n C.1 C.2.1 hd rfl (lvF_get hla hx (fun a h => by cases h)) w) k
theorem r_lload {i : Nat} {x : Int64} (hd : decode μ.2.1 pc = .ok (.lload i, 2)) (hx : ls[i]? = some (.long x)) (k : Wp g μ d c n (pc + 2) ls (.long x :: st) m Q) : Wp g μ d c n pc ls st m Q := Wp.go (fun _ h => okl_cl h) (fun p e R s mid args below meth cd r H locs cells slots la Qm C hla w => lv_lload C.1 C.2.1 hd (lvF_get hla hx (fun a h => by cases h)) w) k
theorem r_lload_n {i : Fin 4} {x : Int64} (hd : decode μ.2.1 pc = .ok (.lload_n i, 1)) (hx : ls[(i : Nat)]? = some (.long x)) (k : Wp g μ d c n (pc + 1) ls (.long x :: st) m Q) : Wp g μ d c n pc ls st m Q := Wp.go (fun _ h => okl_cl h) (fun p e R s mid args below meth cd r H locs cells slots la Qm C hla w => lv_lload_n C.1 C.2.1 hd rfl (lvF_get hla hx (fun a h => by cases h)) w) k
theorem okl_at {n : Nat} {l : List Value} {i : Nat} {v : Value} (h : okl n l) (hx : l[i]? = some v) : okv n v := h v (List.mem_of_getElem? hx)
theorem r_aload {i x : Nat} (hd : decode μ.2.1 pc = .ok (.aload i, 2)) (hx : ls[i]? = some (.ref x)) (k : Wp g μ d c n (pc + 2) ls (.ref x :: st) m Q) : Wp g μ d c n pc ls st m Q := Wp.go (fun hl h => okl_cr (okl_at hl hx) h) (fun p e R s mid args below meth cd r H locs cells slots la Qm C hla w => by
  have h1 := lvF_get hla hx (fun a h => by cases h)
  match x, h1, w with
  | 0, h1, w => exact lv_aloadN C.1 C.2.1 hd h1 w
  | 1, h1, w => exact lv_aload C.1 C.2.1 hd h1 w
  | 2, h1, w => exact lv_aload C.1 C.2.1 hd h1 w
  | 3, h1, w => exact lv_aload C.1 C.2.1 hd h1 w
  | x + 4, h1, w => exact lv_aload C.1 C.2.1 hd h1 w) k
theorem r_aload_n {i : Fin 4} {x : Nat} (hd : decode μ.2.1 pc = .ok (.aload_n i, 1)) (hx : ls[(i : Nat)]? = some (.ref x)) (k : Wp g μ d c n (pc + 1) ls (.ref x :: st) m Q) : Wp g μ d c n pc ls st m Q := Wp.go (fun hl h => okl_cr (okl_at hl hx) h) (fun p e R s mid args below meth cd r H locs cells slots la Qm C hla w => by
  have h1 := lvF_get hla hx (fun a h => by cases h)
  match x, h1, w with
  | 0, h1, w => exact lv_aload_nN C.1 C.2.1 hd rfl h1 w
  | 1, h1, w => exact lv_aload_n C.1 C.2.1 hd rfl h1 w
  | 2, h1, w => exact lv_aload_n C.1 C.2.1 hd rfl h1 w
  | 3, h1, w => exact lv_aload_n C.1 C.2.1 hd rfl h1 w
  | x + 4, h1, w => exact lv_aload_n C.1 C.2.1 hd rfl h1 w) k
theorem r_if_ne {x : Int32} {off : Int} (tgt : Nat) (hd : decode μ.2.1 pc = .ok (.ifCond .ne off, 3)) (ht : (pc : Int) + off = (tgt : Int)) (kt : ¬ x = 0 → Wp g μ d c n tgt ls st m Q) (kf : x = 0 → Wp g μ d c n (pc + 3) ls st m Q) : Wp g μ d c n pc ls (.int x :: st) m Q := Wp.br (fun h => okl_tail h) (fun p e R s mid args below meth cd r H locs cells slots la Qm C wt wf => lv_if_ne C.1 C.2.1 hd ht wf wt) kf kt
theorem r_icmp_ne {x y : Int32} {off : Int} (tgt : Nat) (hd : decode μ.2.1 pc = .ok (.if_icmp .ne off, 3)) (ht : (pc : Int) + off = (tgt : Int)) (kt : ¬ x = y → Wp g μ d c n tgt ls st m Q) (kf : x = y → Wp g μ d c n (pc + 3) ls st m Q) : Wp g μ d c n pc ls (.int y :: .int x :: st) m Q := Wp.br (fun h => okl_tail (okl_tail h)) (fun p e R s mid args below meth cd r H locs cells slots la Qm C wt wf => lv_icmp_ne C.1 C.2.1 hd ht wf wt) kf kt
theorem r_if_eq {x : Int32} {off : Int} (tgt : Nat) (hd : decode μ.2.1 pc = .ok (.ifCond .eq off, 3)) (ht : (pc : Int) + off = (tgt : Int)) (kt : x = 0 → Wp g μ d c n tgt ls st m Q) (kf : ¬ (x = 0) → Wp g μ d c n (pc + 3) ls st m Q) : Wp g μ d c n pc ls (.int x :: st) m Q := Wp.br (fun h => okl_tail h) (fun p e R s mid args below meth cd r H locs cells slots la Qm C wt wf => lv_if_eq C.1 C.2.1 hd ht wt wf) kt kf
theorem r_icmp_eq {x y : Int32} {off : Int} (tgt : Nat) (hd : decode μ.2.1 pc = .ok (.if_icmp .eq off, 3)) (ht : (pc : Int) + off = (tgt : Int)) (kt : x = y → Wp g μ d c n tgt ls st m Q) (kf : ¬ (x = y) → Wp g μ d c n (pc + 3) ls st m Q) : Wp g μ d c n pc ls (.int y :: .int x :: st) m Q := Wp.br (fun h => okl_tail (okl_tail h)) (fun p e R s mid args below meth cd r H locs cells slots la Qm C wt wf => lv_icmp_eq C.1 C.2.1 hd ht wt wf) kt kf
theorem r_if_lt {x : Int32} {off : Int} (tgt : Nat) (hd : decode μ.2.1 pc = .ok (.ifCond .lt off, 3)) (ht : (pc : Int) + off = (tgt : Int)) (kt : x < 0 → Wp g μ d c n tgt ls st m Q) (kf : ¬ (x < 0) → Wp g μ d c n (pc + 3) ls st m Q) : Wp g μ d c n pc ls (.int x :: st) m Q := Wp.br (fun h => okl_tail h) (fun p e R s mid args below meth cd r H locs cells slots la Qm C wt wf => lv_if_lt C.1 C.2.1 hd ht wt wf) kt kf
theorem r_icmp_lt {x y : Int32} {off : Int} (tgt : Nat) (hd : decode μ.2.1 pc = .ok (.if_icmp .lt off, 3)) (ht : (pc : Int) + off = (tgt : Int)) (kt : x < y → Wp g μ d c n tgt ls st m Q) (kf : ¬ (x < y) → Wp g μ d c n (pc + 3) ls st m Q) : Wp g μ d c n pc ls (.int y :: .int x :: st) m Q := Wp.br (fun h => okl_tail (okl_tail h)) (fun p e R s mid args below meth cd r H locs cells slots la Qm C wt wf => lv_icmp_lt C.1 C.2.1 hd ht wt wf) kt kf
theorem r_if_ge {x : Int32} {off : Int} (tgt : Nat) (hd : decode μ.2.1 pc = .ok (.ifCond .ge off, 3)) (ht : (pc : Int) + off = (tgt : Int)) (kt : 0 ≤ x → Wp g μ d c n tgt ls st m Q) (kf : ¬ (0 ≤ x) → Wp g μ d c n (pc + 3) ls st m Q) : Wp g μ d c n pc ls (.int x :: st) m Q := Wp.br (fun h => okl_tail h) (fun p e R s mid args below meth cd r H locs cells slots la Qm C wt wf => lv_if_ge C.1 C.2.1 hd ht wt wf) kt kf
theorem r_icmp_ge {x y : Int32} {off : Int} (tgt : Nat) (hd : decode μ.2.1 pc = .ok (.if_icmp .ge off, 3)) (ht : (pc : Int) + off = (tgt : Int)) (kt : y ≤ x → Wp g μ d c n tgt ls st m Q) (kf : ¬ (y ≤ x) → Wp g μ d c n (pc + 3) ls st m Q) : Wp g μ d c n pc ls (.int y :: .int x :: st) m Q := Wp.br (fun h => okl_tail (okl_tail h)) (fun p e R s mid args below meth cd r H locs cells slots la Qm C wt wf => lv_icmp_ge C.1 C.2.1 hd ht wt wf) kt kf
theorem r_if_gt {x : Int32} {off : Int} (tgt : Nat) (hd : decode μ.2.1 pc = .ok (.ifCond .gt off, 3)) (ht : (pc : Int) + off = (tgt : Int)) (kt : 0 < x → Wp g μ d c n tgt ls st m Q) (kf : ¬ (0 < x) → Wp g μ d c n (pc + 3) ls st m Q) : Wp g μ d c n pc ls (.int x :: st) m Q := Wp.br (fun h => okl_tail h) (fun p e R s mid args below meth cd r H locs cells slots la Qm C wt wf => lv_if_gt C.1 C.2.1 hd ht wt wf) kt kf
theorem r_icmp_gt {x y : Int32} {off : Int} (tgt : Nat) (hd : decode μ.2.1 pc = .ok (.if_icmp .gt off, 3)) (ht : (pc : Int) + off = (tgt : Int)) (kt : y < x → Wp g μ d c n tgt ls st m Q) (kf : ¬ (y < x) → Wp g μ d c n (pc + 3) ls st m Q) : Wp g μ d c n pc ls (.int y :: .int x :: st) m Q := Wp.br (fun h => okl_tail (okl_tail h)) (fun p e R s mid args below meth cd r H locs cells slots la Qm C wt wf => lv_icmp_gt C.1 C.2.1 hd ht wt wf) kt kf
theorem r_if_le {x : Int32} {off : Int} (tgt : Nat) (hd : decode μ.2.1 pc = .ok (.ifCond .le off, 3)) (ht : (pc : Int) + off = (tgt : Int)) (kt : x ≤ 0 → Wp g μ d c n tgt ls st m Q) (kf : ¬ (x ≤ 0) → Wp g μ d c n (pc + 3) ls st m Q) : Wp g μ d c n pc ls (.int x :: st) m Q := Wp.br (fun h => okl_tail h) (fun p e R s mid args below meth cd r H locs cells slots la Qm C wt wf => lv_if_le C.1 C.2.1 hd ht wt wf) kt kf
theorem r_icmp_le {x y : Int32} {off : Int} (tgt : Nat) (hd : decode μ.2.1 pc = .ok (.if_icmp .le off, 3)) (ht : (pc : Int) + off = (tgt : Int)) (kt : x ≤ y → Wp g μ d c n tgt ls st m Q) (kf : ¬ (x ≤ y) → Wp g μ d c n (pc + 3) ls st m Q) : Wp g μ d c n pc ls (.int y :: .int x :: st) m Q := Wp.br (fun h => okl_tail (okl_tail h)) (fun p e R s mid args below meth cd r H locs cells slots la Qm C wt wf => lv_icmp_le C.1 C.2.1 hd ht wt wf) kt kf
theorem lgc_eq (x y : Int64) : lg_cmp x y = 0 ↔ x = y := by
  unfold lg_cmp
  by_cases h1 : x > y
  · rw [if_pos h1]
    have h2 : ¬ x = y := fun e => by subst e; exact absurd h1 (Int64.lt_irrefl)
    exact ⟨fun h => absurd h (by decide), fun h => absurd h h2⟩
  · rw [if_neg h1]
    by_cases h2 : x = y
    · rw [if_pos h2]; exact ⟨fun _ => h2, fun _ => rfl⟩
    · rw [if_neg h2]; exact ⟨fun h => absurd h (by decide), fun h => absurd h h2⟩
theorem lgc_lt (x y : Int64) : lg_cmp x y < 0 ↔ x < y := by
  unfold lg_cmp
  by_cases h1 : x > y
  · rw [if_pos h1]
    exact ⟨fun h => absurd h (by decide), fun h => absurd h (Int64.lt_asymm h1)⟩
  · rw [if_neg h1]
    by_cases h2 : x = y
    · rw [if_pos h2]; exact ⟨fun h => absurd h (by decide), fun h => by subst h2; exact absurd h Int64.lt_irrefl⟩
    · rw [if_neg h2]; exact ⟨fun _ => by
        rw [gt_iff_lt, Int64.lt_iff_toInt_lt] at h1
        rw [Int64.lt_iff_toInt_lt]
        have h3 : ¬ x.toInt = y.toInt := fun e => h2 (Int64.toInt_inj.mp e)
        omega, fun _ => by decide⟩
theorem lgc_gt (x y : Int64) : 0 < lg_cmp x y ↔ y < x := by
  unfold lg_cmp
  by_cases h1 : x > y
  · rw [if_pos h1]
    exact ⟨fun _ => h1, fun _ => by decide⟩
  · rw [if_neg h1]
    by_cases h2 : x = y
    · rw [if_pos h2]; exact ⟨fun h => absurd h (by decide), fun h => absurd h h1⟩
    · rw [if_neg h2]; exact ⟨fun h => absurd h (by decide), fun h => absurd h h1⟩
theorem i32_nlt {a b : Int32} : ¬ a < b ↔ b ≤ a := by rw [Int32.lt_iff_toInt_lt, Int32.le_iff_toInt_le]; omega
theorem i64_nlt {a b : Int64} : ¬ a < b ↔ b ≤ a := by rw [Int64.lt_iff_toInt_lt, Int64.le_iff_toInt_le]; omega
theorem lgc_le (x y : Int64) : lg_cmp x y ≤ 0 ↔ x ≤ y := by rw [← i32_nlt, ← i64_nlt, lgc_gt]
theorem lgc_ge (x y : Int64) : 0 ≤ lg_cmp x y ↔ y ≤ x := by rw [← i32_nlt, ← i64_nlt, lgc_lt]
theorem lgc_ne (x y : Int64) : ¬ lg_cmp x y = 0 ↔ ¬ x = y := by rw [lgc_eq]
theorem r_lcmp_ne {x y : Int64} {off : Int} (tgt : Nat) (hd : decode μ.2.1 pc = .ok (.lcmp, 1)) (hd2 : decode μ.2.1 (pc + 1) = .ok (.ifCond .ne off, 3)) (ht : ((pc + 1 : Nat) : Int) + off = (tgt : Int)) (kt : ¬ x = y → Wp g μ d c n tgt ls st m Q) (kf : x = y → Wp g μ d c n (pc + 4) ls st m Q) : Wp g μ d c n pc ls (.long y :: .long x :: st) m Q := Wp.br (fun h => okl_tail (okl_tail h)) (fun p e R s mid args below meth cd r H locs cells slots la Qm C wt wf => W.lcmp C.1 C.2.1 hd (lv_if_ne C.1 C.2.1 hd2 ht (fun h => wf (fun h2 => h ((lgc_eq x y).mpr h2))) (fun h => wt ((lgc_eq x y).mp h)))) kf kt
theorem r_lcmp_eq {x y : Int64} {off : Int} (tgt : Nat) (hd : decode μ.2.1 pc = .ok (.lcmp, 1)) (hd2 : decode μ.2.1 (pc + 1) = .ok (.ifCond .eq off, 3)) (ht : ((pc + 1 : Nat) : Int) + off = (tgt : Int)) (kt : x = y → Wp g μ d c n tgt ls st m Q) (kf : ¬ (x = y) → Wp g μ d c n (pc + 4) ls st m Q) : Wp g μ d c n pc ls (.long y :: .long x :: st) m Q := Wp.br (fun h => okl_tail (okl_tail h)) (fun p e R s mid args below meth cd r H locs cells slots la Qm C wt wf => W.lcmp C.1 C.2.1 hd (lv_if_eq C.1 C.2.1 hd2 ht (fun h => wt ((lgc_eq x y).mp h)) (fun h => wf (fun h2 => h ((lgc_eq x y).mpr h2))))) kt kf
theorem r_lcmp_lt {x y : Int64} {off : Int} (tgt : Nat) (hd : decode μ.2.1 pc = .ok (.lcmp, 1)) (hd2 : decode μ.2.1 (pc + 1) = .ok (.ifCond .lt off, 3)) (ht : ((pc + 1 : Nat) : Int) + off = (tgt : Int)) (kt : x < y → Wp g μ d c n tgt ls st m Q) (kf : ¬ (x < y) → Wp g μ d c n (pc + 4) ls st m Q) : Wp g μ d c n pc ls (.long y :: .long x :: st) m Q := Wp.br (fun h => okl_tail (okl_tail h)) (fun p e R s mid args below meth cd r H locs cells slots la Qm C wt wf => W.lcmp C.1 C.2.1 hd (lv_if_lt C.1 C.2.1 hd2 ht (fun h => wt ((lgc_lt x y).mp h)) (fun h => wf (fun h2 => h ((lgc_lt x y).mpr h2))))) kt kf
theorem r_lcmp_ge {x y : Int64} {off : Int} (tgt : Nat) (hd : decode μ.2.1 pc = .ok (.lcmp, 1)) (hd2 : decode μ.2.1 (pc + 1) = .ok (.ifCond .ge off, 3)) (ht : ((pc + 1 : Nat) : Int) + off = (tgt : Int)) (kt : y ≤ x → Wp g μ d c n tgt ls st m Q) (kf : ¬ (y ≤ x) → Wp g μ d c n (pc + 4) ls st m Q) : Wp g μ d c n pc ls (.long y :: .long x :: st) m Q := Wp.br (fun h => okl_tail (okl_tail h)) (fun p e R s mid args below meth cd r H locs cells slots la Qm C wt wf => W.lcmp C.1 C.2.1 hd (lv_if_ge C.1 C.2.1 hd2 ht (fun h => wt ((lgc_ge x y).mp h)) (fun h => wf (fun h2 => h ((lgc_ge x y).mpr h2))))) kt kf
theorem r_lcmp_gt {x y : Int64} {off : Int} (tgt : Nat) (hd : decode μ.2.1 pc = .ok (.lcmp, 1)) (hd2 : decode μ.2.1 (pc + 1) = .ok (.ifCond .gt off, 3)) (ht : ((pc + 1 : Nat) : Int) + off = (tgt : Int)) (kt : y < x → Wp g μ d c n tgt ls st m Q) (kf : ¬ (y < x) → Wp g μ d c n (pc + 4) ls st m Q) : Wp g μ d c n pc ls (.long y :: .long x :: st) m Q := Wp.br (fun h => okl_tail (okl_tail h)) (fun p e R s mid args below meth cd r H locs cells slots la Qm C wt wf => W.lcmp C.1 C.2.1 hd (lv_if_gt C.1 C.2.1 hd2 ht (fun h => wt ((lgc_gt x y).mp h)) (fun h => wf (fun h2 => h ((lgc_gt x y).mpr h2))))) kt kf
theorem r_lcmp_le {x y : Int64} {off : Int} (tgt : Nat) (hd : decode μ.2.1 pc = .ok (.lcmp, 1)) (hd2 : decode μ.2.1 (pc + 1) = .ok (.ifCond .le off, 3)) (ht : ((pc + 1 : Nat) : Int) + off = (tgt : Int)) (kt : x ≤ y → Wp g μ d c n tgt ls st m Q) (kf : ¬ (x ≤ y) → Wp g μ d c n (pc + 4) ls st m Q) : Wp g μ d c n pc ls (.long y :: .long x :: st) m Q := Wp.br (fun h => okl_tail (okl_tail h)) (fun p e R s mid args below meth cd r H locs cells slots la Qm C wt wf => W.lcmp C.1 C.2.1 hd (lv_if_le C.1 C.2.1 hd2 ht (fun h => wt ((lgc_le x y).mp h)) (fun h => wf (fun h2 => h ((lgc_le x y).mpr h2))))) kt kf
theorem r_ifnull {x : Nat} {off : Int} (tgt : Nat) (hd : decode μ.2.1 pc = .ok (.ifnull off, 3)) (ht : (pc : Int) + off = (tgt : Int)) (kt : x = 0 → Wp g μ d c n tgt ls st m Q) (kf : ¬ x = 0 → Wp g μ d c n (pc + 3) ls st m Q) : Wp g μ d c n pc ls (.ref x :: st) m Q := Wp.br (fun h => okl_tail h) (fun p e R s mid args below meth cd r H locs cells slots la Qm C wt wf => by
  match x, wt, wf with
  | 0, wt, wf => exact lv_ifnullN C.1 C.2.1 hd ht (wt rfl)
  | 1, wt, wf => exact lv_ifnull C.1 C.2.1 hd (wf (by omega))
  | 2, wt, wf => exact lv_ifnull C.1 C.2.1 hd (wf (by omega))
  | 3, wt, wf => exact lv_ifnull C.1 C.2.1 hd (wf (by omega))
  | x + 4, wt, wf => exact lv_ifnull C.1 C.2.1 hd (wf (by omega))) kt kf
theorem r_ifnonnull {x : Nat} {off : Int} (tgt : Nat) (hd : decode μ.2.1 pc = .ok (.ifnonnull off, 3)) (ht : (pc : Int) + off = (tgt : Int)) (kt : ¬ x = 0 → Wp g μ d c n tgt ls st m Q) (kf : ¬ ¬ x = 0 → Wp g μ d c n (pc + 3) ls st m Q) : Wp g μ d c n pc ls (.ref x :: st) m Q := Wp.br (fun h => okl_tail h) (fun p e R s mid args below meth cd r H locs cells slots la Qm C wt wf => by
  match x, wt, wf with
  | 0, wt, wf => exact lv_ifnonnullN C.1 C.2.1 hd (wf (fun h => h rfl))
  | 1, wt, wf => exact lv_ifnonnull C.1 C.2.1 hd ht (wt (by omega))
  | 2, wt, wf => exact lv_ifnonnull C.1 C.2.1 hd ht (wt (by omega))
  | 3, wt, wf => exact lv_ifnonnull C.1 C.2.1 hd ht (wt (by omega))
  | x + 4, wt, wf => exact lv_ifnonnull C.1 C.2.1 hd ht (wt (by omega))) kt kf
theorem r_tabIn {dflt lo hi off : Int} {offs : Array Int} {len : Nat} {x : Int32} (tgt : Nat) (hd : decode μ.2.1 pc = .ok (.tableswitch dflt lo hi offs, len)) (h1 : ¬ x.toInt < lo) (h2 : ¬ hi < x.toInt) (ho : offs[(x.toInt - lo).toNat]? = some off) (ht : (pc : Int) + off = (tgt : Int)) (k : Wp g μ d c n tgt ls st m Q) : Wp g μ d c n pc ls (.int x :: st) m Q := Wp.go (fun _ h => okl_tail h) (fun p e R s mid args below meth cd r H locs cells slots la Qm C hla w => lv_tableIn C.1 C.2.1 hd h1 h2 ho ht w) k
theorem r_tabOut {dflt lo hi : Int} {offs : Array Int} {len : Nat} {x : Int32} (tgt : Nat) (hd : decode μ.2.1 pc = .ok (.tableswitch dflt lo hi offs, len)) (h : x.toInt < lo ∨ hi < x.toInt) (ht : (pc : Int) + dflt = (tgt : Int)) (k : Wp g μ d c n tgt ls st m Q) : Wp g μ d c n pc ls (.int x :: st) m Q := Wp.go (fun _ h => okl_tail h) (fun p e R s mid args below meth cd r H locs cells slots la Qm C hla w => lv_tableOut C.1 C.2.1 hd h ht w) k
theorem r_lookup {dflt off : Int} {ps : Array (Int × Int)} {len : Nat} {x : Int32} (tgt : Nat) (hd : decode μ.2.1 pc = .ok (.lookupswitch dflt ps, len)) (hp : (ps.toList.zip (ps.toList.drop 1)).all (fun (a, next) => a.1 < next.1) = true) (ho : Op.lookupswitch.offset ps.toList dflt x.toInt = off) (ht : (pc : Int) + off = (tgt : Int)) (k : Wp g μ d c n tgt ls st m Q) : Wp g μ d c n pc ls (.int x :: st) m Q := Wp.go (fun _ h => okl_tail h) (fun p e R s mid args below meth cd r H locs cells slots la Qm C hla w => lv_lookup C.1 C.2.1 hd hp ho ht w) k
theorem lvF_st1 {g : GG} {r : List Nat} {pre t : List Value} {o v : Value} {nL : Nat} {la : Array Slot} (hpre : ∀ w, pre.getLast? = some w → w.category = 1)
    (h : lv_has la nL ((pre.length, cv g r v) :: (lvF g r 0 (pre ++ o :: t)).filter (fun q => !(q.1 == pre.length) && !(q.1 + 1 == pre.length && q.2.category == 2)))) : lv_has la nL (lvF g r 0 (pre ++ v :: t)) := by
  refine lv_has_mono h fun q hq => ?_
  obtain ⟨k, w, e1, e2, e3⟩ := lvF_mem _ _ _ hq
  rw [Nat.zero_add] at e1
  by_cases hk : k = pre.length
  · subst hk
    rw [List.getElem?_append_right (Nat.le_refl _), Nat.sub_self, List.getElem?_cons_zero] at e2
    cases e2
    rw [e1]; exact List.mem_cons_self
  · refine List.mem_cons_of_mem _ (List.mem_filter.mpr ⟨?_, ?_⟩)
    · have e4 : (pre ++ o :: t)[k]? = some w := by
        rcases Nat.lt_or_gt_of_ne hk with h1 | h1
        · rw [List.getElem?_append_left h1] at e2 ⊢; exact e2
        · rw [List.getElem?_append_right (Nat.le_of_lt h1)] at e2 ⊢
          obtain ⟨j, hj⟩ : ∃ j, k - pre.length = j + 1 := ⟨k - pre.length - 1, by omega⟩
          rw [hj] at e2 ⊢
          simpa using e2
      have h2 := lvF_at (g := g) (r := r) (la := la) (nL := nL) _ 0 k w e4 e3
      rw [e1, ← Nat.zero_add k]; exact h2
    · rw [e1]
      simp only [Bool.and_eq_true, Bool.not_eq_true', beq_eq_false_iff_ne, ne_eq, hk, not_false_eq_true, Bool.and_eq_false_imp, beq_iff_eq, true_and]
      intro h1
      have h2 : k < pre.length := by omega
      rw [List.getElem?_append_left h2] at e2
      have h3 : pre.getLast? = some w := by rw [List.getLast?_eq_getElem?, show pre.length - 1 = k by omega]; exact e2
      rw [cv_cat, hpre w h3]; decide
theorem lvF_st2 {g : GG} {r : List Nat} {pre t : List Value} {o o2 v : Value} {nL z : Nat} {la : Array Slot} (hpre : ∀ w, pre.getLast? = some w → w.category = 1)
    (h : lv_has la nL ((pre.length, cv g r v) :: (lvF g r 0 (pre ++ o :: o2 :: t)).filter (fun q => !(q.1 == pre.length) && (!(q.1 == pre.length + 1) && !(q.1 + 1 == pre.length && q.2.category == 2))))) : lv_has la nL (lvF g r 0 (pre ++ v :: .retAddr z :: t)) := by
  refine lv_has_mono h fun q hq => ?_
  obtain ⟨k, w, e1, e2, e3⟩ := lvF_mem _ _ _ hq
  rw [Nat.zero_add] at e1
  by_cases hk : k = pre.length
  · subst hk
    rw [List.getElem?_append_right (Nat.le_refl _), Nat.sub_self, List.getElem?_cons_zero] at e2
    cases e2
    rw [e1]; exact List.mem_cons_self
  · by_cases hk2 : k = pre.length + 1
    · subst hk2
      rw [List.getElem?_append_right (by omega), show pre.length + 1 - pre.length = 1 by omega] at e2
      simp only [List.getElem?_cons_succ, List.getElem?_cons_zero, Option.some.injEq] at e2
      exact absurd e2.symm (e3 _)
    · refine List.mem_cons_of_mem _ (List.mem_filter.mpr ⟨?_, ?_⟩)
      · have e4 : (pre ++ o :: o2 :: t)[k]? = some w := by
          rcases Nat.lt_or_gt_of_ne hk with h1 | h1
          · rw [List.getElem?_append_left h1] at e2 ⊢; exact e2
          · rw [List.getElem?_append_right (Nat.le_of_lt h1)] at e2 ⊢
            obtain ⟨j, hj⟩ : ∃ j, k - pre.length = j + 2 := ⟨k - pre.length - 2, by omega⟩
            rw [hj] at e2 ⊢
            simpa using e2
        have h2 := lvF_at (g := g) (r := r) (la := la) (nL := nL) _ 0 k w e4 e3
        rw [e1, ← Nat.zero_add k]; exact h2
      · rw [e1]
        simp only [Bool.and_eq_true, Bool.not_eq_true', beq_eq_false_iff_ne, ne_eq, hk, hk2, not_false_eq_true, Bool.and_eq_false_imp, beq_iff_eq, true_and]
        intro h1
        have h2 : k < pre.length := by omega
        rw [List.getElem?_append_left h2] at e2
        have h3 : pre.getLast? = some w := by rw [List.getLast?_eq_getElem?, show pre.length - 1 = k by omega]; exact e2
        rw [cv_cat, hpre w h3]; decide
theorem okl_app {n : Nat} {a b : List Value} (h : okl n (a ++ b)) : okl n a ∧ okl n b := ⟨fun v hv => h v (List.mem_append_left _ hv), fun v hv => h v (List.mem_append_right _ hv)⟩
theorem okl_put {n : Nat} {pre t : List Value} {o v : Value} (h : okl n (pre ++ o :: t)) (hv : okv n v) : okl n (pre ++ v :: t) := fun w hw => by
  rcases List.mem_append.mp hw with h1 | h1
  · exact (okl_app h).1 w h1
  · exact (okl_cons hv (okl_tail (okl_app h).2)) w h1
theorem okl_put2 {n z : Nat} {pre t : List Value} {o o2 v : Value} (h : okl n (pre ++ o :: o2 :: t)) (hv : okv n v) : okl n (pre ++ v :: .retAddr z :: t) := fun w hw => by
  rcases List.mem_append.mp hw with h1 | h1
  · exact (okl_app h).1 w h1
  · exact (okl_cons hv (okl_cons (v := .retAddr z) (show okv n (.retAddr z) from trivial) (okl_tail (okl_tail (okl_app h).2)))) w h1
theorem r_istore {pre t : List Value} {o : Value} {x : Int32} (hpre : ∀ w, pre.getLast? = some w → w.category = 1) (hd : decode μ.2.1 pc = .ok (.istore pre.length, 2)) (hn0 : pre.length < μ.2.2.1) (k : Wp g μ d c n (pc + 2) (pre ++ .int x :: t) st m Q) : Wp g μ d c n pc (pre ++ o :: t) (.int x :: st) m Q := by
  intro p e R s mid args below meth cd r0 r H locs cells slots la hs
  obtain ⟨C, M, S, hr, hl, hst, hla, hc, hn⟩ := hs
  exact lv_istore C.1 C.2.1 hd hla hn0 rfl (fun la hla => k p e R s mid args below meth cd r0 r H locs cells slots la ⟨C, M, S, hr, okl_put hl (okl_head hst), okl_tail hst, lvF_st1 hpre hla, hc, hn⟩)
theorem r_istore_n {i : Fin 4} {pre t : List Value} {o : Value} {x : Int32} (hpre : ∀ w, pre.getLast? = some w → w.category = 1) (hd : decode μ.2.1 pc = .ok (.istore_n i, 1)) (hi : (i : Nat) = pre.length) (hn0 : pre.length < μ.2.2.1) (k : Wp g μ d c n (pc + 1) (pre ++ .int x :: t) st m Q) : Wp g μ d c n pc (pre ++ o :: t) (.int x :: st) m Q := by
  intro p e R s mid args below meth cd r0 r H locs cells slots la hs
  obtain ⟨C, M, S, hr, hl, hst, hla, hc, hn⟩ := hs
  exact lv_istore_n C.1 C.2.1 hd hi hla hn0 rfl (fun la hla => k p e R s mid args below meth cd r0 r H locs cells slots la ⟨C, M, S, hr, okl_put hl (okl_head hst), okl_tail hst, lvF_st1 hpre hla, hc, hn⟩)
theorem r_lstore {pre t : List Value} {o o2 : Value} {x : Int64} (hpre : ∀ w, pre.getLast? = some w → w.category = 1) (hd : decode μ.2.1 pc = .ok (.lstore pre.length, 2)) (hn0 : pre.length + 1 < μ.2.2.1) (k : Wp g μ d c n (pc + 2) (pre ++ .long x :: .retAddr 0 :: t) st m Q) : Wp g μ d c n pc (pre ++ o :: o2 :: t) (.long x :: st) m Q := by
  intro p e R s mid args below meth cd r0 r H locs cells slots la hs
  obtain ⟨C, M, S, hr, hl, hst, hla, hc, hn⟩ := hs
  exact lv_lstore C.1 C.2.1 hd hla hn0 rfl (fun la hla => k p e R s mid args below meth cd r0 r H locs cells slots la ⟨C, M, S, hr, okl_put2 hl (okl_head hst), okl_tail hst, lvF_st2 hpre hla, hc, hn⟩)
theorem r_lstore_n {i : Fin 4} {pre t : List Value} {o o2 : Value} {x : Int64} (hpre : ∀ w, pre.getLast? = some w → w.category = 1) (hd : decode μ.2.1 pc = .ok (.lstore_n i, 1)) (hi : (i : Nat) = pre.length) (hn0 : pre.length + 1 < μ.2.2.1) (k : Wp g μ d c n (pc + 1) (pre ++ .long x :: .retAddr 0 :: t) st m Q) : Wp g μ d c n pc (pre ++ o :: o2 :: t) (.long x :: st) m Q := by
  intro p e R s mid args below meth cd r0 r H locs cells slots la hs
  obtain ⟨C, M, S, hr, hl, hst, hla, hc, hn⟩ := hs
  exact lv_lstore_n C.1 C.2.1 hd hi hla hn0 rfl (fun la hla => k p e R s mid args below meth cd r0 r H locs cells slots la ⟨C, M, S, hr, okl_put2 hl (okl_head hst), okl_tail hst, lvF_st2 hpre hla, hc, hn⟩)
theorem r_astore {pre t : List Value} {o : Value} {x : Nat} (hpre : ∀ w, pre.getLast? = some w → w.category = 1) (hd : decode μ.2.1 pc = .ok (.astore pre.length, 2)) (hn0 : pre.length < μ.2.2.1) (k : Wp g μ d c n (pc + 2) (pre ++ .ref x :: t) st m Q) : Wp g μ d c n pc (pre ++ o :: t) (.ref x :: st) m Q := by
  intro p e R s mid args below meth cd r0 r H locs cells slots la hs
  obtain ⟨C, M, S, hr, hl, hst, hla, hc, hn⟩ := hs
  match x, k, hst with
  | 0, k, hst => exact lv_astoreN C.1 C.2.1 hd hla hn0 rfl (fun la hla => k p e R s mid args below meth cd r0 r H locs cells slots la ⟨C, M, S, hr, okl_put hl (okl_head hst), okl_tail hst, lvF_st1 hpre hla, hc, hn⟩)
  | 1, k, hst => exact lv_astore C.1 C.2.1 hd hla hn0 rfl (fun la hla => k p e R s mid args below meth cd r0 r H locs cells slots la ⟨C, M, S, hr, okl_put hl (okl_head hst), okl_tail hst, lvF_st1 hpre hla, hc, hn⟩)
  | 2, k, hst => exact lv_astore C.1 C.2.1 hd hla hn0 rfl (fun la hla => k p e R s mid args below meth cd r0 r H locs cells slots la ⟨C, M, S, hr, okl_put hl (okl_head hst), okl_tail hst, lvF_st1 hpre hla, hc, hn⟩)
  | 3, k, hst => exact lv_astore C.1 C.2.1 hd hla hn0 rfl (fun la hla => k p e R s mid args below meth cd r0 r H locs cells slots la ⟨C, M, S, hr, okl_put hl (okl_head hst), okl_tail hst, lvF_st1 hpre hla, hc, hn⟩)
  | x + 4, k, hst => exact lv_astore C.1 C.2.1 hd hla hn0 rfl (fun la hla => k p e R s mid args below meth cd r0 r H locs cells slots la ⟨C, M, S, hr, okl_put hl (okl_head hst), okl_tail hst, lvF_st1 hpre hla, hc, hn⟩)
theorem r_astore_n {i : Fin 4} {pre t : List Value} {o : Value} {x : Nat} (hpre : ∀ w, pre.getLast? = some w → w.category = 1) (hd : decode μ.2.1 pc = .ok (.astore_n i, 1)) (hi : (i : Nat) = pre.length) (hn0 : pre.length < μ.2.2.1) (k : Wp g μ d c n (pc + 1) (pre ++ .ref x :: t) st m Q) : Wp g μ d c n pc (pre ++ o :: t) (.ref x :: st) m Q := by
  intro p e R s mid args below meth cd r0 r H locs cells slots la hs
  obtain ⟨C, M, S, hr, hl, hst, hla, hc, hn⟩ := hs
  match x, k, hst with
  | 0, k, hst => exact lv_astore_nN C.1 C.2.1 hd hi hla hn0 rfl (fun la hla => k p e R s mid args below meth cd r0 r H locs cells slots la ⟨C, M, S, hr, okl_put hl (okl_head hst), okl_tail hst, lvF_st1 hpre hla, hc, hn⟩)
  | 1, k, hst => exact lv_astore_n C.1 C.2.1 hd hi hla hn0 rfl (fun la hla => k p e R s mid args below meth cd r0 r H locs cells slots la ⟨C, M, S, hr, okl_put hl (okl_head hst), okl_tail hst, lvF_st1 hpre hla, hc, hn⟩)
  | 2, k, hst => exact lv_astore_n C.1 C.2.1 hd hi hla hn0 rfl (fun la hla => k p e R s mid args below meth cd r0 r H locs cells slots la ⟨C, M, S, hr, okl_put hl (okl_head hst), okl_tail hst, lvF_st1 hpre hla, hc, hn⟩)
  | 3, k, hst => exact lv_astore_n C.1 C.2.1 hd hi hla hn0 rfl (fun la hla => k p e R s mid args below meth cd r0 r H locs cells slots la ⟨C, M, S, hr, okl_put hl (okl_head hst), okl_tail hst, lvF_st1 hpre hla, hc, hn⟩)
  | x + 4, k, hst => exact lv_astore_n C.1 C.2.1 hd hi hla hn0 rfl (fun la hla => k p e R s mid args below meth cd r0 r H locs cells slots la ⟨C, M, S, hr, okl_put hl (okl_head hst), okl_tail hst, lvF_st1 hpre hla, hc, hn⟩)
theorem r_iinc {pre t : List Value} {x : Int32} {z : Int} (v : Int32) (hpre : ∀ w, pre.getLast? = some w → w.category = 1) (hd : decode μ.2.1 pc = .ok (.iinc pre.length z, 3)) (hv : Int32.ofInt z = v) (hn0 : pre.length < μ.2.2.1) (k : Wp g μ d c n (pc + 3) (pre ++ .int (x + v) :: t) st m Q) : Wp g μ d c n pc (pre ++ .int x :: t) st m Q := by
  intro p e R s mid args below meth cd r0 r H locs cells slots la hs
  obtain ⟨C, M, S, hr, hl, hst, hla, hc, hn⟩ := hs
  have h1 : (pre ++ Value.int x :: t)[pre.length]? = some (.int x) := by rw [List.getElem?_append_right (Nat.le_refl _), Nat.sub_self]; rfl
  have h2 := lvF_at (g := g) (r := r) (la := la) (nL := μ.2.2.1) _ 0 pre.length _ h1 (fun a h => by cases h)
  rw [Nat.zero_add] at h2
  obtain ⟨j, hj⟩ := List.getElem?_of_mem h2
  exact lv_iinc C.1 C.2.1 hd hla hj (by rw [hv]) hn0 rfl (fun la hla => k p e R s mid args below meth cd r0 r H locs cells slots la ⟨C, M, S, hr, okl_put hl (show okv (nx m) (.int _) from trivial), hst, lvF_st1 hpre hla, hc, hn⟩)
end RL
