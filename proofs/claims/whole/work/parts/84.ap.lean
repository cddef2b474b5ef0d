/-! MEMORY THAT GROWS: ap m S R I is m with the objects S behind it, their references R, their ints I -/
def rowG {α : Type} (z : α) (R : List (List α)) (i k : Nat) : α := (R.getD i []).getD k z
def stG {α : Type} (R : List (List α)) (i k : Nat) (v : α) : List (List α) := R.set i ((R.getD i []).set k v)
def ap (m : MM) (S : List (Nat × Nat)) (R : List (List Nat)) (I : List (List Int32)) : MM := (fun a k => if a < nx m then m.1 a k else rowG 0 I (a - nx m) k, fun a k => if a < nx m then m.2.1 a k else 0, fun a k => if a < nx m then m.2.2.1 a k else rowG 0 R (a - nx m) k, shp m ++ S)
def Cln (m : MM) : Prop := ∀ a k, nx m ≤ a → m.1 a k = 0 ∧ m.2.1 a k = 0 ∧ m.2.2.1 a k = 0
theorem mm_ext4 {m m' : MM} (h1 : ∀ a k, m.1 a k = m'.1 a k) (h2 : ∀ a k, m.2.1 a k = m'.2.1 a k) (h3 : ∀ a k, m.2.2.1 a k = m'.2.2.1 a k) (h4 : shp m = shp m') : m = m' := by
  obtain ⟨f, l, r, s⟩ := m
  obtain ⟨f', l', r', s'⟩ := m'
  have e1 : f = f' := funext fun a => funext fun k => h1 a k
  have e2 : l = l' := funext fun a => funext fun k => h2 a k
  have e3 : r = r' := funext fun a => funext fun k => h3 a k
  have e4 : s = s' := h4
  subst e1 e2 e3 e4
  rfl
theorem nx_ap (m : MM) (S : List (Nat × Nat)) (R : List (List Nat)) (I : List (List Int32)) : nx (ap m S R I) = nx m + S.length := by
  show (shp m ++ S).length + 4 = (shp m).length + 4 + S.length
  rw [List.length_append]; omega
theorem rowG_app {α : Type} {z : α} {R R2 : List (List α)} {i k : Nat} : rowG z (R ++ R2) i k = if i < R.length then rowG z R i k else rowG z R2 (i - R.length) k := by
  unfold rowG
  by_cases h : i < R.length
  · have e : (R ++ R2).getD i [] = R.getD i [] := by simp only [List.getD_eq_getElem?_getD, List.getElem?_append_left h]
    rw [if_pos h, e]
  · have e : (R ++ R2).getD i [] = R2.getD (i - R.length) [] := by simp only [List.getD_eq_getElem?_getD, List.getElem?_append_right (Nat.not_lt.mp h)]
    rw [if_neg h, e]
theorem rowG_out {α : Type} {z : α} {R : List (List α)} {i k : Nat} (h : R.length ≤ i) : rowG z R i k = z := by
  unfold rowG
  have e : R.getD i [] = [] := by simp only [List.getD_eq_getElem?_getD, List.getElem?_eq_none h, Option.getD_none]
  rw [e]; rfl
theorem getD_rep {α : Type} {z : α} {n k : Nat} : (List.replicate n z).getD k z = z := by
  rw [List.getD_eq_getElem?_getD, List.getElem?_replicate]
  split <;> rfl
theorem rowG_one {α : Type} {z : α} {n i k : Nat} : rowG z [List.replicate n z] i k = z := by
  cases i with
  | zero => exact getD_rep
  | succ i => exact rowG_out (by simp)
theorem rowG_reps {α : Type} {z : α} {N i k : Nat} : rowG z (List.replicate N []) i k = z := by
  unfold rowG
  rw [getD_rep]; rfl
theorem Cln.ap {m : MM} {S : List (Nat × Nat)} {R : List (List Nat)} {I : List (List Int32)} (hR : R.length ≤ S.length) (hI : I.length ≤ S.length) : Cln (ap m S R I) := fun a k h => by
  rw [nx_ap] at h
  have h0 : ¬ a < nx m := by omega
  refine ⟨?_, ?_, ?_⟩
  · show (if a < nx m then m.1 a k else rowG 0 I (a - nx m) k) = 0
    rw [if_neg h0]; exact rowG_out (by omega)
  · show (if a < nx m then m.2.1 a k else 0) = 0
    rw [if_neg h0]
  · show (if a < nx m then m.2.2.1 a k else rowG 0 R (a - nx m) k) = 0
    rw [if_neg h0]; exact rowG_out (by omega)
theorem mk_ap {m : MM} {q : Nat × Nat} (nz ni : Nat) (hc : Cln m) : mk m q = ap m [q] [List.replicate nz 0] [List.replicate ni 0] := by
  refine mm_ext4 (fun a k => ?_) (fun a k => ?_) (fun a k => ?_) rfl
  · show (if a = nx m then 0 else m.1 a k) = if a < nx m then m.1 a k else rowG 0 [List.replicate ni 0] (a - nx m) k
    by_cases h : a < nx m
    · rw [if_pos h, if_neg (by omega)]
    · rw [if_neg h, rowG_one]
      by_cases e : a = nx m
      · rw [if_pos e]
      · rw [if_neg e]; exact (hc a k (by omega)).1
  · show (if a = nx m then 0 else m.2.1 a k) = if a < nx m then m.2.1 a k else 0
    by_cases h : a < nx m
    · rw [if_pos h, if_neg (by omega)]
    · rw [if_neg h]
      by_cases e : a = nx m
      · rw [if_pos e]
      · rw [if_neg e]; exact (hc a k (by omega)).2.1
  · show (if a = nx m then 0 else m.2.2.1 a k) = if a < nx m then m.2.2.1 a k else rowG 0 [List.replicate nz 0] (a - nx m) k
    by_cases h : a < nx m
    · rw [if_pos h, if_neg (by omega)]
    · rw [if_neg h, rowG_one]
      by_cases e : a = nx m
      · rw [if_pos e]
      · rw [if_neg e]; exact (hc a k (by omega)).2.2
theorem ap_ap {m : MM} {S S2 : List (Nat × Nat)} {R R2 : List (List Nat)} {I I2 : List (List Int32)} (hR : R.length = S.length) (hI : I.length = S.length) : ap (ap m S R I) S2 R2 I2 = ap m (S ++ S2) (R ++ R2) (I ++ I2) := by
  refine mm_ext4 (fun a k => ?_) (fun a k => ?_) (fun a k => ?_) (List.append_assoc _ _ _)
  · show (if a < nx (ap m S R I) then (if a < nx m then m.1 a k else rowG 0 I (a - nx m) k) else rowG 0 I2 (a - nx (ap m S R I)) k) = if a < nx m then m.1 a k else rowG 0 (I ++ I2) (a - nx m) k
    rw [nx_ap, rowG_app]
    by_cases h : a < nx m
    · rw [if_pos (by omega), if_pos h, if_pos h]
    · by_cases h2 : a < nx m + S.length
      · rw [if_pos h2, if_neg h, if_neg h, if_pos (by omega)]
      · rw [if_neg h2, if_neg h, if_neg (by omega), show a - (nx m + S.length) = a - nx m - I.length from by omega]
  · show (if a < nx (ap m S R I) then (if a < nx m then m.2.1 a k else 0) else 0) = if a < nx m then m.2.1 a k else 0
    rw [nx_ap]
    by_cases h : a < nx m
    · rw [if_pos (by omega)]
    · rw [if_neg h]; exact ite_self _
  · show (if a < nx (ap m S R I) then (if a < nx m then m.2.2.1 a k else rowG 0 R (a - nx m) k) else rowG 0 R2 (a - nx (ap m S R I)) k) = if a < nx m then m.2.2.1 a k else rowG 0 (R ++ R2) (a - nx m) k
    rw [nx_ap, rowG_app]
    by_cases h : a < nx m
    · rw [if_pos (by omega), if_pos h, if_pos h]
    · by_cases h2 : a < nx m + S.length
      · rw [if_pos h2, if_neg h, if_neg h, if_pos (by omega)]
      · rw [if_neg h2, if_neg h, if_neg (by omega), show a - (nx m + S.length) = a - nx m - R.length from by omega]
theorem mk_ap2 {m : MM} {S : List (Nat × Nat)} {R : List (List Nat)} {I : List (List Int32)} {q : Nat × Nat} (nz ni : Nat) (hL : R.length = S.length ∧ I.length = S.length) : mk (ap m S R I) q = ap m (S ++ [q]) (R ++ [List.replicate nz 0]) (I ++ [List.replicate ni 0]) := (mk_ap nz ni (Cln.ap (Nat.le_of_eq hL.1) (Nat.le_of_eq hL.2))).trans (ap_ap hL.1 hL.2)
theorem stG_row {α : Type} {z : α} {R : List (List α)} {i k : Nat} {v : α} (hi : i < R.length) (hk : k < (R.getD i []).length) (b j : Nat) : rowG z (stG R i k v) b j = if b = i ∧ j = k then v else rowG z R b j := by
  unfold rowG stG
  by_cases h : b = i
  · subst h
    have e : (R.set b ((R.getD b []).set k v)).getD b [] = (R.getD b []).set k v := by
      rw [List.getD_eq_getElem?_getD, List.getElem?_set_self hi]; rfl
    rw [e]
    by_cases e2 : j = k
    · subst e2
      rw [if_pos ⟨rfl, rfl⟩, List.getD_eq_getElem?_getD, List.getElem?_set_self hk]; rfl
    · rw [if_neg (fun q => e2 q.2), List.getD_eq_getElem?_getD, List.getElem?_set_ne (fun q => e2 q.symm), ← List.getD_eq_getElem?_getD]
  · have e : (R.set i ((R.getD i []).set k v)).getD b [] = R.getD b [] := by
      rw [List.getD_eq_getElem?_getD, List.getElem?_set_ne (fun q => h q.symm), ← List.getD_eq_getElem?_getD]
    rw [e, if_neg (fun q => h q.1)]
theorem stR_ap {m : MM} {S : List (Nat × Nat)} {R : List (List Nat)} {I : List (List Int32)} {i k v : Nat} (hi : i < R.length) (hk : k < (R.getD i []).length) : stR (ap m S R I) (nx m + i) k v = ap m S (stG R i k v) I := by
  refine mm_ext4 (fun _ _ => rfl) (fun _ _ => rfl) (fun a j => ?_) rfl
  show (if a = nx m + i ∧ j = k then v else if a < nx m then m.2.2.1 a j else rowG 0 R (a - nx m) j) = if a < nx m then m.2.2.1 a j else rowG 0 (stG R i k v) (a - nx m) j
  by_cases h : a < nx m
  · rw [if_neg (by omega), if_pos h, if_pos h]
  · rw [if_neg h, if_neg h, stG_row hi hk]
    by_cases e : a = nx m + i ∧ j = k
    · rw [if_pos e, if_pos ⟨by omega, e.2⟩]
    · rw [if_neg e, if_neg (fun q => e ⟨by omega, q.2⟩)]
theorem stI_ap {m : MM} {S : List (Nat × Nat)} {R : List (List Nat)} {I : List (List Int32)} {i k : Nat} {v : Int32} (hi : i < I.length) (hk : k < (I.getD i []).length) : stI (ap m S R I) (nx m + i) k v = ap m S R (stG I i k v) := by
  refine mm_ext4 (fun a j => ?_) (fun _ _ => rfl) (fun _ _ => rfl) rfl
  show (if a = nx m + i ∧ j = k then v else if a < nx m then m.1 a j else rowG 0 I (a - nx m) j) = if a < nx m then m.1 a j else rowG 0 (stG I i k v) (a - nx m) j
  by_cases h : a < nx m
  · rw [if_neg (by omega), if_pos h, if_pos h]
  · rw [if_neg h, if_neg h, stG_row hi hk]
    by_cases e : a = nx m + i ∧ j = k
    · rw [if_pos e, if_pos ⟨by omega, e.2⟩]
    · rw [if_neg e, if_neg (fun q => e ⟨by omega, q.2⟩)]
theorem kdl_ap {m : MM} {S : List (Nat × Nat)} {R : List (List Nat)} {I : List (List Int32)} {i : Nat} {q : Nat × Nat} (h : S[i]? = some q) : kdl (ap m S R I) (nx m + i) = some q := by
  rw [show nx m + i = ((shp m).length + i) + 4 from by unfold nx; omega]
  show (shp m ++ S)[(shp m).length + i]? = some q
  rw [List.getElem?_append_right (by omega), show (shp m).length + i - (shp m).length = i from by omega]; exact h
theorem ldR_ap {m : MM} {S : List (Nat × Nat)} {R : List (List Nat)} {I : List (List Int32)} {i k : Nat} : ldR (ap m S R I) (nx m + i) k = rowG 0 R i k := by
  show (if nx m + i < nx m then m.2.2.1 (nx m + i) k else rowG 0 R (nx m + i - nx m) k) = rowG 0 R i k
  rw [if_neg (by omega), show nx m + i - nx m = i from by omega]
theorem mkG_ap {m : MM} {S : List (Nat × Nat)} {R : List (List Nat)} {I : List (List Int32)} (N K : Nat) (hL : R.length = S.length ∧ I.length = S.length) : mkG (ap m S R I) N K = ap m (S ++ (18, N) :: List.replicate N (13, K)) (R ++ (List.range N).map (fun j => nx m + S.length + 1 + j) :: List.replicate N []) (I ++ [] :: List.replicate N []) := by
  rw [← ap_ap hL.1 hL.2]
  have hx := nx_ap m S R I
  refine mm_ext4 (fun a k => ?_) (fun a k => ?_) (fun a k => ?_) rfl
  · show (if nx (ap m S R I) ≤ a then 0 else (ap m S R I).1 a k) = if a < nx (ap m S R I) then (ap m S R I).1 a k else rowG 0 ([] :: List.replicate N []) (a - nx (ap m S R I)) k
    by_cases h : a < nx (ap m S R I)
    · rw [if_pos h, if_neg (by omega)]
    · rw [if_neg h, if_pos (by omega)]
      exact (rowG_reps (N := N + 1)).symm
  · show (if nx (ap m S R I) ≤ a then 0 else (ap m S R I).2.1 a k) = if a < nx (ap m S R I) then (ap m S R I).2.1 a k else 0
    by_cases h : a < nx (ap m S R I)
    · rw [if_pos h, if_neg (by omega)]
    · rw [if_neg h, if_pos (by omega)]
  · show (if nx (ap m S R I) ≤ a then (if a = nx (ap m S R I) ∧ k < N then nx (ap m S R I) + 1 + k else 0) else (ap m S R I).2.2.1 a k) = if a < nx (ap m S R I) then (ap m S R I).2.2.1 a k else rowG 0 ((List.range N).map (fun j => nx m + S.length + 1 + j) :: List.replicate N []) (a - nx (ap m S R I)) k
    by_cases h : a < nx (ap m S R I)
    · rw [if_pos h, if_neg (by omega)]
    · rw [if_neg h, if_pos (by omega)]
      by_cases e : a = nx (ap m S R I)
      · subst e
        rw [Nat.sub_self]
        show _ = ((List.range N).map (fun j => nx m + S.length + 1 + j)).getD k 0
        rw [List.getD_eq_getElem?_getD, List.getElem?_map]
        by_cases hk : k < N
        · rw [if_pos ⟨rfl, hk⟩, List.getElem?_range hk, hx]; rfl
        · rw [if_neg (fun q => hk q.2), List.getElem?_eq_none (by simp; omega)]; rfl
      · rw [if_neg (fun q => e q.1)]
        obtain ⟨j, hj⟩ : ∃ j, a - nx (ap m S R I) = j + 1 := ⟨a - nx (ap m S R I) - 1, by omega⟩
        rw [hj]
        exact (rowG_reps (N := N) (i := j) (k := k)).symm
section AR
variable {g : GG} {μ : MD} {d c n pc : Nat} {ls st : List Value} {Q : Out → Prop} {m : MM} {S S' S2 : List (Nat × Nat)} {R R' R2 : List (List Nat)} {I I' I2 : List (List Int32)} {a b : Nat}
/-- a new object stands apart, until its constructor is through -/
theorem b_new {idx ci : Nat} (nz ni : Nat) (hL : R.length = S.length ∧ I.length = S.length) (hd : decode μ.2.1 pc = .ok (.new idx, 3)) (hci : ci < 13) (hl : Cond.classLink μ.1.cls idx (RF ci) ∈ TB) (hi : Cond.instantiable (RF ci) (nF ci) ∈ TB) (h0 : Cond.initialized (RF ci) ∈ TB) (hn : nx m = b) (ea : b + S.length = a)
    (kk : Wp g μ d c n (pc + 3) ls (.ref a :: st) (ap (ap m S R I) [(ci, 0)] [List.replicate nz 0] [List.replicate ni 0]) Q) : Wp g μ d (c + 1) (n + nF ci) pc ls st (ap m S R I) Q := by
  refine r_new hd hci hl hi h0 ?_
  rw [mk_ap nz ni (Cln.ap (Nat.le_of_eq hL.1) (Nat.le_of_eq hL.2)), nx_ap, hn, ea]
  exact kk
theorem a_merge (hL : R.length = S.length ∧ I.length = S.length) (e1 : S ++ S2 = S') (e2 : R ++ R2 = R') (e3 : I ++ I2 = I') (kk : Wp g μ d c n pc ls st (ap m S' R' I') Q) : Wp g μ d c n pc ls st (ap (ap m S R I) S2 R2 I2) Q := by
  rw [ap_ap hL.1 hL.2, e1, e2, e3]; exact kk
theorem nx_at (hn : nx m = b) (ea : b + S.length = a) : nx (ap m S R I) = a := by rw [nx_ap, hn, ea]
theorem a_newI {v : Int32} (N : Nat) (hL : R.length = S.length ∧ I.length = S.length) (hd : decode μ.2.1 pc = .ok (.newarray .int, 2)) (hv : ¬ v < 0) (hN : v.toNatClampNeg = N) (hN2 : N ≤ 100000) (ni : Nat) (hn : nx m = b) (e1 : S ++ [(13, N)] = S') (e2 : R ++ [[]] = R') (e3 : I ++ [List.replicate ni 0] = I') (ea : b + S.length = a)
    (kk : Wp g μ d c n (pc + 2) ls (.ref a :: st) (ap m S' R' I') Q) : Wp g μ d (c + 1) (n + N) pc ls (.int v :: st) (ap m S R I) Q := by
  refine r_newI N hd ac_I hv (Nat.le_of_eq hN) hN2 ?_
  rw [hN, mk_ap2 0 ni hL, nx_ap, hn, ea, e1, e3, show List.replicate 0 (0 : Nat) = [] from rfl, e2]
  exact kk
theorem a_newL {v : Int32} (N : Nat) (hL : R.length = S.length ∧ I.length = S.length) (hd : decode μ.2.1 pc = .ok (.newarray .long, 2)) (hv : ¬ v < 0) (hN : v.toNatClampNeg = N) (hN2 : N ≤ 100000) (hn : nx m = b) (e1 : S ++ [(14, N)] = S') (e2 : R ++ [[]] = R') (e3 : I ++ [[]] = I') (ea : b + S.length = a)
    (kk : Wp g μ d c n (pc + 2) ls (.ref a :: st) (ap m S' R' I') Q) : Wp g μ d (c + 1) (n + N) pc ls (.int v :: st) (ap m S R I) Q := by
  refine r_newL N hd ac_J hv (Nat.le_of_eq hN) hN2 ?_
  rw [hN, mk_ap2 0 0 hL, nx_ap, hn, ea, e1, show List.replicate 0 (0 : Nat) = [] from rfl, show List.replicate 0 (0 : Int32) = [] from rfl, e2, e3]
  exact kk
theorem a_newA {v : Int32} {idx q ci : Nat} (N : Nat) (hL : R.length = S.length ∧ I.length = S.length) (hd : decode μ.2.1 pc = .ok (.anewarray idx, 3)) (hq : elK q ci) (hl : Cond.classLink μ.1.cls idx (RF ci) ∈ TB) (hv : ¬ v < 0) (hN : v.toNatClampNeg = N) (hN2 : N ≤ 100000) (nz : Nat) (hn : nx m = b) (e1 : S ++ [(q, N)] = S') (e2 : R ++ [List.replicate nz 0] = R') (e3 : I ++ [[]] = I') (ea : b + S.length = a)
    (kk : Wp g μ d c n (pc + 3) ls (.ref a :: st) (ap m S' R' I') Q) : Wp g μ d (c + 1) (n + N) pc ls (.int v :: st) (ap m S R I) Q := by
  refine r_newA N hd hq hl hv (Nat.le_of_eq hN) hN2 ?_
  rw [hN, mk_ap2 nz 0 hL, nx_ap, hn, ea, e1, show List.replicate 0 (0 : Int32) = [] from rfl, e2, e3]
  exact kk
theorem a_mna {v w : Int32} {idx : Nat} (N K : Nat) (hL : R.length = S.length ∧ I.length = S.length) (hd : decode μ.2.1 pc = .ok (.multianewarray idx 2, 4)) (hl : Cond.classLink μ.1.cls idx "[[I" ∈ TB) (hv : ¬ v < 0) (hw : ¬ w < 0) (hN : v.toNatClampNeg = N) (hK : w.toNatClampNeg = K) (hN2 : N ≤ 10000) (hK2 : K ≤ 10000) (hn : nx m = b) (ea : b + S.length = a) (e1 : S ++ (18, N) :: List.replicate N (13, K) = S') (e2 : R ++ (List.range N).map (fun j => a + 1 + j) :: List.replicate N [] = R') (e3 : I ++ [] :: List.replicate N [] = I')
    (kk : Wp g μ d c n (pc + 4) ls (.ref a :: st) (ap m S' R' I') Q) : Wp g μ d (c + (1 + N)) (n + (N + N * K)) pc ls (.int w :: .int v :: st) (ap m S R I) Q := by
  refine r_mna N K hd hl ac_I hv hw hN hK hN2 hK2 ?_
  rw [mkG_ap N K hL, nx_ap, hn, ea, e1, e2, e3]
  exact kk
theorem a_putR {idx ci k i l x : Nat} (hd : decode μ.2.1 pc = .ok (.putfield idx, 3)) (hf : FP μ.1 idx ci k) (hty : isR (tF ci k) = true) (hn : nx m = b) (ea : b + i = a) (hS : S[i]? = some (ci, l)) (hR : i < R.length) (hk : k < (R.getD i []).length) (e2 : stG R i k x = R')
    (kk : Wp g μ d c n (pc + 3) ls st (ap m S R' I) Q) : Wp g μ d c n pc ls (.ref x :: .ref a :: st) (ap m S R I) Q := by
  subst ea hn
  refine r_putR hd hf hty (kdl_ap hS) ?_
  rw [stR_ap hR hk, e2]; exact kk
theorem a_putI {idx ci k i l : Nat} {x : Int32} (hd : decode μ.2.1 pc = .ok (.putfield idx, 3)) (hf : FP μ.1 idx ci k) (hty : isI (tF ci k) = true) (hnar : narrow (tF ci k) (.int x) = .int x ∧ fits (tF ci k) (.int x) = true) (hn : nx m = b) (ea : b + i = a) (hS : S[i]? = some (ci, l)) (hR : i < I.length) (hk : k < (I.getD i []).length) (e3 : stG I i k x = I')
    (kk : Wp g μ d c n (pc + 3) ls st (ap m S R I') Q) : Wp g μ d c n pc ls (.int x :: .ref a :: st) (ap m S R I) Q := by
  subst ea hn
  refine r_putI hd hf hty (kdl_ap hS) hnar ?_
  rw [stI_ap hR hk, e3]; exact kk
theorem a_getR {idx ci k i l x : Nat} (hd : decode μ.2.1 pc = .ok (.getfield idx, 3)) (hf : FL μ.1.cls idx ci k) (hty : isR (tF ci k) = true) (hn : nx m = b) (ea : b + i = a) (hS : S[i]? = some (ci, l)) (hv : rowG 0 R i k = x)
    (kk : Wp g μ d c n (pc + 3) ls (.ref x :: st) (ap m S R I) Q) : Wp g μ d c n pc ls (.ref a :: st) (ap m S R I) Q := by
  subst ea hn
  exact r_getRc hd hf hty (kdl_ap hS) (ldR_ap.trans hv) kk
theorem a_alen {i l q : Nat} (v : Int32) (hd : decode μ.2.1 pc = .ok (.arraylength, 1)) (hq0 : 12 < q ∧ q < 19) (hn : nx m = b) (ea : b + i = a) (hS : S[i]? = some (q, l)) (hv : Int32.ofNat l = v)
    (kk : Wp g μ d c n (pc + 1) ls (.int v :: st) (ap m S R I) Q) : Wp g μ d c n pc ls (.ref a :: st) (ap m S R I) Q := by
  subst ea hn
  exact r_alen v hd hq0 (kdl_ap hS) hv kk
theorem a_aast {i i2 l q ci l2 x j : Nat} {v : Int32} (hd : decode μ.2.1 pc = .ok (.aastore, 1)) (hq0 : elK q ci) (hn : nx m = b) (ea : b + i = a) (ex : b + i2 = x) (hS : S[i]? = some (q, l)) (hX : S[i2]? = some (ci, l2)) (hv : vp_in v l) (hj : v.toNatClampNeg = j) (hR : i < R.length) (hk : j < (R.getD i []).length) (e2 : stG R i j x = R')
    (kk : Wp g μ d c n (pc + 1) ls st (ap m S R' I) Q) : Wp g μ d c n pc ls (.ref x :: .int v :: .ref a :: st) (ap m S R I) Q := by
  subst ea ex hn
  refine r_aastore hd hq0 (kdl_ap hS) (kdl_ap hX) hv ?_
  rw [hj, stR_ap hR hk, e2]; exact kk
theorem a_iast {i l j : Nat} {v x : Int32} (hd : decode μ.2.1 pc = .ok (.iastore, 1)) (hn : nx m = b) (ea : b + i = a) (hS : S[i]? = some (13, l)) (hv : vp_in v l) (hj : v.toNatClampNeg = j) (hR : i < I.length) (hk : j < (I.getD i []).length) (e3 : stG I i j x = I')
    (kk : Wp g μ d c n (pc + 1) ls st (ap m S R I') Q) : Wp g μ d c n pc ls (.int x :: .int v :: .ref a :: st) (ap m S R I) Q := by
  subst ea hn
  refine r_iastore hd (kdl_ap hS) hv ?_
  rw [hj, stI_ap hR hk, e3]; exact kk
/-- what is not read may be forgotten, or stand otherwise -/
theorem w_wide {c' n' : Nat} (h1 : c' ≤ c) (h2 : n' ≤ n) (kk : Wp g μ d c' n' pc ls st m Q) : Wp g μ d c n pc ls st m Q := by
  intro p e R s mid args below meth cd r0 r H locs cells slots la hs
  obtain ⟨C, M, S, hr, hls, hst, hla, hc, hn⟩ := hs
  exact kk p e R s mid args below meth cd r0 r H locs cells slots la ⟨C, M, S, hr, hls, hst, hla, by omega, by omega⟩
theorem w_loc {ls' : List Value} (h1 : ∀ g r, ∀ q ∈ lvF g r 0 ls', q ∈ lvF g r 0 ls) (h2 : ∀ k, okl k ls → okl k ls') (kk : Wp g μ d c n pc ls' st m Q) : Wp g μ d c n pc ls st m Q := by
  intro p e R s mid args below meth cd r0 r H locs cells slots la hs
  obtain ⟨C, M, S, hr, hls, hst, hla, hc, hn⟩ := hs
  exact kk p e R s mid args below meth cd r0 r H locs cells slots la ⟨C, M, S, hr, h2 _ hls, hst, lv_has_mono hla (h1 g r), hc, hn⟩
theorem w_ghost {m' : MM} (e1 : m'.1 = m.1) (e2 : m'.2.1 = m.2.1) (e3 : ∀ a k, 4 ≤ a → ldR m' a k = ldR m a k) (e4 : shp m' = shp m) (hb : ∀ a k, ldR m' a k < nx m') (kk : Wp g μ d c n pc ls st m' Q) : Wp g μ d c n pc ls st m Q := by
  intro p e R s mid args below meth cd r0 r H locs cells slots la hs
  obtain ⟨C, M, S, hr, hls, hst, hla, hc, hn⟩ := hs
  have hx : nx m' = nx m := by unfold nx; rw [e4]
  have hw : wsO g r m' = wsO g r m := by
    unfold wsO
    rw [e4]
    refine List.map_congr_left fun i _ => ?_
    rw [ent_congr (m := m) (m' := m') (fun j => congrFun (congrFun e1 _) j) (fun j => congrFun (congrFun e2 _) j) (fun j => e3 _ j (by omega))]
  exact kk p e R s mid args below meth cd r0 r H locs cells slots la ⟨C, ⟨by rw [hw]; exact M.1, by rw [hw]; exact M.2.1, by rw [e4]; exact M.2.2.1, hb⟩, S, hr, by rw [hx]; exact hls, by rw [hx]; exact hst, hla, hc, hn⟩
end AR
