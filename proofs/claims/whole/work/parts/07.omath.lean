section MA
variable {g : GG} {μ : MD} {d c n pc : Nat} {ls st : List Value} {m : MM} {Q : Out → Prop}
theorem r_mmaxI {idx : Nat} {x y : Int32} (hd : decode μ.2.1 pc = .ok (.invokestatic idx, 3)) (hm : MS μ.1.cls idx 2 mJ9_max_7cf53) (hd0 : 1 ≤ d) (h8 : (st.map fun v => v.category).sum ≤ 8) (kk : Wp g μ d c n (pc + 3) ls (.int (if x < y then y else x) :: st) m Q) : Wp g μ d c n pc ls (.int y :: .int x :: st) m Q := by
  intro p e R s mid args below meth cd r0 r H locs cells slots la hs
  obtain ⟨C, M, S, hr, hls, hst, hla, hc, hn⟩ := hs
  have hf := C.fr
  have h9 := st8 (g := g) (r := r) h8
  exact va_mmax C.1 C.2.1 (by rw [C.2.2.2.1]; exact hla.1.symm) C.own (C.hts _ hm.1) (C.hts _ hm.2.1) (C.hts _ hm.2.2.1) (C.hts _ hm.2.2.2.1) (by omega) (by omega) (by omega) (by omega) hd (kk p e R s mid args below meth cd r0 r H locs cells slots la ⟨C, M, S, hr, hls, okl_ci (okl_tail (okl_tail hst)), hla, hc, hn⟩)
theorem r_mminI {idx : Nat} {x y : Int32} (hd : decode μ.2.1 pc = .ok (.invokestatic idx, 3)) (hm : MS μ.1.cls idx 2 mJ9_min_7cf53) (hd0 : 1 ≤ d) (h8 : (st.map fun v => v.category).sum ≤ 8) (kk : Wp g μ d c n (pc + 3) ls (.int (if y < x then y else x) :: st) m Q) : Wp g μ d c n pc ls (.int y :: .int x :: st) m Q := by
  intro p e R s mid args below meth cd r0 r H locs cells slots la hs
  obtain ⟨C, M, S, hr, hls, hst, hla, hc, hn⟩ := hs
  have hf := C.fr
  have h9 := st8 (g := g) (r := r) h8
  exact va_mmin C.1 C.2.1 (by rw [C.2.2.2.1]; exact hla.1.symm) C.own (C.hts _ hm.1) (C.hts _ hm.2.1) (C.hts _ hm.2.2.1) (C.hts _ hm.2.2.2.1) (by omega) (by omega) (by omega) (by omega) hd (kk p e R s mid args below meth cd r0 r H locs cells slots la ⟨C, M, S, hr, hls, okl_ci (okl_tail (okl_tail hst)), hla, hc, hn⟩)
theorem r_mmaxL {idx : Nat} {x y : Int64} (hd : decode μ.2.1 pc = .ok (.invokestatic idx, 3)) (hm : MS μ.1.cls idx 2 mJ9_max_f86c9) (hd0 : 1 ≤ d) (h8 : (st.map fun v => v.category).sum ≤ 8) (kk : Wp g μ d c n (pc + 3) ls (.long (if y < x then x else y) :: st) m Q) : Wp g μ d c n pc ls (.long y :: .long x :: st) m Q := by
  intro p e R s mid args below meth cd r0 r H locs cells slots la hs
  obtain ⟨C, M, S, hr, hls, hst, hla, hc, hn⟩ := hs
  have hf := C.fr
  have h9 := st8 (g := g) (r := r) h8
  exact va_mmax_long C.1 C.2.1 (by rw [C.2.2.2.1]; exact hla.1.symm) C.own (C.hts _ hm.1) (C.hts _ hm.2.1) (C.hts _ hm.2.2.1) (C.hts _ hm.2.2.2.1) (by omega) (by omega) (by omega) (by omega) hd (kk p e R s mid args below meth cd r0 r H locs cells slots la ⟨C, M, S, hr, hls, okl_cl (okl_tail (okl_tail hst)), hla, hc, hn⟩)
theorem r_mminL {idx : Nat} {x y : Int64} (hd : decode μ.2.1 pc = .ok (.invokestatic idx, 3)) (hm : MS μ.1.cls idx 2 mJ9_min_f86c9) (hd0 : 1 ≤ d) (h8 : (st.map fun v => v.category).sum ≤ 8) (kk : Wp g μ d c n (pc + 3) ls (.long (if y < x then y else x) :: st) m Q) : Wp g μ d c n pc ls (.long y :: .long x :: st) m Q := by
  intro p e R s mid args below meth cd r0 r H locs cells slots la hs
  obtain ⟨C, M, S, hr, hls, hst, hla, hc, hn⟩ := hs
  have hf := C.fr
  have h9 := st8 (g := g) (r := r) h8
  exact va_mmin_long C.1 C.2.1 (by rw [C.2.2.2.1]; exact hla.1.symm) C.own (C.hts _ hm.1) (C.hts _ hm.2.1) (C.hts _ hm.2.2.1) (C.hts _ hm.2.2.2.1) (by omega) (by omega) (by omega) (by omega) hd (kk p e R s mid args below meth cd r0 r H locs cells slots la ⟨C, M, S, hr, hls, okl_cl (okl_tail (okl_tail hst)), hla, hc, hn⟩)
end MA
section AN
variable {g : GG} {μ : MD} {d c n pc : Nat} {ls st : List Value} {m : MM} {Q : Out → Prop}
theorem r_ialoadn (j : Nat) {a l : Nat} {i : Int32} (hj : i.toNatClampNeg = j) (hd : decode μ.2.1 pc = .ok (.iaload, 1)) (ha : kdl m a = some (13, l)) (hi : vp_in i l) (kk : Wp g μ d c n (pc + 1) ls (.int (ldI m a j) :: st) m Q) : Wp g μ d c n pc ls (.int i :: .ref a :: st) m Q := by subst hj; exact r_iaload hd ha hi kk
theorem r_laloadn (j : Nat) {a l : Nat} {i : Int32} (hj : i.toNatClampNeg = j) (hd : decode μ.2.1 pc = .ok (.laload, 1)) (ha : kdl m a = some (14, l)) (hi : vp_in i l) (kk : Wp g μ d c n (pc + 1) ls (.long (ldL m a j) :: st) m Q) : Wp g μ d c n pc ls (.int i :: .ref a :: st) m Q := by subst hj; exact r_laload hd ha hi kk
theorem r_iastoren (j : Nat) {a l : Nat} {i x : Int32} (hj : i.toNatClampNeg = j) (hd : decode μ.2.1 pc = .ok (.iastore, 1)) (ha : kdl m a = some (13, l)) (hi : vp_in i l) (kk : Wp g μ d c n (pc + 1) ls st (stI m a j x) Q) : Wp g μ d c n pc ls (.int x :: .int i :: .ref a :: st) m Q := by subst hj; exact r_iastore hd ha hi kk
theorem r_lastoren (j : Nat) {a l : Nat} {i : Int32} {x : Int64} (hj : i.toNatClampNeg = j) (hd : decode μ.2.1 pc = .ok (.lastore, 1)) (ha : kdl m a = some (14, l)) (hi : vp_in i l) (kk : Wp g μ d c n (pc + 1) ls st (stL m a j x) Q) : Wp g μ d c n pc ls (.long x :: .int i :: .ref a :: st) m Q := by subst hj; exact r_lastore hd ha hi kk
end AN
section AG
variable {g : GG} {μ : MD} {d c n pc : Nat} {ls st : List Value} {m : MM} {Q : Out → Prop}
theorem r_getIc {idx ci k a l : Nat} (v : Int32) (hd : decode μ.2.1 pc = .ok (.getfield idx, 3)) (hf : FL μ.1.cls idx ci k) (hty : isI (tF ci k) = true) (ha : kdl m a = some (ci, l)) (hv : ldI m a k = v) (kk : Wp g μ d c n (pc + 3) ls (.int v :: st) m Q) : Wp g μ d c n pc ls (.ref a :: st) m Q := by subst hv; exact r_getI hd hf hty ha kk
theorem r_getLc {idx ci k a l : Nat} (v : Int64) (hd : decode μ.2.1 pc = .ok (.getfield idx, 3)) (hf : FL μ.1.cls idx ci k) (hty : tF ci k = .long) (ha : kdl m a = some (ci, l)) (hv : ldL m a k = v) (kk : Wp g μ d c n (pc + 3) ls (.long v :: st) m Q) : Wp g μ d c n pc ls (.ref a :: st) m Q := by subst hv; exact r_getL hd hf hty ha kk
theorem r_ialoadc (v : Int32) {a l : Nat} {i : Int32} (hd : decode μ.2.1 pc = .ok (.iaload, 1)) (ha : kdl m a = some (13, l)) (hi : vp_in i l) (hv : ldI m a i.toNatClampNeg = v) (kk : Wp g μ d c n (pc + 1) ls (.int v :: st) m Q) : Wp g μ d c n pc ls (.int i :: .ref a :: st) m Q := by subst hv; exact r_iaload hd ha hi kk
theorem r_laloadc (v : Int64) {a l : Nat} {i : Int32} (hd : decode μ.2.1 pc = .ok (.laload, 1)) (ha : kdl m a = some (14, l)) (hi : vp_in i l) (hv : ldL m a i.toNatClampNeg = v) (kk : Wp g μ d c n (pc + 1) ls (.long v :: st) m Q) : Wp g μ d c n pc ls (.int i :: .ref a :: st) m Q := by subst hv; exact r_laload hd ha hi kk
end AG
