theorem LC_0 {g : GG} {m : MM} {Q : Out → Prop} {c0 n0 i : Nat} (hX : XI m) (hi : i + 6 ≤ gL g) (hL : gL g ≤ 3072) (kk : ∀ m', XI m' → Wp g mL_law_ 60 c0 n0 2601 [.ref 1, .ref 4, .ref 167, .ref 283, .int (nI i), .retAddr 0, .retAddr 0, .retAddr 0] [] m' Q) : Wp g mL_law_ 60 (c0 + 4) (n0 + 407) 212 [.ref 1, .ref 4, .ref 167, .ref 283, .int (nI i), .retAddr 0, .retAddr 0, .retAddr 0] [] m Q := by
  refine r_aload_n dL_law__212 rfl ?_
  refine r_aload_n dL_law__213 rfl ?_
  refine r_iload dL_law__214 rfl ?_
  refine r_iconst (1) dL_law__216 rfl ?_
  refine r_iadd dL_law__217 ?_
  refine r_sld dL_law__218 (by exact sv 1 (by omega) hi hL) ?_
  refine r_aload_n dL_law__219 rfl ?_
  refine r_iload dL_law__220 rfl ?_
  refine r_iconst (2) dL_law__222 rfl ?_
  refine r_iadd dL_law__223 ?_
  refine r_sld dL_law__224 (by exact sv 2 (by omega) hi hL) ?_
  refine r_aload_n dL_law__225 rfl ?_
  refine w_wide (c' := c0 + 2) (n' := n0 + 12) (by omega) (by omega) ?_
  refine r_callT (d1 := 8) (c1 := 2) (n1 := 12) (c := c0) (n := n0) (st := []) [.ref 4, .int (gX g (nI i + 1).toNatClampNeg), .int (gX g (nI i + 2).toNatClampNeg), .ref 283] rfl dL_law__226 mtL_126 rfl (Nat.le_of_ble_eq_true rfl) (by exact Nat.le_of_ble_eq_true rfl) ?_
  refine Cl.mono (fun o ho => ?_) (P_hull hX)
  obtain ⟨out, m1⟩ := o
  obtain ⟨k, e, hF1, hR⟩ := ho
  have e : out = .inl (some (.int k)) := e
  subst e
  have hF1 : Fx m1 := hF1
  show Wp g mL_law_ _ _ _ 229 _ (_ :: _) _ Q
  refine si_5 dL_law__229 rfl (Nat.le_of_ble_eq_true rfl) ?_
  refine r_aload_n dL_law__231 rfl ?_
  refine r_aload_n dL_law__232 rfl ?_
  refine r_iload dL_law__233 rfl ?_
  refine r_iconst (1) dL_law__235 rfl ?_
  refine r_iadd dL_law__236 ?_
  refine r_sld dL_law__237 (by exact sv 1 (by omega) hi hL) ?_
  refine r_aload_n dL_law__238 rfl ?_
  refine r_iload dL_law__239 rfl ?_
  refine r_iconst (2) dL_law__241 rfl ?_
  refine r_iadd dL_law__242 ?_
  refine r_sld dL_law__243 (by exact sv 2 (by omega) hi hL) ?_
  refine r_callV (d1 := 1) (c1 := 0) (n1 := 0) (c := c0) (n := n0) (a := 167) (ci := 12) (l := 0) (st := []) [.int (gX g (nI i + 1).toNatClampNeg), .int (gX g (nI i + 2).toNatClampNeg)] rfl dL_law__244 mvL_131 rfl (by exact k_167 hF1) ⟨(Nat.le_of_ble_eq_true rfl), rfl⟩ (Nat.le_of_ble_eq_true rfl) (by exact Nat.le_of_ble_eq_true rfl) ?_
  refine Cl.mono (fun o2 ho2 => ?_) hR
  obtain ⟨out2, m2⟩ := o2
  obtain ⟨b, e2, hX2, ht, hl⟩ := ho2
  have e2 : out2 = .inl (some (.int b)) := e2
  subst e2
  have hX2 : XI m2 := hX2
  have ht : ldI m2 167 0 = k := ht
  have hl : k = 0 → ldL m2 283 0 = b.toInt64 := hl
  have hF2 := hX2.F
  show Wp g mL_law_ _ _ _ 247 _ (_ :: _) _ Q
  refine si_6 dL_law__247 rfl (Nat.le_of_ble_eq_true rfl) ?_
  refine r_aload_n dL_law__249 rfl ?_
  refine r_callV (d1 := 0) (c1 := 0) (n1 := 0) (c := c0) (n := n0) (a := 167) (ci := 12) (l := 0) (st := []) [] rfl dL_law__250 mvL_132 rfl (by exact k_167 hF2) ⟨(Nat.le_of_ble_eq_true rfl), rfl⟩ (Nat.le_of_ble_eq_true rfl) (by exact Nat.le_of_ble_eq_true rfl) ?_
  refine S_X12_thrown hF2 ?_
  show Wp g mL_law_ _ _ _ 253 _ (_ :: _) _ Q
  refine r_iload dL_law__253 rfl ?_
  refine r_icmp_eq 260 dL_law__255 rfl (fun _ => ?_) (fun hq => absurd ht hq)
  refine r_iload dL_law__260 rfl ?_
  refine r_if_ne 277 dL_law__262 rfl (fun _ => ?_) (fun h0 => ?_)
  ·
    refine r_goto 2601 dL_law__277 rfl ?_
    exact w_fg (kk _ hX2)
  ·
    refine r_aload_n dL_law__265 rfl ?_
    refine r_iconst (0) dL_law__266 rfl ?_
    refine r_laloadn (0) rfl dL_law__267 (by exact k_283 hF2) (vin (j := 0) (by omega) (by omega)) ?_
    refine r_iload dL_law__268 rfl ?_
    refine r_i2l dL_law__270 ?_
    refine r_lcmp_eq 277 dL_law__271 dL_law__272 rfl (fun _ => ?_) (fun hq => absurd (hl h0) hq)
    refine r_goto 2601 dL_law__277 rfl ?_
    exact w_fg (kk _ hX2)
theorem LC_1 {g : GG} {m : MM} {Q : Out → Prop} {c0 n0 i : Nat} (hX : XI m) (hi : i + 6 ≤ gL g) (hL : gL g ≤ 3072) (kk : ∀ m', XI m' → Wp g mL_law_ 60 c0 n0 2601 [.ref 1, .ref 4, .ref 167, .ref 283, .int (nI i), .retAddr 0, .retAddr 0, .retAddr 0] [] m' Q) : Wp g mL_law_ 60 (c0 + 4) (n0 + 407) 280 [.ref 1, .ref 4, .ref 167, .ref 283, .int (nI i), .retAddr 0, .retAddr 0, .retAddr 0] [] m Q := by
  refine r_aload_n dL_law__280 rfl ?_
  refine r_aload_n dL_law__281 rfl ?_
  refine r_iload dL_law__282 rfl ?_
  refine r_iconst (1) dL_law__284 rfl ?_
  refine r_iadd dL_law__285 ?_
  refine r_sld dL_law__286 (by exact sv 1 (by omega) hi hL) ?_
  refine r_aload_n dL_law__287 rfl ?_
  refine r_iload dL_law__288 rfl ?_
  refine r_iconst (2) dL_law__290 rfl ?_
  refine r_iadd dL_law__291 ?_
  refine r_sld dL_law__292 (by exact sv 2 (by omega) hi hL) ?_
  refine r_aload_n dL_law__293 rfl ?_
  refine r_iload dL_law__294 rfl ?_
  refine r_iconst (3) dL_law__296 rfl ?_
  refine r_iadd dL_law__297 ?_
  refine r_sld dL_law__298 (by exact sv 3 (by omega) hi hL) ?_
  refine r_aload_n dL_law__299 rfl ?_
  refine r_iload dL_law__300 rfl ?_
  refine r_iconst (4) dL_law__302 rfl ?_
  refine r_iadd dL_law__303 ?_
  refine r_sld dL_law__304 (by exact sv 4 (by omega) hi hL) ?_
  refine r_aload_n dL_law__305 rfl ?_
  refine w_wide (c' := c0 + 3) (n' := n0 + 18) (by omega) (by omega) ?_
  refine r_callT (d1 := 8) (c1 := 3) (n1 := 18) (c := c0) (n := n0) (st := []) [.ref 4, .int (gX g (nI i + 1).toNatClampNeg), .int (gX g (nI i + 2).toNatClampNeg), .int (gX g (nI i + 3).toNatClampNeg), .int (gX g (nI i + 4).toNatClampNeg), .ref 283] rfl dL_law__306 mtL_136 rfl (Nat.le_of_ble_eq_true rfl) (by exact Nat.le_of_ble_eq_true rfl) ?_
  refine Cl.mono (fun o ho => ?_) (P_station hX)
  obtain ⟨out, m1⟩ := o
  obtain ⟨k, e, hF1, hR⟩ := ho
  have e : out = .inl (some (.int k)) := e
  subst e
  have hF1 : Fx m1 := hF1
  show Wp g mL_law_ _ _ _ 309 _ (_ :: _) _ Q
  refine si_5 dL_law__309 rfl (Nat.le_of_ble_eq_true rfl) ?_
  refine r_aload_n dL_law__311 rfl ?_
  refine r_aload_n dL_law__312 rfl ?_
  refine r_iload dL_law__313 rfl ?_
  refine r_iconst (1) dL_law__315 rfl ?_
  refine r_iadd dL_law__316 ?_
  refine r_sld dL_law__317 (by exact sv 1 (by omega) hi hL) ?_
  refine r_aload_n dL_law__318 rfl ?_
  refine r_iload dL_law__319 rfl ?_
  refine r_iconst (2) dL_law__321 rfl ?_
  refine r_iadd dL_law__322 ?_
  refine r_sld dL_law__323 (by exact sv 2 (by omega) hi hL) ?_
  refine r_aload_n dL_law__324 rfl ?_
  refine r_iload dL_law__325 rfl ?_
  refine r_iconst (3) dL_law__327 rfl ?_
  refine r_iadd dL_law__328 ?_
  refine r_sld dL_law__329 (by exact sv 3 (by omega) hi hL) ?_
  refine r_aload_n dL_law__330 rfl ?_
  refine r_iload dL_law__331 rfl ?_
  refine r_iconst (4) dL_law__333 rfl ?_
  refine r_iadd dL_law__334 ?_
  refine r_sld dL_law__335 (by exact sv 4 (by omega) hi hL) ?_
  refine r_callV (d1 := 2) (c1 := 0) (n1 := 0) (c := c0) (n := n0) (a := 167) (ci := 12) (l := 0) (st := []) [.int (gX g (nI i + 1).toNatClampNeg), .int (gX g (nI i + 2).toNatClampNeg), .int (gX g (nI i + 3).toNatClampNeg), .int (gX g (nI i + 4).toNatClampNeg)] rfl dL_law__336 mvL_139 rfl (by exact k_167 hF1) ⟨(Nat.le_of_ble_eq_true rfl), rfl⟩ (Nat.le_of_ble_eq_true rfl) (by exact Nat.le_of_ble_eq_true rfl) ?_
  refine Cl.mono (fun o2 ho2 => ?_) hR
  obtain ⟨out2, m2⟩ := o2
  obtain ⟨b, e2, hX2, ht, hl⟩ := ho2
  have e2 : out2 = .inl (some (.int b)) := e2
  subst e2
  have hX2 : XI m2 := hX2
  have ht : ldI m2 167 0 = k := ht
  have hl : k = 0 → ldL m2 283 0 = b.toInt64 := hl
  have hF2 := hX2.F
  show Wp g mL_law_ _ _ _ 339 _ (_ :: _) _ Q
  refine si_6 dL_law__339 rfl (Nat.le_of_ble_eq_true rfl) ?_
  refine r_aload_n dL_law__341 rfl ?_
  refine r_callV (d1 := 0) (c1 := 0) (n1 := 0) (c := c0) (n := n0) (a := 167) (ci := 12) (l := 0) (st := []) [] rfl dL_law__342 mvL_132 rfl (by exact k_167 hF2) ⟨(Nat.le_of_ble_eq_true rfl), rfl⟩ (Nat.le_of_ble_eq_true rfl) (by exact Nat.le_of_ble_eq_true rfl) ?_
  refine S_X12_thrown hF2 ?_
  show Wp g mL_law_ _ _ _ 345 _ (_ :: _) _ Q
  refine r_iload dL_law__345 rfl ?_
  refine r_icmp_eq 352 dL_law__347 rfl (fun _ => ?_) (fun hq => absurd ht hq)
  refine r_iload dL_law__352 rfl ?_
  refine r_if_ne 369 dL_law__354 rfl (fun _ => ?_) (fun h0 => ?_)
  ·
    refine r_goto 2601 dL_law__369 rfl ?_
    exact w_fg (kk _ hX2)
  ·
    refine r_aload_n dL_law__357 rfl ?_
    refine r_iconst (0) dL_law__358 rfl ?_
    refine r_laloadn (0) rfl dL_law__359 (by exact k_283 hF2) (vin (j := 0) (by omega) (by omega)) ?_
    refine r_iload dL_law__360 rfl ?_
    refine r_i2l dL_law__362 ?_
    refine r_lcmp_eq 369 dL_law__363 dL_law__364 rfl (fun _ => ?_) (fun hq => absurd (hl h0) hq)
    refine r_goto 2601 dL_law__369 rfl ?_
    exact w_fg (kk _ hX2)
theorem LC_2 {g : GG} {m : MM} {Q : Out → Prop} {c0 n0 i : Nat} (hX : XI m) (hi : i + 6 ≤ gL g) (hL : gL g ≤ 3072) (kk : ∀ m', XI m' → Wp g mL_law_ 60 c0 n0 2601 [.ref 1, .ref 4, .ref 167, .ref 283, .int (nI i), .retAddr 0, .retAddr 0, .retAddr 0] [] m' Q) : Wp g mL_law_ 60 (c0 + 4) (n0 + 407) 372 [.ref 1, .ref 4, .ref 167, .ref 283, .int (nI i), .retAddr 0, .retAddr 0, .retAddr 0] [] m Q := by
  refine r_aload_n dL_law__372 rfl ?_
  refine r_aload_n dL_law__373 rfl ?_
  refine r_iload dL_law__374 rfl ?_
  refine r_iconst (1) dL_law__376 rfl ?_
  refine r_iadd dL_law__377 ?_
  refine r_sld dL_law__378 (by exact sv 1 (by omega) hi hL) ?_
  refine r_aload_n dL_law__379 rfl ?_
  refine r_iload dL_law__380 rfl ?_
  refine r_iconst (2) dL_law__382 rfl ?_
  refine r_iadd dL_law__383 ?_
  refine r_sld dL_law__384 (by exact sv 2 (by omega) hi hL) ?_
  refine r_aload_n dL_law__385 rfl ?_
  refine r_iload dL_law__386 rfl ?_
  refine r_iconst (3) dL_law__388 rfl ?_
  refine r_iadd dL_law__389 ?_
  refine r_sld dL_law__390 (by exact sv 3 (by omega) hi hL) ?_
  refine r_aload_n dL_law__391 rfl ?_
  refine w_wide (c' := c0 + 2) (n' := n0 + 12) (by omega) (by omega) ?_
  refine r_callT (d1 := 8) (c1 := 2) (n1 := 12) (c := c0) (n := n0) (st := []) [.ref 4, .int (gX g (nI i + 1).toNatClampNeg), .int (gX g (nI i + 2).toNatClampNeg), .int (gX g (nI i + 3).toNatClampNeg), .ref 283] rfl dL_law__392 mtL_140 rfl (Nat.le_of_ble_eq_true rfl) (by exact Nat.le_of_ble_eq_true rfl) ?_
  refine Cl.mono (fun o ho => ?_) (P_model hX)
  obtain ⟨out, m1⟩ := o
  obtain ⟨k, e, hF1, hR⟩ := ho
  have e : out = .inl (some (.int k)) := e
  subst e
  have hF1 : Fx m1 := hF1
  show Wp g mL_law_ _ _ _ 395 _ (_ :: _) _ Q
  refine si_5 dL_law__395 rfl (Nat.le_of_ble_eq_true rfl) ?_
  refine r_aload_n dL_law__397 rfl ?_
  refine r_aload_n dL_law__398 rfl ?_
  refine r_iload dL_law__399 rfl ?_
  refine r_iconst (1) dL_law__401 rfl ?_
  refine r_iadd dL_law__402 ?_
  refine r_sld dL_law__403 (by exact sv 1 (by omega) hi hL) ?_
  refine r_aload_n dL_law__404 rfl ?_
  refine r_iload dL_law__405 rfl ?_
  refine r_iconst (2) dL_law__407 rfl ?_
  refine r_iadd dL_law__408 ?_
  refine r_sld dL_law__409 (by exact sv 2 (by omega) hi hL) ?_
  refine r_aload_n dL_law__410 rfl ?_
  refine r_iload dL_law__411 rfl ?_
  refine r_iconst (3) dL_law__413 rfl ?_
  refine r_iadd dL_law__414 ?_
  refine r_sld dL_law__415 (by exact sv 3 (by omega) hi hL) ?_
  refine r_callV (d1 := 2) (c1 := 0) (n1 := 0) (c := c0) (n := n0) (a := 167) (ci := 12) (l := 0) (st := []) [.int (gX g (nI i + 1).toNatClampNeg), .int (gX g (nI i + 2).toNatClampNeg), .int (gX g (nI i + 3).toNatClampNeg)] rfl dL_law__416 mvL_143 rfl (by exact k_167 hF1) ⟨(Nat.le_of_ble_eq_true rfl), rfl⟩ (Nat.le_of_ble_eq_true rfl) (by exact Nat.le_of_ble_eq_true rfl) ?_
  refine Cl.mono (fun o2 ho2 => ?_) hR
  obtain ⟨out2, m2⟩ := o2
  obtain ⟨b, e2, hX2, ht, hl⟩ := ho2
  have e2 : out2 = .inl (some (.int b)) := e2
  subst e2
  have hX2 : XI m2 := hX2
  have ht : ldI m2 167 0 = k := ht
  have hl : k = 0 → ldL m2 283 0 = b.toInt64 := hl
  have hF2 := hX2.F
  show Wp g mL_law_ _ _ _ 419 _ (_ :: _) _ Q
  refine si_6 dL_law__419 rfl (Nat.le_of_ble_eq_true rfl) ?_
  refine r_aload_n dL_law__421 rfl ?_
  refine r_callV (d1 := 0) (c1 := 0) (n1 := 0) (c := c0) (n := n0) (a := 167) (ci := 12) (l := 0) (st := []) [] rfl dL_law__422 mvL_132 rfl (by exact k_167 hF2) ⟨(Nat.le_of_ble_eq_true rfl), rfl⟩ (Nat.le_of_ble_eq_true rfl) (by exact Nat.le_of_ble_eq_true rfl) ?_
  refine S_X12_thrown hF2 ?_
  show Wp g mL_law_ _ _ _ 425 _ (_ :: _) _ Q
  refine r_iload dL_law__425 rfl ?_
  refine r_icmp_eq 432 dL_law__427 rfl (fun _ => ?_) (fun hq => absurd ht hq)
  refine r_iload dL_law__432 rfl ?_
  refine r_if_ne 449 dL_law__434 rfl (fun _ => ?_) (fun h0 => ?_)
  ·
    refine r_goto 2601 dL_law__449 rfl ?_
    exact w_fg (kk _ hX2)
  ·
    refine r_aload_n dL_law__437 rfl ?_
    refine r_iconst (0) dL_law__438 rfl ?_
    refine r_laloadn (0) rfl dL_law__439 (by exact k_283 hF2) (vin (j := 0) (by omega) (by omega)) ?_
    refine r_iload dL_law__440 rfl ?_
    refine r_i2l dL_law__442 ?_
    refine r_lcmp_eq 449 dL_law__443 dL_law__444 rfl (fun _ => ?_) (fun hq => absurd (hl h0) hq)
    refine r_goto 2601 dL_law__449 rfl ?_
    exact w_fg (kk _ hX2)
theorem LC_3 {g : GG} {m : MM} {Q : Out → Prop} {c0 n0 i : Nat} (hX : XI m) (hi : i + 6 ≤ gL g) (hL : gL g ≤ 3072) (kk : ∀ m', XI m' → Wp g mL_law_ 60 c0 n0 2601 [.ref 1, .ref 4, .ref 167, .ref 283, .int (nI i), .retAddr 0, .retAddr 0, .retAddr 0] [] m' Q) : Wp g mL_law_ 60 (c0 + 4) (n0 + 407) 452 [.ref 1, .ref 4, .ref 167, .ref 283, .int (nI i), .retAddr 0, .retAddr 0, .retAddr 0] [] m Q := by
  refine r_aload_n dL_law__452 rfl ?_
  refine r_aload_n dL_law__453 rfl ?_
  refine r_iload dL_law__454 rfl ?_
  refine r_iconst (1) dL_law__456 rfl ?_
  refine r_iadd dL_law__457 ?_
  refine r_sld dL_law__458 (by exact sv 1 (by omega) hi hL) ?_
  refine r_aload_n dL_law__459 rfl ?_
  refine r_iload dL_law__460 rfl ?_
  refine r_iconst (2) dL_law__462 rfl ?_
  refine r_iadd dL_law__463 ?_
  refine r_sld dL_law__464 (by exact sv 2 (by omega) hi hL) ?_
  refine r_aload_n dL_law__465 rfl ?_
  refine w_wide (c' := c0 + 1) (n' := n0 + 6) (by omega) (by omega) ?_
  refine r_callT (d1 := 8) (c1 := 1) (n1 := 6) (c := c0) (n := n0) (st := []) [.ref 4, .int (gX g (nI i + 1).toNatClampNeg), .int (gX g (nI i + 2).toNatClampNeg), .ref 283] rfl dL_law__466 mtL_144 rfl (Nat.le_of_ble_eq_true rfl) (by exact Nat.le_of_ble_eq_true rfl) ?_
  refine Cl.mono (fun o ho => ?_) (P_tank hX)
  obtain ⟨out, m1⟩ := o
  obtain ⟨k, e, hF1, hR⟩ := ho
  have e : out = .inl (some (.int k)) := e
  subst e
  have hF1 : Fx m1 := hF1
  show Wp g mL_law_ _ _ _ 469 _ (_ :: _) _ Q
  refine si_5 dL_law__469 rfl (Nat.le_of_ble_eq_true rfl) ?_
  refine r_aload_n dL_law__471 rfl ?_
  refine r_aload_n dL_law__472 rfl ?_
  refine r_iload dL_law__473 rfl ?_
  refine r_iconst (1) dL_law__475 rfl ?_
  refine r_iadd dL_law__476 ?_
  refine r_sld dL_law__477 (by exact sv 1 (by omega) hi hL) ?_
  refine r_aload_n dL_law__478 rfl ?_
  refine r_iload dL_law__479 rfl ?_
  refine r_iconst (2) dL_law__481 rfl ?_
  refine r_iadd dL_law__482 ?_
  refine r_sld dL_law__483 (by exact sv 2 (by omega) hi hL) ?_
  refine r_callV (d1 := 1) (c1 := 0) (n1 := 0) (c := c0) (n := n0) (a := 167) (ci := 12) (l := 0) (st := []) [.int (gX g (nI i + 1).toNatClampNeg), .int (gX g (nI i + 2).toNatClampNeg)] rfl dL_law__484 mvL_146 rfl (by exact k_167 hF1) ⟨(Nat.le_of_ble_eq_true rfl), rfl⟩ (Nat.le_of_ble_eq_true rfl) (by exact Nat.le_of_ble_eq_true rfl) ?_
  refine Cl.mono (fun o2 ho2 => ?_) hR
  obtain ⟨out2, m2⟩ := o2
  obtain ⟨b, e2, hX2, ht, hl⟩ := ho2
  have e2 : out2 = .inl (some (.int b)) := e2
  subst e2
  have hX2 : XI m2 := hX2
  have ht : ldI m2 167 0 = k := ht
  have hl : k = 0 → ldL m2 283 0 = b.toInt64 := hl
  have hF2 := hX2.F
  show Wp g mL_law_ _ _ _ 487 _ (_ :: _) _ Q
  refine si_6 dL_law__487 rfl (Nat.le_of_ble_eq_true rfl) ?_
  refine r_aload_n dL_law__489 rfl ?_
  refine r_callV (d1 := 0) (c1 := 0) (n1 := 0) (c := c0) (n := n0) (a := 167) (ci := 12) (l := 0) (st := []) [] rfl dL_law__490 mvL_132 rfl (by exact k_167 hF2) ⟨(Nat.le_of_ble_eq_true rfl), rfl⟩ (Nat.le_of_ble_eq_true rfl) (by exact Nat.le_of_ble_eq_true rfl) ?_
  refine S_X12_thrown hF2 ?_
  show Wp g mL_law_ _ _ _ 493 _ (_ :: _) _ Q
  refine r_iload dL_law__493 rfl ?_
  refine r_icmp_eq 500 dL_law__495 rfl (fun _ => ?_) (fun hq => absurd ht hq)
  refine r_iload dL_law__500 rfl ?_
  refine r_if_ne 517 dL_law__502 rfl (fun _ => ?_) (fun h0 => ?_)
  ·
    refine r_goto 2601 dL_law__517 rfl ?_
    exact w_fg (kk _ hX2)
  ·
    refine r_aload_n dL_law__505 rfl ?_
    refine r_iconst (0) dL_law__506 rfl ?_
    refine r_laloadn (0) rfl dL_law__507 (by exact k_283 hF2) (vin (j := 0) (by omega) (by omega)) ?_
    refine r_iload dL_law__508 rfl ?_
    refine r_i2l dL_law__510 ?_
    refine r_lcmp_eq 517 dL_law__511 dL_law__512 rfl (fun _ => ?_) (fun hq => absurd (hl h0) hq)
    refine r_goto 2601 dL_law__517 rfl ?_
    exact w_fg (kk _ hX2)
theorem LC_4 {g : GG} {m : MM} {Q : Out → Prop} {c0 n0 i : Nat} (hX : XI m) (hi : i + 6 ≤ gL g) (hL : gL g ≤ 3072) (kk : ∀ m', XI m' → Wp g mL_law_ 60 c0 n0 2601 [.ref 1, .ref 4, .ref 167, .ref 283, .int (nI i), .retAddr 0, .retAddr 0, .retAddr 0] [] m' Q) : Wp g mL_law_ 60 (c0 + 4) (n0 + 407) 520 [.ref 1, .ref 4, .ref 167, .ref 283, .int (nI i), .retAddr 0, .retAddr 0, .retAddr 0] [] m Q := by
  refine r_aload_n dL_law__520 rfl ?_
  refine r_aload_n dL_law__521 rfl ?_
  refine r_iload dL_law__522 rfl ?_
  refine r_iconst (1) dL_law__524 rfl ?_
  refine r_iadd dL_law__525 ?_
  refine r_sld dL_law__526 (by exact sv 1 (by omega) hi hL) ?_
  refine r_aload_n dL_law__527 rfl ?_
  refine r_iload dL_law__528 rfl ?_
  refine r_iconst (2) dL_law__530 rfl ?_
  refine r_iadd dL_law__531 ?_
  refine r_sld dL_law__532 (by exact sv 2 (by omega) hi hL) ?_
  refine r_aload_n dL_law__533 rfl ?_
  refine r_iload dL_law__534 rfl ?_
  refine r_iconst (3) dL_law__536 rfl ?_
  refine r_iadd dL_law__537 ?_
  refine r_sld dL_law__538 (by exact sv 3 (by omega) hi hL) ?_
  refine r_aload_n dL_law__539 rfl ?_
  refine r_iload dL_law__540 rfl ?_
  refine r_iconst (4) dL_law__542 rfl ?_
  refine r_iadd dL_law__543 ?_
  refine r_sld dL_law__544 (by exact sv 4 (by omega) hi hL) ?_
  refine r_aload_n dL_law__545 rfl ?_
  refine r_iload dL_law__546 rfl ?_
  refine r_iconst (5) dL_law__548 rfl ?_
  refine r_iadd dL_law__549 ?_
  refine r_sld dL_law__550 (by exact sv 5 (by omega) hi hL) ?_
  refine w_wide (c' := c0) (n' := n0) (by omega) (by omega) ?_
  refine r_callV (d1 := 2) (c1 := 0) (n1 := 0) (c := c0) (n := n0) (a := 4) (ci := 11) (l := 0) (st := []) [.int (gX g (nI i + 1).toNatClampNeg), .int (gX g (nI i + 2).toNatClampNeg), .int (gX g (nI i + 3).toNatClampNeg), .int (gX g (nI i + 4).toNatClampNeg), .int (gX g (nI i + 5).toNatClampNeg)] rfl dL_law__551 mvL_147 rfl (by exact k_4 hX.F) ⟨(Nat.le_of_ble_eq_true rfl), rfl⟩ (Nat.le_of_ble_eq_true rfl) (by exact Nat.le_of_ble_eq_true rfl) ?_
  refine Cl.mono (fun o ho => ?_) (P_feed hX)
  obtain ⟨out, m1⟩ := o
  obtain ⟨k, e, hF1, hR⟩ := ho
  have e : out = .inl (some (.int k)) := e
  subst e
  have hF1 : Fx m1 := hF1
  show Wp g mL_law_ _ _ _ 554 _ (_ :: _) _ Q
  refine r_aload_n dL_law__554 rfl ?_
  refine r_aload_n dL_law__555 rfl ?_
  refine r_iload dL_law__556 rfl ?_
  refine r_iconst (1) dL_law__558 rfl ?_
  refine r_iadd dL_law__559 ?_
  refine r_sld dL_law__560 (by exact sv 1 (by omega) hi hL) ?_
  refine r_aload_n dL_law__561 rfl ?_
  refine r_iload dL_law__562 rfl ?_
  refine r_iconst (2) dL_law__564 rfl ?_
  refine r_iadd dL_law__565 ?_
  refine r_sld dL_law__566 (by exact sv 2 (by omega) hi hL) ?_
  refine r_aload_n dL_law__567 rfl ?_
  refine r_iload dL_law__568 rfl ?_
  refine r_iconst (3) dL_law__570 rfl ?_
  refine r_iadd dL_law__571 ?_
  refine r_sld dL_law__572 (by exact sv 3 (by omega) hi hL) ?_
  refine r_aload_n dL_law__573 rfl ?_
  refine r_iload dL_law__574 rfl ?_
  refine r_iconst (4) dL_law__576 rfl ?_
  refine r_iadd dL_law__577 ?_
  refine r_sld dL_law__578 (by exact sv 4 (by omega) hi hL) ?_
  refine r_aload_n dL_law__579 rfl ?_
  refine r_iload dL_law__580 rfl ?_
  refine r_iconst (5) dL_law__582 rfl ?_
  refine r_iadd dL_law__583 ?_
  refine r_sld dL_law__584 (by exact sv 5 (by omega) hi hL) ?_
  refine r_callV (d1 := 0) (c1 := 0) (n1 := 0) (c := c0) (n := n0) (a := 167) (ci := 12) (l := 0) (st := [.int k]) [.int (gX g (nI i + 1).toNatClampNeg), .int (gX g (nI i + 2).toNatClampNeg), .int (gX g (nI i + 3).toNatClampNeg), .int (gX g (nI i + 4).toNatClampNeg), .int (gX g (nI i + 5).toNatClampNeg)] rfl dL_law__585 mvL_151 rfl (by exact k_167 hF1) ⟨(Nat.le_of_ble_eq_true rfl), rfl⟩ (Nat.le_of_ble_eq_true rfl) (by exact Nat.le_of_ble_eq_true rfl) ?_
  refine Cl.mono (fun o2 ho2 => ?_) hR
  obtain ⟨out2, m2⟩ := o2
  obtain ⟨e2, hX2⟩ := ho2
  have e2 : out2 = .inl (some (.int k)) := e2
  subst e2
  have hX2 : XI m2 := hX2
  have hF2 := hX2.F
  show Wp g mL_law_ _ _ _ 588 _ (_ :: _) _ Q
  refine r_icmp_eq 2601 dL_law__588 rfl (fun _ => ?_) (fun hq => absurd rfl hq)
  exact w_fg (kk _ hX2)
theorem LC_5 {g : GG} {m : MM} {Q : Out → Prop} {c0 n0 i : Nat} (hX : XI m) (hi : i + 6 ≤ gL g) (hL : gL g ≤ 3072) (kk : ∀ m', XI m' → Wp g mL_law_ 60 c0 n0 2601 [.ref 1, .ref 4, .ref 167, .ref 283, .int (nI i), .retAddr 0, .retAddr 0, .retAddr 0] [] m' Q) : Wp g mL_law_ 60 (c0 + 4) (n0 + 407) 593 [.ref 1, .ref 4, .ref 167, .ref 283, .int (nI i), .retAddr 0, .retAddr 0, .retAddr 0] [] m Q := by
  refine r_aload_n dL_law__593 rfl ?_
  refine r_aload_n dL_law__594 rfl ?_
  refine r_iload dL_law__595 rfl ?_
  refine r_iconst (1) dL_law__597 rfl ?_
  refine r_iadd dL_law__598 ?_
  refine r_sld dL_law__599 (by exact sv 1 (by omega) hi hL) ?_
  refine r_aload_n dL_law__600 rfl ?_
  refine r_iload dL_law__601 rfl ?_
  refine r_iconst (2) dL_law__603 rfl ?_
  refine r_iadd dL_law__604 ?_
  refine r_sld dL_law__605 (by exact sv 2 (by omega) hi hL) ?_
  refine r_if_eq 613 dL_law__606 rfl (fun hz1 => ?_) (fun hz1 => ?_)
  ·
    refine r_iconst (0) dL_law__613 rfl ?_
    refine r_aload_n dL_law__614 rfl ?_
    refine w_wide (c' := c0 + 3) (n' := n0 + 407) (by omega) (by omega) ?_
    refine r_callT (d1 := 59) (c1 := 3) (n1 := 407) (c := c0) (n := n0) (st := []) [.ref 4, .int (gX g (nI i + 1).toNatClampNeg), .int 0, .ref 283] rfl dL_law__615 mtL_152 rfl (Nat.le_of_ble_eq_true rfl) (by exact Nat.le_of_ble_eq_true rfl) ?_
    refine Cl.mono (fun o ho => ?_) (P_law0 hX)
    obtain ⟨out, m1⟩ := o
    obtain ⟨k, e, hF1, hR⟩ := ho
    have e : out = .inl (some (.int k)) := e
    subst e
    have hF1 : Fx m1 := hF1
    show Wp g mL_law_ _ _ _ 618 _ (_ :: _) _ Q
    refine si_5 dL_law__618 rfl (Nat.le_of_ble_eq_true rfl) ?_
    refine r_aload_n dL_law__620 rfl ?_
    refine r_aload_n dL_law__621 rfl ?_
    refine r_iload dL_law__622 rfl ?_
    refine r_iconst (1) dL_law__624 rfl ?_
    refine r_iadd dL_law__625 ?_
    refine r_sld dL_law__626 (by exact sv 1 (by omega) hi hL) ?_
    refine r_aload_n dL_law__627 rfl ?_
    refine r_iload dL_law__628 rfl ?_
    refine r_iconst (2) dL_law__630 rfl ?_
    refine r_iadd dL_law__631 ?_
    refine r_sld dL_law__632 (by exact sv 2 (by omega) hi hL) ?_
    refine r_if_eq 640 dL_law__633 rfl (fun _ => ?_) (fun hq => absurd hz1 hq)
    refine r_iconst (0) dL_law__640 rfl ?_
    refine r_callV (d1 := 32) (c1 := 0) (n1 := 0) (c := c0) (n := n0) (a := 167) (ci := 12) (l := 0) (st := []) [.int (gX g (nI i + 1).toNatClampNeg), .int 0] rfl dL_law__641 mvL_155 rfl (by exact k_167 hF1) ⟨(Nat.le_of_ble_eq_true rfl), rfl⟩ (Nat.le_of_ble_eq_true rfl) (by exact Nat.le_of_ble_eq_true rfl) ?_
    refine Cl.mono (fun o2 ho2 => ?_) hR
    obtain ⟨out2, m2⟩ := o2
    obtain ⟨b, e2, hX2, ht, hl⟩ := ho2
    have e2 : out2 = .inl (some (.int b)) := e2
    subst e2
    have hX2 : XI m2 := hX2
    have ht : ldI m2 167 0 = k := ht
    have hl : k = 0 → ldL m2 283 0 = b.toInt64 := hl
    have hF2 := hX2.F
    show Wp g mL_law_ _ _ _ 644 _ (_ :: _) _ Q
    refine si_6 dL_law__644 rfl (Nat.le_of_ble_eq_true rfl) ?_
    refine r_aload_n dL_law__646 rfl ?_
    refine r_callV (d1 := 0) (c1 := 0) (n1 := 0) (c := c0) (n := n0) (a := 167) (ci := 12) (l := 0) (st := []) [] rfl dL_law__647 mvL_132 rfl (by exact k_167 hF2) ⟨(Nat.le_of_ble_eq_true rfl), rfl⟩ (Nat.le_of_ble_eq_true rfl) (by exact Nat.le_of_ble_eq_true rfl) ?_
    refine S_X12_thrown hF2 ?_
    show Wp g mL_law_ _ _ _ 650 _ (_ :: _) _ Q
    refine r_iload dL_law__650 rfl ?_
    refine r_icmp_eq 657 dL_law__652 rfl (fun _ => ?_) (fun hq => absurd ht hq)
    refine r_iload dL_law__657 rfl ?_
    refine r_if_ne 674 dL_law__659 rfl (fun _ => ?_) (fun h0 => ?_)
    ·
      refine r_goto 2601 dL_law__674 rfl ?_
      exact w_fg (kk _ hX2)
    ·
      refine r_aload_n dL_law__662 rfl ?_
      refine r_iconst (0) dL_law__663 rfl ?_
      refine r_laloadn (0) rfl dL_law__664 (by exact k_283 hF2) (vin (j := 0) (by omega) (by omega)) ?_
      refine r_iload dL_law__665 rfl ?_
      refine r_i2l dL_law__667 ?_
      refine r_lcmp_eq 674 dL_law__668 dL_law__669 rfl (fun _ => ?_) (fun hq => absurd (hl h0) hq)
      refine r_goto 2601 dL_law__674 rfl ?_
      exact w_fg (kk _ hX2)
  ·
    refine r_iconst (1) dL_law__609 rfl ?_
    refine r_goto 614 dL_law__610 rfl ?_
    refine r_aload_n dL_law__614 rfl ?_
    refine w_wide (c' := c0 + 3) (n' := n0 + 407) (by omega) (by omega) ?_
    refine r_callT (d1 := 59) (c1 := 3) (n1 := 407) (c := c0) (n := n0) (st := []) [.ref 4, .int (gX g (nI i + 1).toNatClampNeg), .int 1, .ref 283] rfl dL_law__615 mtL_152 rfl (Nat.le_of_ble_eq_true rfl) (by exact Nat.le_of_ble_eq_true rfl) ?_
    refine Cl.mono (fun o ho => ?_) (P_law1 hX)
    obtain ⟨out, m1⟩ := o
    obtain ⟨k, e, hF1, hR⟩ := ho
    have e : out = .inl (some (.int k)) := e
    subst e
    have hF1 : Fx m1 := hF1
    show Wp g mL_law_ _ _ _ 618 _ (_ :: _) _ Q
    refine si_5 dL_law__618 rfl (Nat.le_of_ble_eq_true rfl) ?_
    refine r_aload_n dL_law__620 rfl ?_
    refine r_aload_n dL_law__621 rfl ?_
    refine r_iload dL_law__622 rfl ?_
    refine r_iconst (1) dL_law__624 rfl ?_
    refine r_iadd dL_law__625 ?_
    refine r_sld dL_law__626 (by exact sv 1 (by omega) hi hL) ?_
    refine r_aload_n dL_law__627 rfl ?_
    refine r_iload dL_law__628 rfl ?_
    refine r_iconst (2) dL_law__630 rfl ?_
    refine r_iadd dL_law__631 ?_
    refine r_sld dL_law__632 (by exact sv 2 (by omega) hi hL) ?_
    refine r_if_eq 640 dL_law__633 rfl (fun hq => absurd hq hz1) (fun _ => ?_)
    refine r_iconst (1) dL_law__636 rfl ?_
    refine r_goto 641 dL_law__637 rfl ?_
    refine r_callV (d1 := 32) (c1 := 0) (n1 := 0) (c := c0) (n := n0) (a := 167) (ci := 12) (l := 0) (st := []) [.int (gX g (nI i + 1).toNatClampNeg), .int 1] rfl dL_law__641 mvL_155 rfl (by exact k_167 hF1) ⟨(Nat.le_of_ble_eq_true rfl), rfl⟩ (Nat.le_of_ble_eq_true rfl) (by exact Nat.le_of_ble_eq_true rfl) ?_
    refine Cl.mono (fun o2 ho2 => ?_) hR
    obtain ⟨out2, m2⟩ := o2
    obtain ⟨b, e2, hX2, ht, hl⟩ := ho2
    have e2 : out2 = .inl (some (.int b)) := e2
    subst e2
    have hX2 : XI m2 := hX2
    have ht : ldI m2 167 0 = k := ht
    have hl : k = 0 → ldL m2 283 0 = b.toInt64 := hl
    have hF2 := hX2.F
    show Wp g mL_law_ _ _ _ 644 _ (_ :: _) _ Q
    refine si_6 dL_law__644 rfl (Nat.le_of_ble_eq_true rfl) ?_
    refine r_aload_n dL_law__646 rfl ?_
    refine r_callV (d1 := 0) (c1 := 0) (n1 := 0) (c := c0) (n := n0) (a := 167) (ci := 12) (l := 0) (st := []) [] rfl dL_law__647 mvL_132 rfl (by exact k_167 hF2) ⟨(Nat.le_of_ble_eq_true rfl), rfl⟩ (Nat.le_of_ble_eq_true rfl) (by exact Nat.le_of_ble_eq_true rfl) ?_
    refine S_X12_thrown hF2 ?_
    show Wp g mL_law_ _ _ _ 650 _ (_ :: _) _ Q
    refine r_iload dL_law__650 rfl ?_
    refine r_icmp_eq 657 dL_law__652 rfl (fun _ => ?_) (fun hq => absurd ht hq)
    refine r_iload dL_law__657 rfl ?_
    refine r_if_ne 674 dL_law__659 rfl (fun _ => ?_) (fun h0 => ?_)
    ·
      refine r_goto 2601 dL_law__674 rfl ?_
      exact w_fg (kk _ hX2)
    ·
      refine r_aload_n dL_law__662 rfl ?_
      refine r_iconst (0) dL_law__663 rfl ?_
      refine r_laloadn (0) rfl dL_law__664 (by exact k_283 hF2) (vin (j := 0) (by omega) (by omega)) ?_
      refine r_iload dL_law__665 rfl ?_
      refine r_i2l dL_law__667 ?_
      refine r_lcmp_eq 674 dL_law__668 dL_law__669 rfl (fun _ => ?_) (fun hq => absurd (hl h0) hq)
      refine r_goto 2601 dL_law__674 rfl ?_
      exact w_fg (kk _ hX2)
theorem LC_6 {g : GG} {m : MM} {Q : Out → Prop} {c0 n0 i : Nat} (hX : XI m) (hi : i + 6 ≤ gL g) (hL : gL g ≤ 3072) (kk : ∀ m', XI m' → Wp g mL_law_ 60 c0 n0 2601 [.ref 1, .ref 4, .ref 167, .ref 283, .int (nI i), .retAddr 0, .retAddr 0, .retAddr 0] [] m' Q) : Wp g mL_law_ 60 (c0 + 4) (n0 + 407) 677 [.ref 1, .ref 4, .ref 167, .ref 283, .int (nI i), .retAddr 0, .retAddr 0, .retAddr 0] [] m Q := by
  refine r_aload_n dL_law__677 rfl ?_
  refine w_wide (c' := c0) (n' := n0) (by omega) (by omega) ?_
  refine r_callV (d1 := 0) (c1 := 0) (n1 := 0) (c := c0) (n := n0) (a := 4) (ci := 11) (l := 0) (st := []) [] rfl dL_law__678 mvL_156 rfl (by exact k_4 hX.F) ⟨(Nat.le_of_ble_eq_true rfl), rfl⟩ (Nat.le_of_ble_eq_true rfl) (by exact Nat.le_of_ble_eq_true rfl) ?_
  refine Cl.mono (fun o ho => ?_) (P_fault hX)
  obtain ⟨out, m1⟩ := o
  obtain ⟨k, e, hF1, hR⟩ := ho
  have e : out = .inl (some (.int k)) := e
  subst e
  have hF1 : Fx m1 := hF1
  show Wp g mL_law_ _ _ _ 681 _ (_ :: _) _ Q
  refine r_aload_n dL_law__681 rfl ?_
  refine r_callV (d1 := 0) (c1 := 0) (n1 := 0) (c := c0) (n := n0) (a := 167) (ci := 12) (l := 0) (st := [.int k]) [] rfl dL_law__682 mvL_159 rfl (by exact k_167 hF1) ⟨(Nat.le_of_ble_eq_true rfl), rfl⟩ (Nat.le_of_ble_eq_true rfl) (by exact Nat.le_of_ble_eq_true rfl) ?_
  refine Cl.mono (fun o2 ho2 => ?_) hR
  obtain ⟨out2, m2⟩ := o2
  obtain ⟨e2, hX2⟩ := ho2
  have e2 : out2 = .inl (some (.int k)) := e2
  subst e2
  have hX2 : XI m2 := hX2
  have hF2 := hX2.F
  show Wp g mL_law_ _ _ _ 685 _ (_ :: _) _ Q
  refine r_icmp_eq 2601 dL_law__685 rfl (fun _ => ?_) (fun hq => absurd rfl hq)
  exact w_fg (kk _ hX2)
theorem LC_7 {g : GG} {m : MM} {Q : Out → Prop} {c0 n0 i : Nat} (hX : XI m) (hi : i + 6 ≤ gL g) (hL : gL g ≤ 3072) (kk : ∀ m', XI m' → Wp g mL_law_ 60 c0 n0 2601 [.ref 1, .ref 4, .ref 167, .ref 283, .int (nI i), .retAddr 0, .retAddr 0, .retAddr 0] [] m' Q) : Wp g mL_law_ 60 (c0 + 4) (n0 + 407) 690 [.ref 1, .ref 4, .ref 167, .ref 283, .int (nI i), .retAddr 0, .retAddr 0, .retAddr 0] [] m Q := by
  refine r_aload_n dL_law__690 rfl ?_
  refine r_aload_n dL_law__691 rfl ?_
  refine r_iload dL_law__692 rfl ?_
  refine r_iconst (1) dL_law__694 rfl ?_
  refine r_iadd dL_law__695 ?_
  refine r_sld dL_law__696 (by exact sv 1 (by omega) hi hL) ?_
  refine r_aload_n dL_law__697 rfl ?_
  refine r_iload dL_law__698 rfl ?_
  refine r_iconst (2) dL_law__700 rfl ?_
  refine r_iadd dL_law__701 ?_
  refine r_sld dL_law__702 (by exact sv 2 (by omega) hi hL) ?_
  refine r_aload_n dL_law__703 rfl ?_
  refine r_iload dL_law__704 rfl ?_
  refine r_iconst (3) dL_law__706 rfl ?_
  refine r_iadd dL_law__707 ?_
  refine r_sld dL_law__708 (by exact sv 3 (by omega) hi hL) ?_
  refine r_aload_n dL_law__709 rfl ?_
  refine r_iload dL_law__710 rfl ?_
  refine r_iconst (4) dL_law__712 rfl ?_
  refine r_iadd dL_law__713 ?_
  refine r_sld dL_law__714 (by exact sv 4 (by omega) hi hL) ?_
  refine r_aload_n dL_law__715 rfl ?_
  refine w_wide (c' := c0 + 3) (n' := n0 + 18) (by omega) (by omega) ?_
  refine r_callT (d1 := 8) (c1 := 3) (n1 := 18) (c := c0) (n := n0) (st := []) [.ref 4, .int (gX g (nI i + 1).toNatClampNeg), .int (gX g (nI i + 2).toNatClampNeg), .int (gX g (nI i + 3).toNatClampNeg), .int (gX g (nI i + 4).toNatClampNeg), .ref 283] rfl dL_law__716 mtL_160 rfl (Nat.le_of_ble_eq_true rfl) (by exact Nat.le_of_ble_eq_true rfl) ?_
  refine Cl.mono (fun o ho => ?_) (P_set hX)
  obtain ⟨out, m1⟩ := o
  obtain ⟨k, e, hF1, hR⟩ := ho
  have e : out = .inl (some (.int k)) := e
  subst e
  have hF1 : Fx m1 := hF1
  show Wp g mL_law_ _ _ _ 719 _ (_ :: _) _ Q
  refine si_5 dL_law__719 rfl (Nat.le_of_ble_eq_true rfl) ?_
  refine r_aload_n dL_law__721 rfl ?_
  refine r_aload_n dL_law__722 rfl ?_
  refine r_iload dL_law__723 rfl ?_
  refine r_iconst (1) dL_law__725 rfl ?_
  refine r_iadd dL_law__726 ?_
  refine r_sld dL_law__727 (by exact sv 1 (by omega) hi hL) ?_
  refine r_aload_n dL_law__728 rfl ?_
  refine r_iload dL_law__729 rfl ?_
  refine r_iconst (2) dL_law__731 rfl ?_
  refine r_iadd dL_law__732 ?_
  refine r_sld dL_law__733 (by exact sv 2 (by omega) hi hL) ?_
  refine r_aload_n dL_law__734 rfl ?_
  refine r_iload dL_law__735 rfl ?_
  refine r_iconst (3) dL_law__737 rfl ?_
  refine r_iadd dL_law__738 ?_
  refine r_sld dL_law__739 (by exact sv 3 (by omega) hi hL) ?_
  refine r_aload_n dL_law__740 rfl ?_
  refine r_iload dL_law__741 rfl ?_
  refine r_iconst (4) dL_law__743 rfl ?_
  refine r_iadd dL_law__744 ?_
  refine r_sld dL_law__745 (by exact sv 4 (by omega) hi hL) ?_
  refine r_callV (d1 := 2) (c1 := 0) (n1 := 0) (c := c0) (n := n0) (a := 167) (ci := 12) (l := 0) (st := []) [.int (gX g (nI i + 1).toNatClampNeg), .int (gX g (nI i + 2).toNatClampNeg), .int (gX g (nI i + 3).toNatClampNeg), .int (gX g (nI i + 4).toNatClampNeg)] rfl dL_law__746 mvL_162 rfl (by exact k_167 hF1) ⟨(Nat.le_of_ble_eq_true rfl), rfl⟩ (Nat.le_of_ble_eq_true rfl) (by exact Nat.le_of_ble_eq_true rfl) ?_
  refine Cl.mono (fun o2 ho2 => ?_) hR
  obtain ⟨out2, m2⟩ := o2
  obtain ⟨b, e2, hX2, ht, hl⟩ := ho2
  have e2 : out2 = .inl (some (.int b)) := e2
  subst e2
  have hX2 : XI m2 := hX2
  have ht : ldI m2 167 0 = k := ht
  have hl : k = 0 → ldL m2 283 0 = b.toInt64 := hl
  have hF2 := hX2.F
  show Wp g mL_law_ _ _ _ 749 _ (_ :: _) _ Q
  refine si_6 dL_law__749 rfl (Nat.le_of_ble_eq_true rfl) ?_
  refine r_aload_n dL_law__751 rfl ?_
  refine r_callV (d1 := 0) (c1 := 0) (n1 := 0) (c := c0) (n := n0) (a := 167) (ci := 12) (l := 0) (st := []) [] rfl dL_law__752 mvL_132 rfl (by exact k_167 hF2) ⟨(Nat.le_of_ble_eq_true rfl), rfl⟩ (Nat.le_of_ble_eq_true rfl) (by exact Nat.le_of_ble_eq_true rfl) ?_
  refine S_X12_thrown hF2 ?_
  show Wp g mL_law_ _ _ _ 755 _ (_ :: _) _ Q
  refine r_iload dL_law__755 rfl ?_
  refine r_icmp_eq 762 dL_law__757 rfl (fun _ => ?_) (fun hq => absurd ht hq)
  refine r_iload dL_law__762 rfl ?_
  refine r_if_ne 779 dL_law__764 rfl (fun _ => ?_) (fun h0 => ?_)
  ·
    refine r_goto 2601 dL_law__779 rfl ?_
    exact w_fg (kk _ hX2)
  ·
    refine r_aload_n dL_law__767 rfl ?_
    refine r_iconst (0) dL_law__768 rfl ?_
    refine r_laloadn (0) rfl dL_law__769 (by exact k_283 hF2) (vin (j := 0) (by omega) (by omega)) ?_
    refine r_iload dL_law__770 rfl ?_
    refine r_i2l dL_law__772 ?_
    refine r_lcmp_eq 779 dL_law__773 dL_law__774 rfl (fun _ => ?_) (fun hq => absurd (hl h0) hq)
    refine r_goto 2601 dL_law__779 rfl ?_
    exact w_fg (kk _ hX2)
theorem LC_8 {g : GG} {m : MM} {Q : Out → Prop} {c0 n0 i : Nat} (hX : XI m) (hi : i + 6 ≤ gL g) (hL : gL g ≤ 3072) (kk : ∀ m', XI m' → Wp g mL_law_ 60 c0 n0 2601 [.ref 1, .ref 4, .ref 167, .ref 283, .int (nI i), .retAddr 0, .retAddr 0, .retAddr 0] [] m' Q) : Wp g mL_law_ 60 (c0 + 4) (n0 + 407) 782 [.ref 1, .ref 4, .ref 167, .ref 283, .int (nI i), .retAddr 0, .retAddr 0, .retAddr 0] [] m Q := by
  refine r_aload_n dL_law__782 rfl ?_
  refine r_aload_n dL_law__783 rfl ?_
  refine r_iload dL_law__784 rfl ?_
  refine r_iconst (1) dL_law__786 rfl ?_
  refine r_iadd dL_law__787 ?_
  refine r_sld dL_law__788 (by exact sv 1 (by omega) hi hL) ?_
  refine r_if_eq 796 dL_law__789 rfl (fun hz1 => ?_) (fun hz1 => ?_)
  ·
    refine r_iconst (0) dL_law__796 rfl ?_
    refine r_aload_n dL_law__797 rfl ?_
    refine r_iload dL_law__798 rfl ?_
    refine r_iconst (2) dL_law__800 rfl ?_
    refine r_iadd dL_law__801 ?_
    refine r_sld dL_law__802 (by exact sv 2 (by omega) hi hL) ?_
    refine r_aload_n dL_law__803 rfl ?_
    refine w_wide (c' := c0 + 1) (n' := n0 + 6) (by omega) (by omega) ?_
    refine r_callT (d1 := 8) (c1 := 1) (n1 := 6) (c := c0) (n := n0) (st := []) [.ref 4, .int 0, .int (gX g (nI i + 2).toNatClampNeg), .ref 283] rfl dL_law__804 mtL_163 rfl (Nat.le_of_ble_eq_true rfl) (by exact Nat.le_of_ble_eq_true rfl) ?_
    refine Cl.mono (fun o ho => ?_) (P_trim hX (Or.inl rfl))
    obtain ⟨out, m1⟩ := o
    obtain ⟨k, e, hF1, hR⟩ := ho
    have e : out = .inl (some (.int k)) := e
    subst e
    have hF1 : Fx m1 := hF1
    show Wp g mL_law_ _ _ _ 807 _ (_ :: _) _ Q
    refine si_5 dL_law__807 rfl (Nat.le_of_ble_eq_true rfl) ?_
    refine r_aload_n dL_law__809 rfl ?_
    refine r_aload_n dL_law__810 rfl ?_
    refine r_iload dL_law__811 rfl ?_
    refine r_iconst (1) dL_law__813 rfl ?_
    refine r_iadd dL_law__814 ?_
    refine r_sld dL_law__815 (by exact sv 1 (by omega) hi hL) ?_
    refine r_if_eq 823 dL_law__816 rfl (fun _ => ?_) (fun hq => absurd hz1 hq)
    refine r_iconst (0) dL_law__823 rfl ?_
    refine r_aload_n dL_law__824 rfl ?_
    refine r_iload dL_law__825 rfl ?_
    refine r_iconst (2) dL_law__827 rfl ?_
    refine r_iadd dL_law__828 ?_
    refine r_sld dL_law__829 (by exact sv 2 (by omega) hi hL) ?_
    refine r_callV (d1 := 1) (c1 := 0) (n1 := 0) (c := c0) (n := n0) (a := 167) (ci := 12) (l := 0) (st := []) [.int 0, .int (gX g (nI i + 2).toNatClampNeg)] rfl dL_law__830 mvL_166 rfl (by exact k_167 hF1) ⟨(Nat.le_of_ble_eq_true rfl), rfl⟩ (Nat.le_of_ble_eq_true rfl) (by exact Nat.le_of_ble_eq_true rfl) ?_
    refine Cl.mono (fun o2 ho2 => ?_) hR
    obtain ⟨out2, m2⟩ := o2
    obtain ⟨b, e2, hX2, ht, hl⟩ := ho2
    have e2 : out2 = .inl (some (.int b)) := e2
    subst e2
    have hX2 : XI m2 := hX2
    have ht : ldI m2 167 0 = k := ht
    have hl : k = 0 → ldL m2 283 0 = b.toInt64 := hl
    have hF2 := hX2.F
    show Wp g mL_law_ _ _ _ 833 _ (_ :: _) _ Q
    refine si_6 dL_law__833 rfl (Nat.le_of_ble_eq_true rfl) ?_
    refine r_aload_n dL_law__835 rfl ?_
    refine r_callV (d1 := 0) (c1 := 0) (n1 := 0) (c := c0) (n := n0) (a := 167) (ci := 12) (l := 0) (st := []) [] rfl dL_law__836 mvL_132 rfl (by exact k_167 hF2) ⟨(Nat.le_of_ble_eq_true rfl), rfl⟩ (Nat.le_of_ble_eq_true rfl) (by exact Nat.le_of_ble_eq_true rfl) ?_
    refine S_X12_thrown hF2 ?_
    show Wp g mL_law_ _ _ _ 839 _ (_ :: _) _ Q
    refine r_iload dL_law__839 rfl ?_
    refine r_icmp_eq 846 dL_law__841 rfl (fun _ => ?_) (fun hq => absurd ht hq)
    refine r_iload dL_law__846 rfl ?_
    refine r_if_ne 863 dL_law__848 rfl (fun _ => ?_) (fun h0 => ?_)
    ·
      refine r_goto 2601 dL_law__863 rfl ?_
      exact w_fg (kk _ hX2)
    ·
      refine r_aload_n dL_law__851 rfl ?_
      refine r_iconst (0) dL_law__852 rfl ?_
      refine r_laloadn (0) rfl dL_law__853 (by exact k_283 hF2) (vin (j := 0) (by omega) (by omega)) ?_
      refine r_iload dL_law__854 rfl ?_
      refine r_i2l dL_law__856 ?_
      refine r_lcmp_eq 863 dL_law__857 dL_law__858 rfl (fun _ => ?_) (fun hq => absurd (hl h0) hq)
      refine r_goto 2601 dL_law__863 rfl ?_
      exact w_fg (kk _ hX2)
  ·
    refine r_iconst (1) dL_law__792 rfl ?_
    refine r_goto 797 dL_law__793 rfl ?_
    refine r_aload_n dL_law__797 rfl ?_
    refine r_iload dL_law__798 rfl ?_
    refine r_iconst (2) dL_law__800 rfl ?_
    refine r_iadd dL_law__801 ?_
    refine r_sld dL_law__802 (by exact sv 2 (by omega) hi hL) ?_
    refine r_aload_n dL_law__803 rfl ?_
    refine w_wide (c' := c0 + 1) (n' := n0 + 6) (by omega) (by omega) ?_
    refine r_callT (d1 := 8) (c1 := 1) (n1 := 6) (c := c0) (n := n0) (st := []) [.ref 4, .int 1, .int (gX g (nI i + 2).toNatClampNeg), .ref 283] rfl dL_law__804 mtL_163 rfl (Nat.le_of_ble_eq_true rfl) (by exact Nat.le_of_ble_eq_true rfl) ?_
    refine Cl.mono (fun o ho => ?_) (P_trim hX (Or.inr rfl))
    obtain ⟨out, m1⟩ := o
    obtain ⟨k, e, hF1, hR⟩ := ho
    have e : out = .inl (some (.int k)) := e
    subst e
    have hF1 : Fx m1 := hF1
    show Wp g mL_law_ _ _ _ 807 _ (_ :: _) _ Q
    refine si_5 dL_law__807 rfl (Nat.le_of_ble_eq_true rfl) ?_
    refine r_aload_n dL_law__809 rfl ?_
    refine r_aload_n dL_law__810 rfl ?_
    refine r_iload dL_law__811 rfl ?_
    refine r_iconst (1) dL_law__813 rfl ?_
    refine r_iadd dL_law__814 ?_
    refine r_sld dL_law__815 (by exact sv 1 (by omega) hi hL) ?_
    refine r_if_eq 823 dL_law__816 rfl (fun hq => absurd hq hz1) (fun _ => ?_)
    refine r_iconst (1) dL_law__819 rfl ?_
    refine r_goto 824 dL_law__820 rfl ?_
    refine r_aload_n dL_law__824 rfl ?_
    refine r_iload dL_law__825 rfl ?_
    refine r_iconst (2) dL_law__827 rfl ?_
    refine r_iadd dL_law__828 ?_
    refine r_sld dL_law__829 (by exact sv 2 (by omega) hi hL) ?_
    refine r_callV (d1 := 1) (c1 := 0) (n1 := 0) (c := c0) (n := n0) (a := 167) (ci := 12) (l := 0) (st := []) [.int 1, .int (gX g (nI i + 2).toNatClampNeg)] rfl dL_law__830 mvL_166 rfl (by exact k_167 hF1) ⟨(Nat.le_of_ble_eq_true rfl), rfl⟩ (Nat.le_of_ble_eq_true rfl) (by exact Nat.le_of_ble_eq_true rfl) ?_
    refine Cl.mono (fun o2 ho2 => ?_) hR
    obtain ⟨out2, m2⟩ := o2
    obtain ⟨b, e2, hX2, ht, hl⟩ := ho2
    have e2 : out2 = .inl (some (.int b)) := e2
    subst e2
    have hX2 : XI m2 := hX2
    have ht : ldI m2 167 0 = k := ht
    have hl : k = 0 → ldL m2 283 0 = b.toInt64 := hl
    have hF2 := hX2.F
    show Wp g mL_law_ _ _ _ 833 _ (_ :: _) _ Q
    refine si_6 dL_law__833 rfl (Nat.le_of_ble_eq_true rfl) ?_
    refine r_aload_n dL_law__835 rfl ?_
    refine r_callV (d1 := 0) (c1 := 0) (n1 := 0) (c := c0) (n := n0) (a := 167) (ci := 12) (l := 0) (st := []) [] rfl dL_law__836 mvL_132 rfl (by exact k_167 hF2) ⟨(Nat.le_of_ble_eq_true rfl), rfl⟩ (Nat.le_of_ble_eq_true rfl) (by exact Nat.le_of_ble_eq_true rfl) ?_
    refine S_X12_thrown hF2 ?_
    show Wp g mL_law_ _ _ _ 839 _ (_ :: _) _ Q
    refine r_iload dL_law__839 rfl ?_
    refine r_icmp_eq 846 dL_law__841 rfl (fun _ => ?_) (fun hq => absurd ht hq)
    refine r_iload dL_law__846 rfl ?_
    refine r_if_ne 863 dL_law__848 rfl (fun _ => ?_) (fun h0 => ?_)
    ·
      refine r_goto 2601 dL_law__863 rfl ?_
      exact w_fg (kk _ hX2)
    ·
      refine r_aload_n dL_law__851 rfl ?_
      refine r_iconst (0) dL_law__852 rfl ?_
      refine r_laloadn (0) rfl dL_law__853 (by exact k_283 hF2) (vin (j := 0) (by omega) (by omega)) ?_
      refine r_iload dL_law__854 rfl ?_
      refine r_i2l dL_law__856 ?_
      refine r_lcmp_eq 863 dL_law__857 dL_law__858 rfl (fun _ => ?_) (fun hq => absurd (hl h0) hq)
      refine r_goto 2601 dL_law__863 rfl ?_
      exact w_fg (kk _ hX2)
theorem LC_9 {g : GG} {m : MM} {Q : Out → Prop} {c0 n0 i : Nat} (hX : XI m) (hi : i + 6 ≤ gL g) (hL : gL g ≤ 3072) (kk : ∀ m', XI m' → Wp g mL_law_ 60 c0 n0 2601 [.ref 1, .ref 4, .ref 167, .ref 283, .int (nI i), .retAddr 0, .retAddr 0, .retAddr 0] [] m' Q) : Wp g mL_law_ 60 (c0 + 4) (n0 + 407) 866 [.ref 1, .ref 4, .ref 167, .ref 283, .int (nI i), .retAddr 0, .retAddr 0, .retAddr 0] [] m Q := by
  refine r_aload_n dL_law__866 rfl ?_
  refine r_aload_n dL_law__867 rfl ?_
  refine r_iload dL_law__868 rfl ?_
  refine r_iconst (1) dL_law__870 rfl ?_
  refine r_iadd dL_law__871 ?_
  refine r_sld dL_law__872 (by exact sv 1 (by omega) hi hL) ?_
  refine r_aload_n dL_law__873 rfl ?_
  refine w_wide (c' := c0 + 2) (n' := n0 + 12) (by omega) (by omega) ?_
  refine r_callT (d1 := 8) (c1 := 2) (n1 := 12) (c := c0) (n := n0) (st := []) [.ref 4, .int (gX g (nI i + 1).toNatClampNeg), .ref 283] rfl dL_law__874 mtL_167 rfl (Nat.le_of_ble_eq_true rfl) (by exact Nat.le_of_ble_eq_true rfl) ?_
  refine Cl.mono (fun o ho => ?_) (P_name hX)
  obtain ⟨out, m1⟩ := o
  obtain ⟨k, e, hF1, hR⟩ := ho
  have e : out = .inl (some (.int k)) := e
  subst e
  have hF1 : Fx m1 := hF1
  show Wp g mL_law_ _ _ _ 877 _ (_ :: _) _ Q
  refine si_5 dL_law__877 rfl (Nat.le_of_ble_eq_true rfl) ?_
  refine r_aload_n dL_law__879 rfl ?_
  refine r_aload_n dL_law__880 rfl ?_
  refine r_iload dL_law__881 rfl ?_
  refine r_iconst (1) dL_law__883 rfl ?_
  refine r_iadd dL_law__884 ?_
  refine r_sld dL_law__885 (by exact sv 1 (by omega) hi hL) ?_
  refine r_callV (d1 := 3) (c1 := 0) (n1 := 0) (c := c0) (n := n0) (a := 167) (ci := 12) (l := 0) (st := []) [.int (gX g (nI i + 1).toNatClampNeg)] rfl dL_law__886 mvL_170 rfl (by exact k_167 hF1) ⟨(Nat.le_of_ble_eq_true rfl), rfl⟩ (Nat.le_of_ble_eq_true rfl) (by exact Nat.le_of_ble_eq_true rfl) ?_
  refine Cl.mono (fun o2 ho2 => ?_) hR
  obtain ⟨out2, m2⟩ := o2
  obtain ⟨b, e2, hX2, ht, hl⟩ := ho2
  have e2 : out2 = .inl (some (.int b)) := e2
  subst e2
  have hX2 : XI m2 := hX2
  have ht : ldI m2 167 0 = k := ht
  have hl : k = 0 → ldL m2 283 0 = b.toInt64 := hl
  have hF2 := hX2.F
  show Wp g mL_law_ _ _ _ 889 _ (_ :: _) _ Q
  refine si_6 dL_law__889 rfl (Nat.le_of_ble_eq_true rfl) ?_
  refine r_aload_n dL_law__891 rfl ?_
  refine r_callV (d1 := 0) (c1 := 0) (n1 := 0) (c := c0) (n := n0) (a := 167) (ci := 12) (l := 0) (st := []) [] rfl dL_law__892 mvL_132 rfl (by exact k_167 hF2) ⟨(Nat.le_of_ble_eq_true rfl), rfl⟩ (Nat.le_of_ble_eq_true rfl) (by exact Nat.le_of_ble_eq_true rfl) ?_
  refine S_X12_thrown hF2 ?_
  show Wp g mL_law_ _ _ _ 895 _ (_ :: _) _ Q
  refine r_iload dL_law__895 rfl ?_
  refine r_icmp_eq 902 dL_law__897 rfl (fun _ => ?_) (fun hq => absurd ht hq)
  refine r_iload dL_law__902 rfl ?_
  refine r_if_ne 919 dL_law__904 rfl (fun _ => ?_) (fun h0 => ?_)
  ·
    refine r_goto 2601 dL_law__919 rfl ?_
    exact w_fg (kk _ hX2)
  ·
    refine r_aload_n dL_law__907 rfl ?_
    refine r_iconst (0) dL_law__908 rfl ?_
    refine r_laloadn (0) rfl dL_law__909 (by exact k_283 hF2) (vin (j := 0) (by omega) (by omega)) ?_
    refine r_iload dL_law__910 rfl ?_
    refine r_i2l dL_law__912 ?_
    refine r_lcmp_eq 919 dL_law__913 dL_law__914 rfl (fun _ => ?_) (fun hq => absurd (hl h0) hq)
    refine r_goto 2601 dL_law__919 rfl ?_
    exact w_fg (kk _ hX2)
theorem LC_10 {g : GG} {m : MM} {Q : Out → Prop} {c0 n0 i : Nat} (hX : XI m) (hi : i + 6 ≤ gL g) (hL : gL g ≤ 3072) (kk : ∀ m', XI m' → Wp g mL_law_ 60 c0 n0 2601 [.ref 1, .ref 4, .ref 167, .ref 283, .int (nI i), .retAddr 0, .retAddr 0, .retAddr 0] [] m' Q) : Wp g mL_law_ 60 (c0 + 4) (n0 + 407) 922 [.ref 1, .ref 4, .ref 167, .ref 283, .int (nI i), .retAddr 0, .retAddr 0, .retAddr 0] [] m Q := by
  refine r_aload_n dL_law__922 rfl ?_
  refine r_aload_n dL_law__923 rfl ?_
  refine r_iload dL_law__924 rfl ?_
  refine r_iconst (1) dL_law__926 rfl ?_
  refine r_iadd dL_law__927 ?_
  refine r_sld dL_law__928 (by exact sv 1 (by omega) hi hL) ?_
  refine r_aload_n dL_law__929 rfl ?_
  refine r_iload dL_law__930 rfl ?_
  refine r_iconst (2) dL_law__932 rfl ?_
  refine r_iadd dL_law__933 ?_
  refine r_sld dL_law__934 (by exact sv 2 (by omega) hi hL) ?_
  refine r_aload_n dL_law__935 rfl ?_
  refine w_wide (c' := c0 + 3) (n' := n0 + 18) (by omega) (by omega) ?_
  refine r_callT (d1 := 8) (c1 := 3) (n1 := 18) (c := c0) (n := n0) (st := []) [.ref 4, .int (gX g (nI i + 1).toNatClampNeg), .int (gX g (nI i + 2).toNatClampNeg), .ref 283] rfl dL_law__936 mtL_171 rfl (Nat.le_of_ble_eq_true rfl) (by exact Nat.le_of_ble_eq_true rfl) ?_
  refine Cl.mono (fun o ho => ?_) (P_pull hX)
  obtain ⟨out, m1⟩ := o
  obtain ⟨k, e, hF1, hR⟩ := ho
  have e : out = .inl (some (.int k)) := e
  subst e
  have hF1 : Fx m1 := hF1
  show Wp g mL_law_ _ _ _ 939 _ (_ :: _) _ Q
  refine si_5 dL_law__939 rfl (Nat.le_of_ble_eq_true rfl) ?_
  refine r_aload_n dL_law__941 rfl ?_
  refine r_aload_n dL_law__942 rfl ?_
  refine r_iload dL_law__943 rfl ?_
  refine r_iconst (1) dL_law__945 rfl ?_
  refine r_iadd dL_law__946 ?_
  refine r_sld dL_law__947 (by exact sv 1 (by omega) hi hL) ?_
  refine r_aload_n dL_law__948 rfl ?_
  refine r_iload dL_law__949 rfl ?_
  refine r_iconst (2) dL_law__951 rfl ?_
  refine r_iadd dL_law__952 ?_
  refine r_sld dL_law__953 (by exact sv 2 (by omega) hi hL) ?_
  refine r_callV (d1 := 36) (c1 := 0) (n1 := 0) (c := c0) (n := n0) (a := 167) (ci := 12) (l := 0) (st := []) [.int (gX g (nI i + 1).toNatClampNeg), .int (gX g (nI i + 2).toNatClampNeg)] rfl dL_law__954 mvL_173 rfl (by exact k_167 hF1) ⟨(Nat.le_of_ble_eq_true rfl), rfl⟩ (Nat.le_of_ble_eq_true rfl) (by exact Nat.le_of_ble_eq_true rfl) ?_
  refine Cl.mono (fun o2 ho2 => ?_) hR
  obtain ⟨out2, m2⟩ := o2
  obtain ⟨b, e2, hX2, ht, hl⟩ := ho2
  have e2 : out2 = .inl (some (.long b)) := e2
  subst e2
  have hX2 : XI m2 := hX2
  have ht : ldI m2 167 0 = k := ht
  have hl : k = 0 → ldL m2 283 0 = b := hl
  have hF2 := hX2.F
  show Wp g mL_law_ _ _ _ 957 _ (_ :: _) _ Q
  refine sl_6 dL_law__957 rfl (Nat.le_of_ble_eq_true rfl) ?_
  refine r_aload_n dL_law__959 rfl ?_
  refine r_callV (d1 := 0) (c1 := 0) (n1 := 0) (c := c0) (n := n0) (a := 167) (ci := 12) (l := 0) (st := []) [] rfl dL_law__960 mvL_132 rfl (by exact k_167 hF2) ⟨(Nat.le_of_ble_eq_true rfl), rfl⟩ (Nat.le_of_ble_eq_true rfl) (by exact Nat.le_of_ble_eq_true rfl) ?_
  refine S_X12_thrown hF2 ?_
  show Wp g mL_law_ _ _ _ 963 _ (_ :: _) _ Q
  refine r_iload dL_law__963 rfl ?_
  refine r_icmp_eq 970 dL_law__965 rfl (fun _ => ?_) (fun hq => absurd ht hq)
  refine r_iload dL_law__970 rfl ?_
  refine r_if_ne 986 dL_law__972 rfl (fun _ => ?_) (fun h0 => ?_)
  ·
    refine r_goto 2601 dL_law__986 rfl ?_
    exact w_fg (kk _ hX2)
  ·
    refine r_aload_n dL_law__975 rfl ?_
    refine r_iconst (0) dL_law__976 rfl ?_
    refine r_laloadn (0) rfl dL_law__977 (by exact k_283 hF2) (vin (j := 0) (by omega) (by omega)) ?_
    refine r_lload dL_law__978 rfl ?_
    refine r_lcmp_eq 986 dL_law__980 dL_law__981 rfl (fun _ => ?_) (fun hq => absurd (hl h0) hq)
    refine r_goto 2601 dL_law__986 rfl ?_
    exact w_fg (kk _ hX2)
theorem LC_11 {g : GG} {m : MM} {Q : Out → Prop} {c0 n0 i : Nat} (hX : XI m) (hi : i + 6 ≤ gL g) (hL : gL g ≤ 3072) (kk : ∀ m', XI m' → Wp g mL_law_ 60 c0 n0 2601 [.ref 1, .ref 4, .ref 167, .ref 283, .int (nI i), .retAddr 0, .retAddr 0, .retAddr 0] [] m' Q) : Wp g mL_law_ 60 (c0 + 4) (n0 + 407) 989 [.ref 1, .ref 4, .ref 167, .ref 283, .int (nI i), .retAddr 0, .retAddr 0, .retAddr 0] [] m Q := by
  refine r_aload_n dL_law__989 rfl ?_
  refine r_aload_n dL_law__990 rfl ?_
  refine r_iload dL_law__991 rfl ?_
  refine r_iconst (1) dL_law__993 rfl ?_
  refine r_iadd dL_law__994 ?_
  refine r_sld dL_law__995 (by exact sv 1 (by omega) hi hL) ?_
  refine r_aload_n dL_law__996 rfl ?_
  refine r_iload dL_law__997 rfl ?_
  refine r_iconst (2) dL_law__999 rfl ?_
  refine r_iadd dL_law__1000 ?_
  refine r_sld dL_law__1001 (by exact sv 2 (by omega) hi hL) ?_
  refine r_aload_n dL_law__1002 rfl ?_
  refine r_iload dL_law__1003 rfl ?_
  refine r_iconst (3) dL_law__1005 rfl ?_
  refine r_iadd dL_law__1006 ?_
  refine r_sld dL_law__1007 (by exact sv 3 (by omega) hi hL) ?_
  refine r_aload_n dL_law__1008 rfl ?_
  refine w_wide (c' := c0 + 3) (n' := n0 + 18) (by omega) (by omega) ?_
  refine r_callT (d1 := 8) (c1 := 3) (n1 := 18) (c := c0) (n := n0) (st := []) [.ref 4, .int (gX g (nI i + 1).toNatClampNeg), .int (gX g (nI i + 2).toNatClampNeg), .int (gX g (nI i + 3).toNatClampNeg), .ref 283] rfl dL_law__1009 mtL_174 rfl (Nat.le_of_ble_eq_true rfl) (by exact Nat.le_of_ble_eq_true rfl) ?_
  refine Cl.mono (fun o ho => ?_) (P_need hX)
  obtain ⟨out, m1⟩ := o
  obtain ⟨k, e, hF1, hR⟩ := ho
  have e : out = .inl (some (.int k)) := e
  subst e
  have hF1 : Fx m1 := hF1
  show Wp g mL_law_ _ _ _ 1012 _ (_ :: _) _ Q
  refine si_5 dL_law__1012 rfl (Nat.le_of_ble_eq_true rfl) ?_
  refine r_aload_n dL_law__1014 rfl ?_
  refine r_aload_n dL_law__1015 rfl ?_
  refine r_iload dL_law__1016 rfl ?_
  refine r_iconst (1) dL_law__1018 rfl ?_
  refine r_iadd dL_law__1019 ?_
  refine r_sld dL_law__1020 (by exact sv 1 (by omega) hi hL) ?_
  refine r_aload_n dL_law__1021 rfl ?_
  refine r_iload dL_law__1022 rfl ?_
  refine r_iconst (2) dL_law__1024 rfl ?_
  refine r_iadd dL_law__1025 ?_
  refine r_sld dL_law__1026 (by exact sv 2 (by omega) hi hL) ?_
  refine r_aload_n dL_law__1027 rfl ?_
  refine r_iload dL_law__1028 rfl ?_
  refine r_iconst (3) dL_law__1030 rfl ?_
  refine r_iadd dL_law__1031 ?_
  refine r_sld dL_law__1032 (by exact sv 3 (by omega) hi hL) ?_
  refine r_callV (d1 := 34) (c1 := 0) (n1 := 0) (c := c0) (n := n0) (a := 167) (ci := 12) (l := 0) (st := []) [.int (gX g (nI i + 1).toNatClampNeg), .int (gX g (nI i + 2).toNatClampNeg), .int (gX g (nI i + 3).toNatClampNeg)] rfl dL_law__1033 mvL_176 rfl (by exact k_167 hF1) ⟨(Nat.le_of_ble_eq_true rfl), rfl⟩ (Nat.le_of_ble_eq_true rfl) (by exact Nat.le_of_ble_eq_true rfl) ?_
  refine Cl.mono (fun o2 ho2 => ?_) hR
  obtain ⟨out2, m2⟩ := o2
  obtain ⟨b, e2, hX2, ht, hl⟩ := ho2
  have e2 : out2 = .inl (some (.long b)) := e2
  subst e2
  have hX2 : XI m2 := hX2
  have ht : ldI m2 167 0 = k := ht
  have hl : k = 0 → ldL m2 283 0 = b := hl
  have hF2 := hX2.F
  show Wp g mL_law_ _ _ _ 1036 _ (_ :: _) _ Q
  refine sl_6 dL_law__1036 rfl (Nat.le_of_ble_eq_true rfl) ?_
  refine r_aload_n dL_law__1038 rfl ?_
  refine r_callV (d1 := 0) (c1 := 0) (n1 := 0) (c := c0) (n := n0) (a := 167) (ci := 12) (l := 0) (st := []) [] rfl dL_law__1039 mvL_132 rfl (by exact k_167 hF2) ⟨(Nat.le_of_ble_eq_true rfl), rfl⟩ (Nat.le_of_ble_eq_true rfl) (by exact Nat.le_of_ble_eq_true rfl) ?_
  refine S_X12_thrown hF2 ?_
  show Wp g mL_law_ _ _ _ 1042 _ (_ :: _) _ Q
  refine r_iload dL_law__1042 rfl ?_
  refine r_icmp_eq 1049 dL_law__1044 rfl (fun _ => ?_) (fun hq => absurd ht hq)
  refine r_iload dL_law__1049 rfl ?_
  refine r_if_ne 1065 dL_law__1051 rfl (fun _ => ?_) (fun h0 => ?_)
  ·
    refine r_goto 2601 dL_law__1065 rfl ?_
    exact w_fg (kk _ hX2)
  ·
    refine r_aload_n dL_law__1054 rfl ?_
    refine r_iconst (0) dL_law__1055 rfl ?_
    refine r_laloadn (0) rfl dL_law__1056 (by exact k_283 hF2) (vin (j := 0) (by omega) (by omega)) ?_
    refine r_lload dL_law__1057 rfl ?_
    refine r_lcmp_eq 1065 dL_law__1059 dL_law__1060 rfl (fun _ => ?_) (fun hq => absurd (hl h0) hq)
    refine r_goto 2601 dL_law__1065 rfl ?_
    exact w_fg (kk _ hX2)
theorem LC_12 {g : GG} {m : MM} {Q : Out → Prop} {c0 n0 i : Nat} (hX : XI m) (hi : i + 6 ≤ gL g) (hL : gL g ≤ 3072) (kk : ∀ m', XI m' → Wp g mL_law_ 60 c0 n0 2601 [.ref 1, .ref 4, .ref 167, .ref 283, .int (nI i), .retAddr 0, .retAddr 0, .retAddr 0] [] m' Q) : Wp g mL_law_ 60 (c0 + 4) (n0 + 407) 1068 [.ref 1, .ref 4, .ref 167, .ref 283, .int (nI i), .retAddr 0, .retAddr 0, .retAddr 0] [] m Q := by
  refine r_aload_n dL_law__1068 rfl ?_
  refine r_aload_n dL_law__1069 rfl ?_
  refine r_iload dL_law__1070 rfl ?_
  refine r_iconst (1) dL_law__1072 rfl ?_
  refine r_iadd dL_law__1073 ?_
  refine r_sld dL_law__1074 (by exact sv 1 (by omega) hi hL) ?_
  refine r_aload_n dL_law__1075 rfl ?_
  refine r_iload dL_law__1076 rfl ?_
  refine r_iconst (2) dL_law__1078 rfl ?_
  refine r_iadd dL_law__1079 ?_
  refine r_sld dL_law__1080 (by exact sv 2 (by omega) hi hL) ?_
  refine r_aload_n dL_law__1081 rfl ?_
  refine r_iload dL_law__1082 rfl ?_
  refine r_iconst (3) dL_law__1084 rfl ?_
  refine r_iadd dL_law__1085 ?_
  refine r_sld dL_law__1086 (by exact sv 3 (by omega) hi hL) ?_
  refine r_aload_n dL_law__1087 rfl ?_
  refine r_iload dL_law__1088 rfl ?_
  refine r_iconst (4) dL_law__1090 rfl ?_
  refine r_iadd dL_law__1091 ?_
  refine r_sld dL_law__1092 (by exact sv 4 (by omega) hi hL) ?_
  refine r_aload_n dL_law__1093 rfl ?_
  refine w_wide (c' := c0 + 4) (n' := n0 + 24) (by omega) (by omega) ?_
  refine r_callT (d1 := 8) (c1 := 4) (n1 := 24) (c := c0) (n := n0) (st := []) [.ref 4, .int (gX g (nI i + 1).toNatClampNeg), .int (gX g (nI i + 2).toNatClampNeg), .int (gX g (nI i + 3).toNatClampNeg), .int (gX g (nI i + 4).toNatClampNeg), .ref 283] rfl dL_law__1094 mtL_177 rfl (Nat.le_of_ble_eq_true rfl) (by exact Nat.le_of_ble_eq_true rfl) ?_
  refine Cl.mono (fun o ho => ?_) (P_error hX)
  obtain ⟨out, m1⟩ := o
  obtain ⟨k, e, hF1, hR⟩ := ho
  have e : out = .inl (some (.int k)) := e
  subst e
  have hF1 : Fx m1 := hF1
  show Wp g mL_law_ _ _ _ 1097 _ (_ :: _) _ Q
  refine si_5 dL_law__1097 rfl (Nat.le_of_ble_eq_true rfl) ?_
  refine r_aload_n dL_law__1099 rfl ?_
  refine r_aload_n dL_law__1100 rfl ?_
  refine r_iload dL_law__1101 rfl ?_
  refine r_iconst (1) dL_law__1103 rfl ?_
  refine r_iadd dL_law__1104 ?_
  refine r_sld dL_law__1105 (by exact sv 1 (by omega) hi hL) ?_
  refine r_aload_n dL_law__1106 rfl ?_
  refine r_iload dL_law__1107 rfl ?_
  refine r_iconst (2) dL_law__1109 rfl ?_
  refine r_iadd dL_law__1110 ?_
  refine r_sld dL_law__1111 (by exact sv 2 (by omega) hi hL) ?_
  refine r_aload_n dL_law__1112 rfl ?_
  refine r_iload dL_law__1113 rfl ?_
  refine r_iconst (3) dL_law__1115 rfl ?_
  refine r_iadd dL_law__1116 ?_
  refine r_sld dL_law__1117 (by exact sv 3 (by omega) hi hL) ?_
  refine r_aload_n dL_law__1118 rfl ?_
  refine r_iload dL_law__1119 rfl ?_
  refine r_iconst (4) dL_law__1121 rfl ?_
  refine r_iadd dL_law__1122 ?_
  refine r_sld dL_law__1123 (by exact sv 4 (by omega) hi hL) ?_
  refine r_callV (d1 := 37) (c1 := 0) (n1 := 0) (c := c0) (n := n0) (a := 167) (ci := 12) (l := 0) (st := []) [.int (gX g (nI i + 1).toNatClampNeg), .int (gX g (nI i + 2).toNatClampNeg), .int (gX g (nI i + 3).toNatClampNeg), .int (gX g (nI i + 4).toNatClampNeg)] rfl dL_law__1124 mvL_179 rfl (by exact k_167 hF1) ⟨(Nat.le_of_ble_eq_true rfl), rfl⟩ (Nat.le_of_ble_eq_true rfl) (by exact Nat.le_of_ble_eq_true rfl) ?_
  refine Cl.mono (fun o2 ho2 => ?_) hR
  obtain ⟨out2, m2⟩ := o2
  obtain ⟨b, e2, hX2, ht, hl⟩ := ho2
  have e2 : out2 = .inl (some (.long b)) := e2
  subst e2
  have hX2 : XI m2 := hX2
  have ht : ldI m2 167 0 = k := ht
  have hl : k = 0 → ldL m2 283 0 = b := hl
  have hF2 := hX2.F
  show Wp g mL_law_ _ _ _ 1127 _ (_ :: _) _ Q
  refine sl_6 dL_law__1127 rfl (Nat.le_of_ble_eq_true rfl) ?_
  refine r_aload_n dL_law__1129 rfl ?_
  refine r_callV (d1 := 0) (c1 := 0) (n1 := 0) (c := c0) (n := n0) (a := 167) (ci := 12) (l := 0) (st := []) [] rfl dL_law__1130 mvL_132 rfl (by exact k_167 hF2) ⟨(Nat.le_of_ble_eq_true rfl), rfl⟩ (Nat.le_of_ble_eq_true rfl) (by exact Nat.le_of_ble_eq_true rfl) ?_
  refine S_X12_thrown hF2 ?_
  show Wp g mL_law_ _ _ _ 1133 _ (_ :: _) _ Q
  refine r_iload dL_law__1133 rfl ?_
  refine r_icmp_eq 1140 dL_law__1135 rfl (fun _ => ?_) (fun hq => absurd ht hq)
  refine r_iload dL_law__1140 rfl ?_
  refine r_if_ne 1156 dL_law__1142 rfl (fun _ => ?_) (fun h0 => ?_)
  ·
    refine r_goto 2601 dL_law__1156 rfl ?_
    exact w_fg (kk _ hX2)
  ·
    refine r_aload_n dL_law__1145 rfl ?_
    refine r_iconst (0) dL_law__1146 rfl ?_
    refine r_laloadn (0) rfl dL_law__1147 (by exact k_283 hF2) (vin (j := 0) (by omega) (by omega)) ?_
    refine r_lload dL_law__1148 rfl ?_
    refine r_lcmp_eq 1156 dL_law__1150 dL_law__1151 rfl (fun _ => ?_) (fun hq => absurd (hl h0) hq)
    refine r_goto 2601 dL_law__1156 rfl ?_
    exact w_fg (kk _ hX2)
theorem LC_13 {g : GG} {m : MM} {Q : Out → Prop} {c0 n0 i : Nat} (hX : XI m) (hi : i + 6 ≤ gL g) (hL : gL g ≤ 3072) (kk : ∀ m', XI m' → Wp g mL_law_ 60 c0 n0 2601 [.ref 1, .ref 4, .ref 167, .ref 283, .int (nI i), .retAddr 0, .retAddr 0, .retAddr 0] [] m' Q) : Wp g mL_law_ 60 (c0 + 4) (n0 + 407) 1159 [.ref 1, .ref 4, .ref 167, .ref 283, .int (nI i), .retAddr 0, .retAddr 0, .retAddr 0] [] m Q := by
  refine r_aload_n dL_law__1159 rfl ?_
  refine r_aload_n dL_law__1160 rfl ?_
  refine r_iload dL_law__1161 rfl ?_
  refine r_iconst (1) dL_law__1163 rfl ?_
  refine r_iadd dL_law__1164 ?_
  refine r_sld dL_law__1165 (by exact sv 1 (by omega) hi hL) ?_
  refine r_aload_n dL_law__1166 rfl ?_
  refine r_iload dL_law__1167 rfl ?_
  refine r_iconst (2) dL_law__1169 rfl ?_
  refine r_iadd dL_law__1170 ?_
  refine r_sld dL_law__1171 (by exact sv 2 (by omega) hi hL) ?_
  refine r_aload_n dL_law__1172 rfl ?_
  refine r_iload dL_law__1173 rfl ?_
  refine r_iconst (3) dL_law__1175 rfl ?_
  refine r_iadd dL_law__1176 ?_
  refine r_sld dL_law__1177 (by exact sv 3 (by omega) hi hL) ?_
  refine r_aload_n dL_law__1178 rfl ?_
  refine r_iload dL_law__1179 rfl ?_
  refine r_iconst (4) dL_law__1181 rfl ?_
  refine r_iadd dL_law__1182 ?_
  refine r_sld dL_law__1183 (by exact sv 4 (by omega) hi hL) ?_
  refine r_aload_n dL_law__1184 rfl ?_
  refine w_wide (c' := c0 + 4) (n' := n0 + 24) (by omega) (by omega) ?_
  refine r_callT (d1 := 8) (c1 := 4) (n1 := 24) (c := c0) (n := n0) (st := []) [.ref 4, .int (gX g (nI i + 1).toNatClampNeg), .int (gX g (nI i + 2).toNatClampNeg), .int (gX g (nI i + 3).toNatClampNeg), .int (gX g (nI i + 4).toNatClampNeg), .ref 283] rfl dL_law__1185 mtL_180 rfl (Nat.le_of_ble_eq_true rfl) (by exact Nat.le_of_ble_eq_true rfl) ?_
  refine Cl.mono (fun o ho => ?_) (P_size hX)
  obtain ⟨out, m1⟩ := o
  obtain ⟨k, e, hF1, hR⟩ := ho
  have e : out = .inl (some (.int k)) := e
  subst e
  have hF1 : Fx m1 := hF1
  show Wp g mL_law_ _ _ _ 1188 _ (_ :: _) _ Q
  refine si_5 dL_law__1188 rfl (Nat.le_of_ble_eq_true rfl) ?_
  refine r_aload_n dL_law__1190 rfl ?_
  refine r_aload_n dL_law__1191 rfl ?_
  refine r_iload dL_law__1192 rfl ?_
  refine r_iconst (1) dL_law__1194 rfl ?_
  refine r_iadd dL_law__1195 ?_
  refine r_sld dL_law__1196 (by exact sv 1 (by omega) hi hL) ?_
  refine r_aload_n dL_law__1197 rfl ?_
  refine r_iload dL_law__1198 rfl ?_
  refine r_iconst (2) dL_law__1200 rfl ?_
  refine r_iadd dL_law__1201 ?_
  refine r_sld dL_law__1202 (by exact sv 2 (by omega) hi hL) ?_
  refine r_aload_n dL_law__1203 rfl ?_
  refine r_iload dL_law__1204 rfl ?_
  refine r_iconst (3) dL_law__1206 rfl ?_
  refine r_iadd dL_law__1207 ?_
  refine r_sld dL_law__1208 (by exact sv 3 (by omega) hi hL) ?_
  refine r_aload_n dL_law__1209 rfl ?_
  refine r_iload dL_law__1210 rfl ?_
  refine r_iconst (4) dL_law__1212 rfl ?_
  refine r_iadd dL_law__1213 ?_
  refine r_sld dL_law__1214 (by exact sv 4 (by omega) hi hL) ?_
  refine r_callV (d1 := 37) (c1 := 0) (n1 := 0) (c := c0) (n := n0) (a := 167) (ci := 12) (l := 0) (st := []) [.int (gX g (nI i + 1).toNatClampNeg), .int (gX g (nI i + 2).toNatClampNeg), .int (gX g (nI i + 3).toNatClampNeg), .int (gX g (nI i + 4).toNatClampNeg)] rfl dL_law__1215 mvL_182 rfl (by exact k_167 hF1) ⟨(Nat.le_of_ble_eq_true rfl), rfl⟩ (Nat.le_of_ble_eq_true rfl) (by exact Nat.le_of_ble_eq_true rfl) ?_
  refine Cl.mono (fun o2 ho2 => ?_) hR
  obtain ⟨out2, m2⟩ := o2
  obtain ⟨b, e2, hX2, ht, hl⟩ := ho2
  have e2 : out2 = .inl (some (.int b)) := e2
  subst e2
  have hX2 : XI m2 := hX2
  have ht : ldI m2 167 0 = k := ht
  have hl : k = 0 → ldL m2 283 0 = b.toInt64 := hl
  have hF2 := hX2.F
  show Wp g mL_law_ _ _ _ 1218 _ (_ :: _) _ Q
  refine si_6 dL_law__1218 rfl (Nat.le_of_ble_eq_true rfl) ?_
  refine r_aload_n dL_law__1220 rfl ?_
  refine r_callV (d1 := 0) (c1 := 0) (n1 := 0) (c := c0) (n := n0) (a := 167) (ci := 12) (l := 0) (st := []) [] rfl dL_law__1221 mvL_132 rfl (by exact k_167 hF2) ⟨(Nat.le_of_ble_eq_true rfl), rfl⟩ (Nat.le_of_ble_eq_true rfl) (by exact Nat.le_of_ble_eq_true rfl) ?_
  refine S_X12_thrown hF2 ?_
  show Wp g mL_law_ _ _ _ 1224 _ (_ :: _) _ Q
  refine r_iload dL_law__1224 rfl ?_
  refine r_icmp_eq 1231 dL_law__1226 rfl (fun _ => ?_) (fun hq => absurd ht hq)
  refine r_iload dL_law__1231 rfl ?_
  refine r_if_ne 1248 dL_law__1233 rfl (fun _ => ?_) (fun h0 => ?_)
  ·
    refine r_goto 2601 dL_law__1248 rfl ?_
    exact w_fg (kk _ hX2)
  ·
    refine r_aload_n dL_law__1236 rfl ?_
    refine r_iconst (0) dL_law__1237 rfl ?_
    refine r_laloadn (0) rfl dL_law__1238 (by exact k_283 hF2) (vin (j := 0) (by omega) (by omega)) ?_
    refine r_iload dL_law__1239 rfl ?_
    refine r_i2l dL_law__1241 ?_
    refine r_lcmp_eq 1248 dL_law__1242 dL_law__1243 rfl (fun _ => ?_) (fun hq => absurd (hl h0) hq)
    refine r_goto 2601 dL_law__1248 rfl ?_
    exact w_fg (kk _ hX2)
theorem LC_14 {g : GG} {m : MM} {Q : Out → Prop} {c0 n0 i : Nat} (hX : XI m) (hi : i + 6 ≤ gL g) (hL : gL g ≤ 3072) (kk : ∀ m', XI m' → Wp g mL_law_ 60 c0 n0 2601 [.ref 1, .ref 4, .ref 167, .ref 283, .int (nI i), .retAddr 0, .retAddr 0, .retAddr 0] [] m' Q) : Wp g mL_law_ 60 (c0 + 4) (n0 + 407) 1251 [.ref 1, .ref 4, .ref 167, .ref 283, .int (nI i), .retAddr 0, .retAddr 0, .retAddr 0] [] m Q := by
  refine r_aload_n dL_law__1251 rfl ?_
  refine r_aload_n dL_law__1252 rfl ?_
  refine r_iload dL_law__1253 rfl ?_
  refine r_iconst (1) dL_law__1255 rfl ?_
  refine r_iadd dL_law__1256 ?_
  refine r_sld dL_law__1257 (by exact sv 1 (by omega) hi hL) ?_
  refine r_aload_n dL_law__1258 rfl ?_
  refine w_wide (c' := c0 + 2) (n' := n0 + 12) (by omega) (by omega) ?_
  refine r_callT (d1 := 8) (c1 := 2) (n1 := 12) (c := c0) (n := n0) (st := []) [.ref 4, .int (gX g (nI i + 1).toNatClampNeg), .ref 283] rfl dL_law__1259 mtL_183 rfl (Nat.le_of_ble_eq_true rfl) (by exact Nat.le_of_ble_eq_true rfl) ?_
  refine Cl.mono (fun o ho => ?_) (P_sides hX)
  obtain ⟨out, m1⟩ := o
  obtain ⟨k, e, hF1, hR⟩ := ho
  have e : out = .inl (some (.int k)) := e
  subst e
  have hF1 : Fx m1 := hF1
  show Wp g mL_law_ _ _ _ 1262 _ (_ :: _) _ Q
  refine si_5 dL_law__1262 rfl (Nat.le_of_ble_eq_true rfl) ?_
  refine r_aload_n dL_law__1264 rfl ?_
  refine r_aload_n dL_law__1265 rfl ?_
  refine r_iload dL_law__1266 rfl ?_
  refine r_iconst (1) dL_law__1268 rfl ?_
  refine r_iadd dL_law__1269 ?_
  refine r_sld dL_law__1270 (by exact sv 1 (by omega) hi hL) ?_
  refine r_callV (d1 := 37) (c1 := 0) (n1 := 0) (c := c0) (n := n0) (a := 167) (ci := 12) (l := 0) (st := []) [.int (gX g (nI i + 1).toNatClampNeg)] rfl dL_law__1271 mvL_185 rfl (by exact k_167 hF1) ⟨(Nat.le_of_ble_eq_true rfl), rfl⟩ (Nat.le_of_ble_eq_true rfl) (by exact Nat.le_of_ble_eq_true rfl) ?_
  refine Cl.mono (fun o2 ho2 => ?_) hR
  obtain ⟨out2, m2⟩ := o2
  obtain ⟨b, e2, hX2, ht, hl⟩ := ho2
  have e2 : out2 = .inl (some (.long b)) := e2
  subst e2
  have hX2 : XI m2 := hX2
  have ht : ldI m2 167 0 = k := ht
  have hl : k = 0 → ldL m2 283 0 = b := hl
  have hF2 := hX2.F
  show Wp g mL_law_ _ _ _ 1274 _ (_ :: _) _ Q
  refine sl_6 dL_law__1274 rfl (Nat.le_of_ble_eq_true rfl) ?_
  refine r_aload_n dL_law__1276 rfl ?_
  refine r_callV (d1 := 0) (c1 := 0) (n1 := 0) (c := c0) (n := n0) (a := 167) (ci := 12) (l := 0) (st := []) [] rfl dL_law__1277 mvL_132 rfl (by exact k_167 hF2) ⟨(Nat.le_of_ble_eq_true rfl), rfl⟩ (Nat.le_of_ble_eq_true rfl) (by exact Nat.le_of_ble_eq_true rfl) ?_
  refine S_X12_thrown hF2 ?_
  show Wp g mL_law_ _ _ _ 1280 _ (_ :: _) _ Q
  refine r_iload dL_law__1280 rfl ?_
  refine r_icmp_eq 1287 dL_law__1282 rfl (fun _ => ?_) (fun hq => absurd ht hq)
  refine r_iload dL_law__1287 rfl ?_
  refine r_if_ne 1303 dL_law__1289 rfl (fun _ => ?_) (fun h0 => ?_)
  ·
    refine r_goto 2601 dL_law__1303 rfl ?_
    exact w_fg (kk _ hX2)
  ·
    refine r_aload_n dL_law__1292 rfl ?_
    refine r_iconst (0) dL_law__1293 rfl ?_
    refine r_laloadn (0) rfl dL_law__1294 (by exact k_283 hF2) (vin (j := 0) (by omega) (by omega)) ?_
    refine r_lload dL_law__1295 rfl ?_
    refine r_lcmp_eq 1303 dL_law__1297 dL_law__1298 rfl (fun _ => ?_) (fun hq => absurd (hl h0) hq)
    refine r_goto 2601 dL_law__1303 rfl ?_
    exact w_fg (kk _ hX2)
theorem LC_15 {g : GG} {m : MM} {Q : Out → Prop} {c0 n0 i : Nat} (hX : XI m) (hi : i + 6 ≤ gL g) (hL : gL g ≤ 3072) (kk : ∀ m', XI m' → Wp g mL_law_ 60 c0 n0 2601 [.ref 1, .ref 4, .ref 167, .ref 283, .int (nI i), .retAddr 0, .retAddr 0, .retAddr 0] [] m' Q) : Wp g mL_law_ 60 (c0 + 4) (n0 + 407) 1306 [.ref 1, .ref 4, .ref 167, .ref 283, .int (nI i), .retAddr 0, .retAddr 0, .retAddr 0] [] m Q := by
  refine r_aload_n dL_law__1306 rfl ?_
  refine r_aload_n dL_law__1307 rfl ?_
  refine r_iload dL_law__1308 rfl ?_
  refine r_iconst (1) dL_law__1310 rfl ?_
  refine r_iadd dL_law__1311 ?_
  refine r_sld dL_law__1312 (by exact sv 1 (by omega) hi hL) ?_
  refine r_aload_n dL_law__1313 rfl ?_
  refine r_iload dL_law__1314 rfl ?_
  refine r_iconst (2) dL_law__1316 rfl ?_
  refine r_iadd dL_law__1317 ?_
  refine r_sld dL_law__1318 (by exact sv 2 (by omega) hi hL) ?_
  refine r_aload_n dL_law__1319 rfl ?_
  refine w_wide (c' := c0 + 3) (n' := n0 + 18) (by omega) (by omega) ?_
  refine r_callT (d1 := 8) (c1 := 3) (n1 := 18) (c := c0) (n := n0) (st := []) [.ref 4, .int (gX g (nI i + 1).toNatClampNeg), .int (gX g (nI i + 2).toNatClampNeg), .ref 283] rfl dL_law__1320 mtL_186 rfl (Nat.le_of_ble_eq_true rfl) (by exact Nat.le_of_ble_eq_true rfl) ?_
  refine Cl.mono (fun o ho => ?_) (P_widest hX)
  obtain ⟨out, m1⟩ := o
  obtain ⟨k, e, hF1, hR⟩ := ho
  have e : out = .inl (some (.int k)) := e
  subst e
  have hF1 : Fx m1 := hF1
  show Wp g mL_law_ _ _ _ 1323 _ (_ :: _) _ Q
  refine si_5 dL_law__1323 rfl (Nat.le_of_ble_eq_true rfl) ?_
  refine r_aload_n dL_law__1325 rfl ?_
  refine r_aload_n dL_law__1326 rfl ?_
  refine r_iload dL_law__1327 rfl ?_
  refine r_iconst (1) dL_law__1329 rfl ?_
  refine r_iadd dL_law__1330 ?_
  refine r_sld dL_law__1331 (by exact sv 1 (by omega) hi hL) ?_
  refine r_aload_n dL_law__1332 rfl ?_
  refine r_iload dL_law__1333 rfl ?_
  refine r_iconst (2) dL_law__1335 rfl ?_
  refine r_iadd dL_law__1336 ?_
  refine r_sld dL_law__1337 (by exact sv 2 (by omega) hi hL) ?_
  refine r_callV (d1 := 37) (c1 := 0) (n1 := 0) (c := c0) (n := n0) (a := 167) (ci := 12) (l := 0) (st := []) [.int (gX g (nI i + 1).toNatClampNeg), .int (gX g (nI i + 2).toNatClampNeg)] rfl dL_law__1338 mvL_188 rfl (by exact k_167 hF1) ⟨(Nat.le_of_ble_eq_true rfl), rfl⟩ (Nat.le_of_ble_eq_true rfl) (by exact Nat.le_of_ble_eq_true rfl) ?_
  refine Cl.mono (fun o2 ho2 => ?_) hR
  obtain ⟨out2, m2⟩ := o2
  obtain ⟨b, e2, hX2, ht, hl⟩ := ho2
  have e2 : out2 = .inl (some (.int b)) := e2
  subst e2
  have hX2 : XI m2 := hX2
  have ht : ldI m2 167 0 = k := ht
  have hl : k = 0 → ldL m2 283 0 = b.toInt64 := hl
  have hF2 := hX2.F
  show Wp g mL_law_ _ _ _ 1341 _ (_ :: _) _ Q
  refine si_6 dL_law__1341 rfl (Nat.le_of_ble_eq_true rfl) ?_
  refine r_aload_n dL_law__1343 rfl ?_
  refine r_callV (d1 := 0) (c1 := 0) (n1 := 0) (c := c0) (n := n0) (a := 167) (ci := 12) (l := 0) (st := []) [] rfl dL_law__1344 mvL_132 rfl (by exact k_167 hF2) ⟨(Nat.le_of_ble_eq_true rfl), rfl⟩ (Nat.le_of_ble_eq_true rfl) (by exact Nat.le_of_ble_eq_true rfl) ?_
  refine S_X12_thrown hF2 ?_
  show Wp g mL_law_ _ _ _ 1347 _ (_ :: _) _ Q
  refine r_iload dL_law__1347 rfl ?_
  refine r_icmp_eq 1354 dL_law__1349 rfl (fun _ => ?_) (fun hq => absurd ht hq)
  refine r_iload dL_law__1354 rfl ?_
  refine r_if_ne 1371 dL_law__1356 rfl (fun _ => ?_) (fun h0 => ?_)
  ·
    refine r_goto 2601 dL_law__1371 rfl ?_
    exact w_fg (kk _ hX2)
  ·
    refine r_aload_n dL_law__1359 rfl ?_
    refine r_iconst (0) dL_law__1360 rfl ?_
    refine r_laloadn (0) rfl dL_law__1361 (by exact k_283 hF2) (vin (j := 0) (by omega) (by omega)) ?_
    refine r_iload dL_law__1362 rfl ?_
    refine r_i2l dL_law__1364 ?_
    refine r_lcmp_eq 1371 dL_law__1365 dL_law__1366 rfl (fun _ => ?_) (fun hq => absurd (hl h0) hq)
    refine r_goto 2601 dL_law__1371 rfl ?_
    exact w_fg (kk _ hX2)
theorem LC_16 {g : GG} {m : MM} {Q : Out → Prop} {c0 n0 i : Nat} (hX : XI m) (hi : i + 6 ≤ gL g) (hL : gL g ≤ 3072) (kk : ∀ m', XI m' → Wp g mL_law_ 60 c0 n0 2601 [.ref 1, .ref 4, .ref 167, .ref 283, .int (nI i), .retAddr 0, .retAddr 0, .retAddr 0] [] m' Q) : Wp g mL_law_ 60 (c0 + 4) (n0 + 407) 1374 [.ref 1, .ref 4, .ref 167, .ref 283, .int (nI i), .retAddr 0, .retAddr 0, .retAddr 0] [] m Q := by
  refine r_aload_n dL_law__1374 rfl ?_
  refine r_aload_n dL_law__1375 rfl ?_
  refine r_iload dL_law__1376 rfl ?_
  refine r_iconst (1) dL_law__1378 rfl ?_
  refine r_iadd dL_law__1379 ?_
  refine r_sld dL_law__1380 (by exact sv 1 (by omega) hi hL) ?_
  refine r_aload_n dL_law__1381 rfl ?_
  refine w_wide (c' := c0 + 2) (n' := n0 + 12) (by omega) (by omega) ?_
  refine r_callT (d1 := 8) (c1 := 2) (n1 := 12) (c := c0) (n := n0) (st := []) [.ref 4, .int (gX g (nI i + 1).toNatClampNeg), .ref 283] rfl dL_law__1382 mtL_189 rfl (Nat.le_of_ble_eq_true rfl) (by exact Nat.le_of_ble_eq_true rfl) ?_
  refine Cl.mono (fun o ho => ?_) (P_run hX)
  obtain ⟨out, m1⟩ := o
  obtain ⟨k, e, hF1, hR⟩ := ho
  have e : out = .inl (some (.int k)) := e
  subst e
  have hF1 : Fx m1 := hF1
  show Wp g mL_law_ _ _ _ 1385 _ (_ :: _) _ Q
  refine si_5 dL_law__1385 rfl (Nat.le_of_ble_eq_true rfl) ?_
  refine r_aload_n dL_law__1387 rfl ?_
  refine r_aload_n dL_law__1388 rfl ?_
  refine r_iload dL_law__1389 rfl ?_
  refine r_iconst (1) dL_law__1391 rfl ?_
  refine r_iadd dL_law__1392 ?_
  refine r_sld dL_law__1393 (by exact sv 1 (by omega) hi hL) ?_
  refine r_callV (d1 := 1) (c1 := 0) (n1 := 0) (c := c0) (n := n0) (a := 167) (ci := 12) (l := 0) (st := []) [.int (gX g (nI i + 1).toNatClampNeg)] rfl dL_law__1394 mvL_191 rfl (by exact k_167 hF1) ⟨(Nat.le_of_ble_eq_true rfl), rfl⟩ (Nat.le_of_ble_eq_true rfl) (by exact Nat.le_of_ble_eq_true rfl) ?_
  refine Cl.mono (fun o2 ho2 => ?_) hR
  obtain ⟨out2, m2⟩ := o2
  obtain ⟨b, e2, hX2, ht, hl⟩ := ho2
  have e2 : out2 = .inl (some (.int b)) := e2
  subst e2
  have hX2 : XI m2 := hX2
  have ht : ldI m2 167 0 = k := ht
  have hl : k = 0 → ldL m2 283 0 = b.toInt64 := hl
  have hF2 := hX2.F
  show Wp g mL_law_ _ _ _ 1397 _ (_ :: _) _ Q
  refine si_6 dL_law__1397 rfl (Nat.le_of_ble_eq_true rfl) ?_
  refine r_aload_n dL_law__1399 rfl ?_
  refine r_callV (d1 := 0) (c1 := 0) (n1 := 0) (c := c0) (n := n0) (a := 167) (ci := 12) (l := 0) (st := []) [] rfl dL_law__1400 mvL_132 rfl (by exact k_167 hF2) ⟨(Nat.le_of_ble_eq_true rfl), rfl⟩ (Nat.le_of_ble_eq_true rfl) (by exact Nat.le_of_ble_eq_true rfl) ?_
  refine S_X12_thrown hF2 ?_
  show Wp g mL_law_ _ _ _ 1403 _ (_ :: _) _ Q
  refine r_iload dL_law__1403 rfl ?_
  refine r_icmp_eq 1410 dL_law__1405 rfl (fun _ => ?_) (fun hq => absurd ht hq)
  refine r_iload dL_law__1410 rfl ?_
  refine r_if_ne 1427 dL_law__1412 rfl (fun _ => ?_) (fun h0 => ?_)
  ·
    refine r_goto 2601 dL_law__1427 rfl ?_
    exact w_fg (kk _ hX2)
  ·
    refine r_aload_n dL_law__1415 rfl ?_
    refine r_iconst (0) dL_law__1416 rfl ?_
    refine r_laloadn (0) rfl dL_law__1417 (by exact k_283 hF2) (vin (j := 0) (by omega) (by omega)) ?_
    refine r_iload dL_law__1418 rfl ?_
    refine r_i2l dL_law__1420 ?_
    refine r_lcmp_eq 1427 dL_law__1421 dL_law__1422 rfl (fun _ => ?_) (fun hq => absurd (hl h0) hq)
    refine r_goto 2601 dL_law__1427 rfl ?_
    exact w_fg (kk _ hX2)
theorem LC_17 {g : GG} {m : MM} {Q : Out → Prop} {c0 n0 i : Nat} (hX : XI m) (hi : i + 6 ≤ gL g) (hL : gL g ≤ 3072) (kk : ∀ m', XI m' → Wp g mL_law_ 60 c0 n0 2601 [.ref 1, .ref 4, .ref 167, .ref 283, .int (nI i), .retAddr 0, .retAddr 0, .retAddr 0] [] m' Q) : Wp g mL_law_ 60 (c0 + 4) (n0 + 407) 1430 [.ref 1, .ref 4, .ref 167, .ref 283, .int (nI i), .retAddr 0, .retAddr 0, .retAddr 0] [] m Q := by
  refine r_aload_n dL_law__1430 rfl ?_
  refine r_aload_n dL_law__1431 rfl ?_
  refine r_iload dL_law__1432 rfl ?_
  refine r_iconst (1) dL_law__1434 rfl ?_
  refine r_iadd dL_law__1435 ?_
  refine r_sld dL_law__1436 (by exact sv 1 (by omega) hi hL) ?_
  refine r_aload_n dL_law__1437 rfl ?_
  refine r_iload dL_law__1438 rfl ?_
  refine r_iconst (2) dL_law__1440 rfl ?_
  refine r_iadd dL_law__1441 ?_
  refine r_sld dL_law__1442 (by exact sv 2 (by omega) hi hL) ?_
  refine r_aload_n dL_law__1443 rfl ?_
  refine w_wide (c' := c0 + 3) (n' := n0 + 18) (by omega) (by omega) ?_
  refine r_callT (d1 := 8) (c1 := 3) (n1 := 18) (c := c0) (n := n0) (st := []) [.ref 4, .int (gX g (nI i + 1).toNatClampNeg), .int (gX g (nI i + 2).toNatClampNeg), .ref 283] rfl dL_law__1444 mtL_192 rfl (Nat.le_of_ble_eq_true rfl) (by exact Nat.le_of_ble_eq_true rfl) ?_
  refine Cl.mono (fun o ho => ?_) (P_tow hX)
  obtain ⟨out, m1⟩ := o
  obtain ⟨k, e, hF1, hR⟩ := ho
  have e : out = .inl (some (.int k)) := e
  subst e
  have hF1 : Fx m1 := hF1
  show Wp g mL_law_ _ _ _ 1447 _ (_ :: _) _ Q
  refine si_5 dL_law__1447 rfl (Nat.le_of_ble_eq_true rfl) ?_
  refine r_aload_n dL_law__1449 rfl ?_
  refine r_aload_n dL_law__1450 rfl ?_
  refine r_iload dL_law__1451 rfl ?_
  refine r_iconst (1) dL_law__1453 rfl ?_
  refine r_iadd dL_law__1454 ?_
  refine r_sld dL_law__1455 (by exact sv 1 (by omega) hi hL) ?_
  refine r_aload_n dL_law__1456 rfl ?_
  refine r_iload dL_law__1457 rfl ?_
  refine r_iconst (2) dL_law__1459 rfl ?_
  refine r_iadd dL_law__1460 ?_
  refine r_sld dL_law__1461 (by exact sv 2 (by omega) hi hL) ?_
  refine r_callV (d1 := 36) (c1 := 0) (n1 := 0) (c := c0) (n := n0) (a := 167) (ci := 12) (l := 0) (st := []) [.int (gX g (nI i + 1).toNatClampNeg), .int (gX g (nI i + 2).toNatClampNeg)] rfl dL_law__1462 mvL_194 rfl (by exact k_167 hF1) ⟨(Nat.le_of_ble_eq_true rfl), rfl⟩ (Nat.le_of_ble_eq_true rfl) (by exact Nat.le_of_ble_eq_true rfl) ?_
  refine Cl.mono (fun o2 ho2 => ?_) hR
  obtain ⟨out2, m2⟩ := o2
  obtain ⟨b, e2, hX2, ht, hl⟩ := ho2
  have e2 : out2 = .inl (some (.int b)) := e2
  subst e2
  have hX2 : XI m2 := hX2
  have ht : ldI m2 167 0 = k := ht
  have hl : k = 0 → ldL m2 283 0 = b.toInt64 := hl
  have hF2 := hX2.F
  show Wp g mL_law_ _ _ _ 1465 _ (_ :: _) _ Q
  refine si_6 dL_law__1465 rfl (Nat.le_of_ble_eq_true rfl) ?_
  refine r_aload_n dL_law__1467 rfl ?_
  refine r_callV (d1 := 0) (c1 := 0) (n1 := 0) (c := c0) (n := n0) (a := 167) (ci := 12) (l := 0) (st := []) [] rfl dL_law__1468 mvL_132 rfl (by exact k_167 hF2) ⟨(Nat.le_of_ble_eq_true rfl), rfl⟩ (Nat.le_of_ble_eq_true rfl) (by exact Nat.le_of_ble_eq_true rfl) ?_
  refine S_X12_thrown hF2 ?_
  show Wp g mL_law_ _ _ _ 1471 _ (_ :: _) _ Q
  refine r_iload dL_law__1471 rfl ?_
  refine r_icmp_eq 1478 dL_law__1473 rfl (fun _ => ?_) (fun hq => absurd ht hq)
  refine r_iload dL_law__1478 rfl ?_
  refine r_if_ne 1495 dL_law__1480 rfl (fun _ => ?_) (fun h0 => ?_)
  ·
    refine r_goto 2601 dL_law__1495 rfl ?_
    exact w_fg (kk _ hX2)
  ·
    refine r_aload_n dL_law__1483 rfl ?_
    refine r_iconst (0) dL_law__1484 rfl ?_
    refine r_laloadn (0) rfl dL_law__1485 (by exact k_283 hF2) (vin (j := 0) (by omega) (by omega)) ?_
    refine r_iload dL_law__1486 rfl ?_
    refine r_i2l dL_law__1488 ?_
    refine r_lcmp_eq 1495 dL_law__1489 dL_law__1490 rfl (fun _ => ?_) (fun hq => absurd (hl h0) hq)
    refine r_goto 2601 dL_law__1495 rfl ?_
    exact w_fg (kk _ hX2)
theorem LC_18 {g : GG} {m : MM} {Q : Out → Prop} {c0 n0 i : Nat} (hX : XI m) (hi : i + 6 ≤ gL g) (hL : gL g ≤ 3072) (kk : ∀ m', XI m' → Wp g mL_law_ 60 c0 n0 2601 [.ref 1, .ref 4, .ref 167, .ref 283, .int (nI i), .retAddr 0, .retAddr 0, .retAddr 0] [] m' Q) : Wp g mL_law_ 60 (c0 + 4) (n0 + 407) 1498 [.ref 1, .ref 4, .ref 167, .ref 283, .int (nI i), .retAddr 0, .retAddr 0, .retAddr 0] [] m Q := by
  refine r_aload_n dL_law__1498 rfl ?_
  refine r_aload_n dL_law__1499 rfl ?_
  refine r_iload dL_law__1500 rfl ?_
  refine r_iconst (1) dL_law__1502 rfl ?_
  refine r_iadd dL_law__1503 ?_
  refine r_sld dL_law__1504 (by exact sv 1 (by omega) hi hL) ?_
  refine r_aload_n dL_law__1505 rfl ?_
  refine r_iload dL_law__1506 rfl ?_
  refine r_iconst (2) dL_law__1508 rfl ?_
  refine r_iadd dL_law__1509 ?_
  refine r_sld dL_law__1510 (by exact sv 2 (by omega) hi hL) ?_
  refine r_aload_n dL_law__1511 rfl ?_
  refine w_wide (c' := c0 + 1) (n' := n0 + 6) (by omega) (by omega) ?_
  refine r_callT (d1 := 8) (c1 := 1) (n1 := 6) (c := c0) (n := n0) (st := []) [.ref 4, .int (gX g (nI i + 1).toNatClampNeg), .int (gX g (nI i + 2).toNatClampNeg), .ref 283] rfl dL_law__1512 mtL_195 rfl (Nat.le_of_ble_eq_true rfl) (by exact Nat.le_of_ble_eq_true rfl) ?_
  refine Cl.mono (fun o ho => ?_) (P_ran hX)
  obtain ⟨out, m1⟩ := o
  obtain ⟨k, e, hF1, hR⟩ := ho
  have e : out = .inl (some (.int k)) := e
  subst e
  have hF1 : Fx m1 := hF1
  show Wp g mL_law_ _ _ _ 1515 _ (_ :: _) _ Q
  refine si_5 dL_law__1515 rfl (Nat.le_of_ble_eq_true rfl) ?_
  refine r_aload_n dL_law__1517 rfl ?_
  refine r_aload_n dL_law__1518 rfl ?_
  refine r_iload dL_law__1519 rfl ?_
  refine r_iconst (1) dL_law__1521 rfl ?_
  refine r_iadd dL_law__1522 ?_
  refine r_sld dL_law__1523 (by exact sv 1 (by omega) hi hL) ?_
  refine r_aload_n dL_law__1524 rfl ?_
  refine r_iload dL_law__1525 rfl ?_
  refine r_iconst (2) dL_law__1527 rfl ?_
  refine r_iadd dL_law__1528 ?_
  refine r_sld dL_law__1529 (by exact sv 2 (by omega) hi hL) ?_
  refine r_callV (d1 := 1) (c1 := 0) (n1 := 0) (c := c0) (n := n0) (a := 167) (ci := 12) (l := 0) (st := []) [.int (gX g (nI i + 1).toNatClampNeg), .int (gX g (nI i + 2).toNatClampNeg)] rfl dL_law__1530 mvL_197 rfl (by exact k_167 hF1) ⟨(Nat.le_of_ble_eq_true rfl), rfl⟩ (Nat.le_of_ble_eq_true rfl) (by exact Nat.le_of_ble_eq_true rfl) ?_
  refine Cl.mono (fun o2 ho2 => ?_) hR
  obtain ⟨out2, m2⟩ := o2
  obtain ⟨b, e2, hX2, ht, hl⟩ := ho2
  have e2 : out2 = .inl (some (.int b)) := e2
  subst e2
  have hX2 : XI m2 := hX2
  have ht : ldI m2 167 0 = k := ht
  have hl : k = 0 → ldL m2 283 0 = b.toInt64 := hl
  have hF2 := hX2.F
  show Wp g mL_law_ _ _ _ 1533 _ (_ :: _) _ Q
  refine si_6 dL_law__1533 rfl (Nat.le_of_ble_eq_true rfl) ?_
  refine r_aload_n dL_law__1535 rfl ?_
  refine r_callV (d1 := 0) (c1 := 0) (n1 := 0) (c := c0) (n := n0) (a := 167) (ci := 12) (l := 0) (st := []) [] rfl dL_law__1536 mvL_132 rfl (by exact k_167 hF2) ⟨(Nat.le_of_ble_eq_true rfl), rfl⟩ (Nat.le_of_ble_eq_true rfl) (by exact Nat.le_of_ble_eq_true rfl) ?_
  refine S_X12_thrown hF2 ?_
  show Wp g mL_law_ _ _ _ 1539 _ (_ :: _) _ Q
  refine r_iload dL_law__1539 rfl ?_
  refine r_icmp_eq 1546 dL_law__1541 rfl (fun _ => ?_) (fun hq => absurd ht hq)
  refine r_iload dL_law__1546 rfl ?_
  refine r_if_ne 1563 dL_law__1548 rfl (fun _ => ?_) (fun h0 => ?_)
  ·
    refine r_goto 2601 dL_law__1563 rfl ?_
    exact w_fg (kk _ hX2)
  ·
    refine r_aload_n dL_law__1551 rfl ?_
    refine r_iconst (0) dL_law__1552 rfl ?_
    refine r_laloadn (0) rfl dL_law__1553 (by exact k_283 hF2) (vin (j := 0) (by omega) (by omega)) ?_
    refine r_iload dL_law__1554 rfl ?_
    refine r_i2l dL_law__1556 ?_
    refine r_lcmp_eq 1563 dL_law__1557 dL_law__1558 rfl (fun _ => ?_) (fun hq => absurd (hl h0) hq)
    refine r_goto 2601 dL_law__1563 rfl ?_
    exact w_fg (kk _ hX2)
theorem LC_19 {g : GG} {m : MM} {Q : Out → Prop} {c0 n0 i : Nat} (hX : XI m) (hi : i + 6 ≤ gL g) (hL : gL g ≤ 3072) (kk : ∀ m', XI m' → Wp g mL_law_ 60 c0 n0 2601 [.ref 1, .ref 4, .ref 167, .ref 283, .int (nI i), .retAddr 0, .retAddr 0, .retAddr 0] [] m' Q) : Wp g mL_law_ 60 (c0 + 4) (n0 + 407) 1566 [.ref 1, .ref 4, .ref 167, .ref 283, .int (nI i), .retAddr 0, .retAddr 0, .retAddr 0] [] m Q := by
  refine r_aload_n dL_law__1566 rfl ?_
  refine r_aload_n dL_law__1567 rfl ?_
  refine r_iload dL_law__1568 rfl ?_
  refine r_iconst (1) dL_law__1570 rfl ?_
  refine r_iadd dL_law__1571 ?_
  refine r_sld dL_law__1572 (by exact sv 1 (by omega) hi hL) ?_
  refine w_wide (c' := c0) (n' := n0) (by omega) (by omega) ?_
  refine r_callV (d1 := 0) (c1 := 0) (n1 := 0) (c := c0) (n := n0) (a := 4) (ci := 11) (l := 0) (st := []) [.int (gX g (nI i + 1).toNatClampNeg)] rfl dL_law__1573 mvL_198 rfl (by exact k_4 hX.F) ⟨(Nat.le_of_ble_eq_true rfl), rfl⟩ (Nat.le_of_ble_eq_true rfl) (by exact Nat.le_of_ble_eq_true rfl) ?_
  refine Cl.mono (fun o ho => ?_) (P_seed hX)
  obtain ⟨out, m1⟩ := o
  obtain ⟨k, e, hF1, hR⟩ := ho
  have e : out = .inl (some (.int k)) := e
  subst e
  have hF1 : Fx m1 := hF1
  show Wp g mL_law_ _ _ _ 1576 _ (_ :: _) _ Q
  refine r_aload_n dL_law__1576 rfl ?_
  refine r_aload_n dL_law__1577 rfl ?_
  refine r_iload dL_law__1578 rfl ?_
  refine r_iconst (1) dL_law__1580 rfl ?_
  refine r_iadd dL_law__1581 ?_
  refine r_sld dL_law__1582 (by exact sv 1 (by omega) hi hL) ?_
  refine r_callV (d1 := 0) (c1 := 0) (n1 := 0) (c := c0) (n := n0) (a := 167) (ci := 12) (l := 0) (st := [.int k]) [.int (gX g (nI i + 1).toNatClampNeg)] rfl dL_law__1583 mvL_201 rfl (by exact k_167 hF1) ⟨(Nat.le_of_ble_eq_true rfl), rfl⟩ (Nat.le_of_ble_eq_true rfl) (by exact Nat.le_of_ble_eq_true rfl) ?_
  refine Cl.mono (fun o2 ho2 => ?_) hR
  obtain ⟨out2, m2⟩ := o2
  obtain ⟨e2, hX2⟩ := ho2
  have e2 : out2 = .inl (some (.int k)) := e2
  subst e2
  have hX2 : XI m2 := hX2
  have hF2 := hX2.F
  show Wp g mL_law_ _ _ _ 1586 _ (_ :: _) _ Q
  refine r_icmp_eq 2601 dL_law__1586 rfl (fun _ => ?_) (fun hq => absurd rfl hq)
  exact w_fg (kk _ hX2)
theorem LC_20 {g : GG} {m : MM} {Q : Out → Prop} {c0 n0 i : Nat} (hX : XI m) (hi : i + 6 ≤ gL g) (hL : gL g ≤ 3072) (kk : ∀ m', XI m' → Wp g mL_law_ 60 c0 n0 2601 [.ref 1, .ref 4, .ref 167, .ref 283, .int (nI i), .retAddr 0, .retAddr 0, .retAddr 0] [] m' Q) : Wp g mL_law_ 60 (c0 + 4) (n0 + 407) 1591 [.ref 1, .ref 4, .ref 167, .ref 283, .int (nI i), .retAddr 0, .retAddr 0, .retAddr 0] [] m Q := by
  refine r_aload_n dL_law__1591 rfl ?_
  refine r_aload_n dL_law__1592 rfl ?_
  refine w_wide (c' := c0 + 1) (n' := n0 + 6) (by omega) (by omega) ?_
  refine r_callT (d1 := 8) (c1 := 1) (n1 := 6) (c := c0) (n := n0) (st := []) [.ref 4, .ref 283] rfl dL_law__1593 mtL_202 rfl (Nat.le_of_ble_eq_true rfl) (by exact Nat.le_of_ble_eq_true rfl) ?_
  refine Cl.mono (fun o ho => ?_) (P_wire hX)
  obtain ⟨out, m1⟩ := o
  obtain ⟨k, e, hF1, hR⟩ := ho
  have e : out = .inl (some (.int k)) := e
  subst e
  have hF1 : Fx m1 := hF1
  show Wp g mL_law_ _ _ _ 1596 _ (_ :: _) _ Q
  refine si_5 dL_law__1596 rfl (Nat.le_of_ble_eq_true rfl) ?_
  refine r_aload_n dL_law__1598 rfl ?_
  refine r_callV (d1 := 1) (c1 := 0) (n1 := 0) (c := c0) (n := n0) (a := 167) (ci := 12) (l := 0) (st := []) [] rfl dL_law__1599 mvL_205 rfl (by exact k_167 hF1) ⟨(Nat.le_of_ble_eq_true rfl), rfl⟩ (Nat.le_of_ble_eq_true rfl) (by exact Nat.le_of_ble_eq_true rfl) ?_
  refine Cl.mono (fun o2 ho2 => ?_) hR
  obtain ⟨out2, m2⟩ := o2
  obtain ⟨b, e2, hX2, ht, hl⟩ := ho2
  have e2 : out2 = .inl (some (.long b)) := e2
  subst e2
  have hX2 : XI m2 := hX2
  have ht : ldI m2 167 0 = k := ht
  have hl : k = 0 → ldL m2 283 0 = b := hl
  have hF2 := hX2.F
  show Wp g mL_law_ _ _ _ 1602 _ (_ :: _) _ Q
  refine sl_6 dL_law__1602 rfl (Nat.le_of_ble_eq_true rfl) ?_
  refine r_aload_n dL_law__1604 rfl ?_
  refine r_callV (d1 := 0) (c1 := 0) (n1 := 0) (c := c0) (n := n0) (a := 167) (ci := 12) (l := 0) (st := []) [] rfl dL_law__1605 mvL_132 rfl (by exact k_167 hF2) ⟨(Nat.le_of_ble_eq_true rfl), rfl⟩ (Nat.le_of_ble_eq_true rfl) (by exact Nat.le_of_ble_eq_true rfl) ?_
  refine S_X12_thrown hF2 ?_
  show Wp g mL_law_ _ _ _ 1608 _ (_ :: _) _ Q
  refine r_iload dL_law__1608 rfl ?_
  refine r_icmp_eq 1615 dL_law__1610 rfl (fun _ => ?_) (fun hq => absurd ht hq)
  refine r_iload dL_law__1615 rfl ?_
  refine r_if_ne 1631 dL_law__1617 rfl (fun _ => ?_) (fun h0 => ?_)
  ·
    refine r_goto 2601 dL_law__1631 rfl ?_
    exact w_fg (kk _ hX2)
  ·
    refine r_aload_n dL_law__1620 rfl ?_
    refine r_iconst (0) dL_law__1621 rfl ?_
    refine r_laloadn (0) rfl dL_law__1622 (by exact k_283 hF2) (vin (j := 0) (by omega) (by omega)) ?_
    refine r_lload dL_law__1623 rfl ?_
    refine r_lcmp_eq 1631 dL_law__1625 dL_law__1626 rfl (fun _ => ?_) (fun hq => absurd (hl h0) hq)
    refine r_goto 2601 dL_law__1631 rfl ?_
    exact w_fg (kk _ hX2)
theorem LC_21 {g : GG} {m : MM} {Q : Out → Prop} {c0 n0 i : Nat} (hX : XI m) (hi : i + 6 ≤ gL g) (hL : gL g ≤ 3072) (kk : ∀ m', XI m' → Wp g mL_law_ 60 c0 n0 2601 [.ref 1, .ref 4, .ref 167, .ref 283, .int (nI i), .retAddr 0, .retAddr 0, .retAddr 0] [] m' Q) : Wp g mL_law_ 60 (c0 + 4) (n0 + 407) 1634 [.ref 1, .ref 4, .ref 167, .ref 283, .int (nI i), .retAddr 0, .retAddr 0, .retAddr 0] [] m Q := by
  refine r_aload_n dL_law__1634 rfl ?_
  refine r_aload_n dL_law__1635 rfl ?_
  refine r_iload dL_law__1636 rfl ?_
  refine r_iconst (1) dL_law__1638 rfl ?_
  refine r_iadd dL_law__1639 ?_
  refine r_sld dL_law__1640 (by exact sv 1 (by omega) hi hL) ?_
  refine r_aload_n dL_law__1641 rfl ?_
  refine w_wide (c' := c0 + 1) (n' := n0 + 6) (by omega) (by omega) ?_
  refine r_callT (d1 := 8) (c1 := 1) (n1 := 6) (c := c0) (n := n0) (st := []) [.ref 4, .int (gX g (nI i + 1).toNatClampNeg), .ref 283] rfl dL_law__1642 mtL_206 rfl (Nat.le_of_ble_eq_true rfl) (by exact Nat.le_of_ble_eq_true rfl) ?_
  refine Cl.mono (fun o ho => ?_) (P_fits hX)
  obtain ⟨out, m1⟩ := o
  obtain ⟨k, e, hF1, hR⟩ := ho
  have e : out = .inl (some (.int k)) := e
  subst e
  have hF1 : Fx m1 := hF1
  show Wp g mL_law_ _ _ _ 1645 _ (_ :: _) _ Q
  refine si_5 dL_law__1645 rfl (Nat.le_of_ble_eq_true rfl) ?_
  refine r_aload_n dL_law__1647 rfl ?_
  refine r_aload_n dL_law__1648 rfl ?_
  refine r_iload dL_law__1649 rfl ?_
  refine r_iconst (1) dL_law__1651 rfl ?_
  refine r_iadd dL_law__1652 ?_
  refine r_sld dL_law__1653 (by exact sv 1 (by omega) hi hL) ?_
  refine r_callV (d1 := 38) (c1 := 0) (n1 := 0) (c := c0) (n := n0) (a := 167) (ci := 12) (l := 0) (st := []) [.int (gX g (nI i + 1).toNatClampNeg)] rfl dL_law__1654 mvL_208 rfl (by exact k_167 hF1) ⟨(Nat.le_of_ble_eq_true rfl), rfl⟩ (Nat.le_of_ble_eq_true rfl) (by exact Nat.le_of_ble_eq_true rfl) ?_
  refine Cl.mono (fun o2 ho2 => ?_) hR
  obtain ⟨out2, m2⟩ := o2
  obtain ⟨b, e2, hX2, ht, hl⟩ := ho2
  have e2 : out2 = .inl (some (.int b)) := e2
  subst e2
  have hX2 : XI m2 := hX2
  have ht : ldI m2 167 0 = k := ht
  have hl : k = 0 → ldL m2 283 0 = b.toInt64 := hl
  have hF2 := hX2.F
  show Wp g mL_law_ _ _ _ 1657 _ (_ :: _) _ Q
  refine si_6 dL_law__1657 rfl (Nat.le_of_ble_eq_true rfl) ?_
  refine r_aload_n dL_law__1659 rfl ?_
  refine r_callV (d1 := 0) (c1 := 0) (n1 := 0) (c := c0) (n := n0) (a := 167) (ci := 12) (l := 0) (st := []) [] rfl dL_law__1660 mvL_132 rfl (by exact k_167 hF2) ⟨(Nat.le_of_ble_eq_true rfl), rfl⟩ (Nat.le_of_ble_eq_true rfl) (by exact Nat.le_of_ble_eq_true rfl) ?_
  refine S_X12_thrown hF2 ?_
  show Wp g mL_law_ _ _ _ 1663 _ (_ :: _) _ Q
  refine r_iload dL_law__1663 rfl ?_
  refine r_icmp_eq 1670 dL_law__1665 rfl (fun _ => ?_) (fun hq => absurd ht hq)
  refine r_iload dL_law__1670 rfl ?_
  refine r_if_ne 1687 dL_law__1672 rfl (fun _ => ?_) (fun h0 => ?_)
  ·
    refine r_goto 2601 dL_law__1687 rfl ?_
    exact w_fg (kk _ hX2)
  ·
    refine r_aload_n dL_law__1675 rfl ?_
    refine r_iconst (0) dL_law__1676 rfl ?_
    refine r_laloadn (0) rfl dL_law__1677 (by exact k_283 hF2) (vin (j := 0) (by omega) (by omega)) ?_
    refine r_iload dL_law__1678 rfl ?_
    refine r_i2l dL_law__1680 ?_
    refine r_lcmp_eq 1687 dL_law__1681 dL_law__1682 rfl (fun _ => ?_) (fun hq => absurd (hl h0) hq)
    refine r_goto 2601 dL_law__1687 rfl ?_
    exact w_fg (kk _ hX2)
theorem LC_22 {g : GG} {m : MM} {Q : Out → Prop} {c0 n0 i : Nat} (hX : XI m) (hi : i + 6 ≤ gL g) (hL : gL g ≤ 3072) (kk : ∀ m', XI m' → Wp g mL_law_ 60 c0 n0 2601 [.ref 1, .ref 4, .ref 167, .ref 283, .int (nI i), .retAddr 0, .retAddr 0, .retAddr 0] [] m' Q) : Wp g mL_law_ 60 (c0 + 4) (n0 + 407) 1690 [.ref 1, .ref 4, .ref 167, .ref 283, .int (nI i), .retAddr 0, .retAddr 0, .retAddr 0] [] m Q := by
  refine r_aload_n dL_law__1690 rfl ?_
  refine r_aload_n dL_law__1691 rfl ?_
  refine r_iload dL_law__1692 rfl ?_
  refine r_iconst (1) dL_law__1694 rfl ?_
  refine r_iadd dL_law__1695 ?_
  refine r_sld dL_law__1696 (by exact sv 1 (by omega) hi hL) ?_
  refine r_aload_n dL_law__1697 rfl ?_
  refine w_wide (c' := c0 + 2) (n' := n0 + 12) (by omega) (by omega) ?_
  refine r_callT (d1 := 8) (c1 := 2) (n1 := 12) (c := c0) (n := n0) (st := []) [.ref 4, .int (gX g (nI i + 1).toNatClampNeg), .ref 283] rfl dL_law__1698 mtL_209 rfl (Nat.le_of_ble_eq_true rfl) (by exact Nat.le_of_ble_eq_true rfl) ?_
  refine Cl.mono (fun o ho => ?_) (P_telling hX)
  obtain ⟨out, m1⟩ := o
  obtain ⟨k, e, hF1, hR⟩ := ho
  have e : out = .inl (some (.int k)) := e
  subst e
  have hF1 : Fx m1 := hF1
  show Wp g mL_law_ _ _ _ 1701 _ (_ :: _) _ Q
  refine si_5 dL_law__1701 rfl (Nat.le_of_ble_eq_true rfl) ?_
  refine r_aload_n dL_law__1703 rfl ?_
  refine r_aload_n dL_law__1704 rfl ?_
  refine r_iload dL_law__1705 rfl ?_
  refine r_iconst (1) dL_law__1707 rfl ?_
  refine r_iadd dL_law__1708 ?_
  refine r_sld dL_law__1709 (by exact sv 1 (by omega) hi hL) ?_
  refine r_callV (d1 := 38) (c1 := 0) (n1 := 0) (c := c0) (n := n0) (a := 167) (ci := 12) (l := 0) (st := []) [.int (gX g (nI i + 1).toNatClampNeg)] rfl dL_law__1710 mvL_211 rfl (by exact k_167 hF1) ⟨(Nat.le_of_ble_eq_true rfl), rfl⟩ (Nat.le_of_ble_eq_true rfl) (by exact Nat.le_of_ble_eq_true rfl) ?_
  refine Cl.mono (fun o2 ho2 => ?_) hR
  obtain ⟨out2, m2⟩ := o2
  obtain ⟨b, e2, hX2, ht, hl⟩ := ho2
  have e2 : out2 = .inl (some (.int b)) := e2
  subst e2
  have hX2 : XI m2 := hX2
  have ht : ldI m2 167 0 = k := ht
  have hl : k = 0 → ldL m2 283 0 = b.toInt64 := hl
  have hF2 := hX2.F
  show Wp g mL_law_ _ _ _ 1713 _ (_ :: _) _ Q
  refine si_6 dL_law__1713 rfl (Nat.le_of_ble_eq_true rfl) ?_
  refine r_aload_n dL_law__1715 rfl ?_
  refine r_callV (d1 := 0) (c1 := 0) (n1 := 0) (c := c0) (n := n0) (a := 167) (ci := 12) (l := 0) (st := []) [] rfl dL_law__1716 mvL_132 rfl (by exact k_167 hF2) ⟨(Nat.le_of_ble_eq_true rfl), rfl⟩ (Nat.le_of_ble_eq_true rfl) (by exact Nat.le_of_ble_eq_true rfl) ?_
  refine S_X12_thrown hF2 ?_
  show Wp g mL_law_ _ _ _ 1719 _ (_ :: _) _ Q
  refine r_iload dL_law__1719 rfl ?_
  refine r_icmp_eq 1726 dL_law__1721 rfl (fun _ => ?_) (fun hq => absurd ht hq)
  refine r_iload dL_law__1726 rfl ?_
  refine r_if_ne 1743 dL_law__1728 rfl (fun _ => ?_) (fun h0 => ?_)
  ·
    refine r_goto 2601 dL_law__1743 rfl ?_
    exact w_fg (kk _ hX2)
  ·
    refine r_aload_n dL_law__1731 rfl ?_
    refine r_iconst (0) dL_law__1732 rfl ?_
    refine r_laloadn (0) rfl dL_law__1733 (by exact k_283 hF2) (vin (j := 0) (by omega) (by omega)) ?_
    refine r_iload dL_law__1734 rfl ?_
    refine r_i2l dL_law__1736 ?_
    refine r_lcmp_eq 1743 dL_law__1737 dL_law__1738 rfl (fun _ => ?_) (fun hq => absurd (hl h0) hq)
    refine r_goto 2601 dL_law__1743 rfl ?_
    exact w_fg (kk _ hX2)
theorem LC_23 {g : GG} {m : MM} {Q : Out → Prop} {c0 n0 i : Nat} (hX : XI m) (hi : i + 6 ≤ gL g) (hL : gL g ≤ 3072) (kk : ∀ m', XI m' → Wp g mL_law_ 60 c0 n0 2601 [.ref 1, .ref 4, .ref 167, .ref 283, .int (nI i), .retAddr 0, .retAddr 0, .retAddr 0] [] m' Q) : Wp g mL_law_ 60 (c0 + 4) (n0 + 407) 1746 [.ref 1, .ref 4, .ref 167, .ref 283, .int (nI i), .retAddr 0, .retAddr 0, .retAddr 0] [] m Q := by
  refine r_aload_n dL_law__1746 rfl ?_
  refine r_aload_n dL_law__1747 rfl ?_
  refine r_iload dL_law__1748 rfl ?_
  refine r_iconst (1) dL_law__1750 rfl ?_
  refine r_iadd dL_law__1751 ?_
  refine r_sld dL_law__1752 (by exact sv 1 (by omega) hi hL) ?_
  refine r_aload_n dL_law__1753 rfl ?_
  refine r_iload dL_law__1754 rfl ?_
  refine r_iconst (2) dL_law__1756 rfl ?_
  refine r_iadd dL_law__1757 ?_
  refine r_sld dL_law__1758 (by exact sv 2 (by omega) hi hL) ?_
  refine r_aload_n dL_law__1759 rfl ?_
  refine w_wide (c' := c0 + 1) (n' := n0 + 6) (by omega) (by omega) ?_
  refine r_callT (d1 := 8) (c1 := 1) (n1 := 6) (c := c0) (n := n0) (st := []) [.ref 4, .int (gX g (nI i + 1).toNatClampNeg), .int (gX g (nI i + 2).toNatClampNeg), .ref 283] rfl dL_law__1760 mtL_212 rfl (Nat.le_of_ble_eq_true rfl) (by exact Nat.le_of_ble_eq_true rfl) ?_
  refine Cl.mono (fun o ho => ?_) (P_earlier hX)
  obtain ⟨out, m1⟩ := o
  obtain ⟨k, e, hF1, hR⟩ := ho
  have e : out = .inl (some (.int k)) := e
  subst e
  have hF1 : Fx m1 := hF1
  show Wp g mL_law_ _ _ _ 1763 _ (_ :: _) _ Q
  refine si_5 dL_law__1763 rfl (Nat.le_of_ble_eq_true rfl) ?_
  refine r_aload_n dL_law__1765 rfl ?_
  refine r_aload_n dL_law__1766 rfl ?_
  refine r_iload dL_law__1767 rfl ?_
  refine r_iconst (1) dL_law__1769 rfl ?_
  refine r_iadd dL_law__1770 ?_
  refine r_sld dL_law__1771 (by exact sv 1 (by omega) hi hL) ?_
  refine r_aload_n dL_law__1772 rfl ?_
  refine r_iload dL_law__1773 rfl ?_
  refine r_iconst (2) dL_law__1775 rfl ?_
  refine r_iadd dL_law__1776 ?_
  refine r_sld dL_law__1777 (by exact sv 2 (by omega) hi hL) ?_
  refine r_callV (d1 := 1) (c1 := 0) (n1 := 0) (c := c0) (n := n0) (a := 167) (ci := 12) (l := 0) (st := []) [.int (gX g (nI i + 1).toNatClampNeg), .int (gX g (nI i + 2).toNatClampNeg)] rfl dL_law__1778 mvL_214 rfl (by exact k_167 hF1) ⟨(Nat.le_of_ble_eq_true rfl), rfl⟩ (Nat.le_of_ble_eq_true rfl) (by exact Nat.le_of_ble_eq_true rfl) ?_
  refine Cl.mono (fun o2 ho2 => ?_) hR
  obtain ⟨out2, m2⟩ := o2
  obtain ⟨b, e2, hX2, ht, hl⟩ := ho2
  have e2 : out2 = .inl (some (.int b)) := e2
  subst e2
  have hX2 : XI m2 := hX2
  have ht : ldI m2 167 0 = k := ht
  have hl : k = 0 → ldL m2 283 0 = b.toInt64 := hl
  have hF2 := hX2.F
  show Wp g mL_law_ _ _ _ 1781 _ (_ :: _) _ Q
  refine si_6 dL_law__1781 rfl (Nat.le_of_ble_eq_true rfl) ?_
  refine r_aload_n dL_law__1783 rfl ?_
  refine r_callV (d1 := 0) (c1 := 0) (n1 := 0) (c := c0) (n := n0) (a := 167) (ci := 12) (l := 0) (st := []) [] rfl dL_law__1784 mvL_132 rfl (by exact k_167 hF2) ⟨(Nat.le_of_ble_eq_true rfl), rfl⟩ (Nat.le_of_ble_eq_true rfl) (by exact Nat.le_of_ble_eq_true rfl) ?_
  refine S_X12_thrown hF2 ?_
  show Wp g mL_law_ _ _ _ 1787 _ (_ :: _) _ Q
  refine r_iload dL_law__1787 rfl ?_
  refine r_icmp_eq 1794 dL_law__1789 rfl (fun _ => ?_) (fun hq => absurd ht hq)
  refine r_iload dL_law__1794 rfl ?_
  refine r_if_ne 1811 dL_law__1796 rfl (fun _ => ?_) (fun h0 => ?_)
  ·
    refine r_goto 2601 dL_law__1811 rfl ?_
    exact w_fg (kk _ hX2)
  ·
    refine r_aload_n dL_law__1799 rfl ?_
    refine r_iconst (0) dL_law__1800 rfl ?_
    refine r_laloadn (0) rfl dL_law__1801 (by exact k_283 hF2) (vin (j := 0) (by omega) (by omega)) ?_
    refine r_iload dL_law__1802 rfl ?_
    refine r_i2l dL_law__1804 ?_
    refine r_lcmp_eq 1811 dL_law__1805 dL_law__1806 rfl (fun _ => ?_) (fun hq => absurd (hl h0) hq)
    refine r_goto 2601 dL_law__1811 rfl ?_
    exact w_fg (kk _ hX2)
theorem LC_24 {g : GG} {m : MM} {Q : Out → Prop} {c0 n0 i : Nat} (hX : XI m) (hi : i + 6 ≤ gL g) (hL : gL g ≤ 3072) (kk : ∀ m', XI m' → Wp g mL_law_ 60 c0 n0 2601 [.ref 1, .ref 4, .ref 167, .ref 283, .int (nI i), .retAddr 0, .retAddr 0, .retAddr 0] [] m' Q) : Wp g mL_law_ 60 (c0 + 4) (n0 + 407) 1814 [.ref 1, .ref 4, .ref 167, .ref 283, .int (nI i), .retAddr 0, .retAddr 0, .retAddr 0] [] m Q := by
  refine r_aload_n dL_law__1814 rfl ?_
  refine r_aload_n dL_law__1815 rfl ?_
  refine r_iload dL_law__1816 rfl ?_
  refine r_iconst (1) dL_law__1818 rfl ?_
  refine r_iadd dL_law__1819 ?_
  refine r_sld dL_law__1820 (by exact sv 1 (by omega) hi hL) ?_
  refine r_aload_n dL_law__1821 rfl ?_
  refine w_wide (c' := c0 + 1) (n' := n0 + 6) (by omega) (by omega) ?_
  refine r_callT (d1 := 7) (c1 := 1) (n1 := 6) (c := c0) (n := n0) (st := []) [.ref 4, .int (gX g (nI i + 1).toNatClampNeg), .ref 283] rfl dL_law__1822 mtL_215 rfl (Nat.le_of_ble_eq_true rfl) (by exact Nat.le_of_ble_eq_true rfl) ?_
  refine Cl.mono (fun o ho => ?_) (P_ratio hX)
  obtain ⟨out, m1⟩ := o
  obtain ⟨k, e, hF1, hR⟩ := ho
  have e : out = .inl (some (.int k)) := e
  subst e
  have hF1 : Fx m1 := hF1
  show Wp g mL_law_ _ _ _ 1825 _ (_ :: _) _ Q
  refine si_5 dL_law__1825 rfl (Nat.le_of_ble_eq_true rfl) ?_
  refine r_aload_n dL_law__1827 rfl ?_
  refine r_aload_n dL_law__1828 rfl ?_
  refine r_iload dL_law__1829 rfl ?_
  refine r_iconst (1) dL_law__1831 rfl ?_
  refine r_iadd dL_law__1832 ?_
  refine r_sld dL_law__1833 (by exact sv 1 (by omega) hi hL) ?_
  refine r_callV (d1 := 3) (c1 := 0) (n1 := 0) (c := c0) (n := n0) (a := 167) (ci := 12) (l := 0) (st := []) [.int (gX g (nI i + 1).toNatClampNeg)] rfl dL_law__1834 mvL_217 rfl (by exact k_167 hF1) ⟨(Nat.le_of_ble_eq_true rfl), rfl⟩ (Nat.le_of_ble_eq_true rfl) (by exact Nat.le_of_ble_eq_true rfl) ?_
  refine Cl.mono (fun o2 ho2 => ?_) hR
  obtain ⟨out2, m2⟩ := o2
  obtain ⟨b, e2, hX2, ht, hl⟩ := ho2
  have e2 : out2 = .inl (some (.int b)) := e2
  subst e2
  have hX2 : XI m2 := hX2
  have ht : ldI m2 167 0 = k := ht
  have hl : k = 0 → ldL m2 283 0 = b.toInt64 := hl
  have hF2 := hX2.F
  show Wp g mL_law_ _ _ _ 1837 _ (_ :: _) _ Q
  refine si_6 dL_law__1837 rfl (Nat.le_of_ble_eq_true rfl) ?_
  refine r_aload_n dL_law__1839 rfl ?_
  refine r_callV (d1 := 0) (c1 := 0) (n1 := 0) (c := c0) (n := n0) (a := 167) (ci := 12) (l := 0) (st := []) [] rfl dL_law__1840 mvL_132 rfl (by exact k_167 hF2) ⟨(Nat.le_of_ble_eq_true rfl), rfl⟩ (Nat.le_of_ble_eq_true rfl) (by exact Nat.le_of_ble_eq_true rfl) ?_
  refine S_X12_thrown hF2 ?_
  show Wp g mL_law_ _ _ _ 1843 _ (_ :: _) _ Q
  refine r_iload dL_law__1843 rfl ?_
  refine r_icmp_eq 1850 dL_law__1845 rfl (fun _ => ?_) (fun hq => absurd ht hq)
  refine r_iload dL_law__1850 rfl ?_
  refine r_if_ne 1867 dL_law__1852 rfl (fun _ => ?_) (fun h0 => ?_)
  ·
    refine r_goto 2601 dL_law__1867 rfl ?_
    exact w_fg (kk _ hX2)
  ·
    refine r_aload_n dL_law__1855 rfl ?_
    refine r_iconst (0) dL_law__1856 rfl ?_
    refine r_laloadn (0) rfl dL_law__1857 (by exact k_283 hF2) (vin (j := 0) (by omega) (by omega)) ?_
    refine r_iload dL_law__1858 rfl ?_
    refine r_i2l dL_law__1860 ?_
    refine r_lcmp_eq 1867 dL_law__1861 dL_law__1862 rfl (fun _ => ?_) (fun hq => absurd (hl h0) hq)
    refine r_goto 2601 dL_law__1867 rfl ?_
    exact w_fg (kk _ hX2)
theorem LC_25 {g : GG} {m : MM} {Q : Out → Prop} {c0 n0 i : Nat} (hX : XI m) (hi : i + 6 ≤ gL g) (hL : gL g ≤ 3072) (kk : ∀ m', XI m' → Wp g mL_law_ 60 c0 n0 2601 [.ref 1, .ref 4, .ref 167, .ref 283, .int (nI i), .retAddr 0, .retAddr 0, .retAddr 0] [] m' Q) : Wp g mL_law_ 60 (c0 + 4) (n0 + 407) 1870 [.ref 1, .ref 4, .ref 167, .ref 283, .int (nI i), .retAddr 0, .retAddr 0, .retAddr 0] [] m Q := by
  refine r_aload_n dL_law__1870 rfl ?_
  refine r_aload_n dL_law__1871 rfl ?_
  refine r_iload dL_law__1872 rfl ?_
  refine r_iconst (1) dL_law__1874 rfl ?_
  refine r_iadd dL_law__1875 ?_
  refine r_sld dL_law__1876 (by exact sv 1 (by omega) hi hL) ?_
  refine r_aload_n dL_law__1877 rfl ?_
  refine w_wide (c' := c0 + 1) (n' := n0 + 6) (by omega) (by omega) ?_
  refine r_callT (d1 := 8) (c1 := 1) (n1 := 6) (c := c0) (n := n0) (st := []) [.ref 4, .int (gX g (nI i + 1).toNatClampNeg), .ref 283] rfl dL_law__1878 mtL_218 rfl (Nat.le_of_ble_eq_true rfl) (by exact Nat.le_of_ble_eq_true rfl) ?_
  refine Cl.mono (fun o ho => ?_) (P_strange hX)
  obtain ⟨out, m1⟩ := o
  obtain ⟨k, e, hF1, hR⟩ := ho
  have e : out = .inl (some (.int k)) := e
  subst e
  have hF1 : Fx m1 := hF1
  show Wp g mL_law_ _ _ _ 1881 _ (_ :: _) _ Q
  refine si_5 dL_law__1881 rfl (Nat.le_of_ble_eq_true rfl) ?_
  refine r_aload_n dL_law__1883 rfl ?_
  refine r_aload_n dL_law__1884 rfl ?_
  refine r_iload dL_law__1885 rfl ?_
  refine r_iconst (1) dL_law__1887 rfl ?_
  refine r_iadd dL_law__1888 ?_
  refine r_sld dL_law__1889 (by exact sv 1 (by omega) hi hL) ?_
  refine r_callV (d1 := 4) (c1 := 0) (n1 := 0) (c := c0) (n := n0) (a := 167) (ci := 12) (l := 0) (st := []) [.int (gX g (nI i + 1).toNatClampNeg)] rfl dL_law__1890 mvL_220 rfl (by exact k_167 hF1) ⟨(Nat.le_of_ble_eq_true rfl), rfl⟩ (Nat.le_of_ble_eq_true rfl) (by exact Nat.le_of_ble_eq_true rfl) ?_
  refine Cl.mono (fun o2 ho2 => ?_) hR
  obtain ⟨out2, m2⟩ := o2
  obtain ⟨b, e2, hX2, ht, hl⟩ := ho2
  have e2 : out2 = .inl (some (.int b)) := e2
  subst e2
  have hX2 : XI m2 := hX2
  have ht : ldI m2 167 0 = k := ht
  have hl : k = 0 → ldL m2 283 0 = b.toInt64 := hl
  have hF2 := hX2.F
  show Wp g mL_law_ _ _ _ 1893 _ (_ :: _) _ Q
  refine si_6 dL_law__1893 rfl (Nat.le_of_ble_eq_true rfl) ?_
  refine r_aload_n dL_law__1895 rfl ?_
  refine r_callV (d1 := 0) (c1 := 0) (n1 := 0) (c := c0) (n := n0) (a := 167) (ci := 12) (l := 0) (st := []) [] rfl dL_law__1896 mvL_132 rfl (by exact k_167 hF2) ⟨(Nat.le_of_ble_eq_true rfl), rfl⟩ (Nat.le_of_ble_eq_true rfl) (by exact Nat.le_of_ble_eq_true rfl) ?_
  refine S_X12_thrown hF2 ?_
  show Wp g mL_law_ _ _ _ 1899 _ (_ :: _) _ Q
  refine r_iload dL_law__1899 rfl ?_
  refine r_icmp_eq 1906 dL_law__1901 rfl (fun _ => ?_) (fun hq => absurd ht hq)
  refine r_iload dL_law__1906 rfl ?_
  refine r_if_ne 1923 dL_law__1908 rfl (fun _ => ?_) (fun h0 => ?_)
  ·
    refine r_goto 2601 dL_law__1923 rfl ?_
    exact w_fg (kk _ hX2)
  ·
    refine r_aload_n dL_law__1911 rfl ?_
    refine r_iconst (0) dL_law__1912 rfl ?_
    refine r_laloadn (0) rfl dL_law__1913 (by exact k_283 hF2) (vin (j := 0) (by omega) (by omega)) ?_
    refine r_iload dL_law__1914 rfl ?_
    refine r_i2l dL_law__1916 ?_
    refine r_lcmp_eq 1923 dL_law__1917 dL_law__1918 rfl (fun _ => ?_) (fun hq => absurd (hl h0) hq)
    refine r_goto 2601 dL_law__1923 rfl ?_
    exact w_fg (kk _ hX2)
theorem LC_26 {g : GG} {m : MM} {Q : Out → Prop} {c0 n0 i : Nat} (hX : XI m) (hi : i + 6 ≤ gL g) (hL : gL g ≤ 3072) (kk : ∀ m', XI m' → Wp g mL_law_ 60 c0 n0 2601 [.ref 1, .ref 4, .ref 167, .ref 283, .int (nI i), .retAddr 0, .retAddr 0, .retAddr 0] [] m' Q) : Wp g mL_law_ 60 (c0 + 4) (n0 + 407) 1926 [.ref 1, .ref 4, .ref 167, .ref 283, .int (nI i), .retAddr 0, .retAddr 0, .retAddr 0] [] m Q := by
  refine r_aload_n dL_law__1926 rfl ?_
  refine r_aload_n dL_law__1927 rfl ?_
  refine r_iload dL_law__1928 rfl ?_
  refine r_iconst (1) dL_law__1930 rfl ?_
  refine r_iadd dL_law__1931 ?_
  refine r_sld dL_law__1932 (by exact sv 1 (by omega) hi hL) ?_
  refine r_aload_n dL_law__1933 rfl ?_
  refine r_iload dL_law__1934 rfl ?_
  refine r_iconst (2) dL_law__1936 rfl ?_
  refine r_iadd dL_law__1937 ?_
  refine r_sld dL_law__1938 (by exact sv 2 (by omega) hi hL) ?_
  refine r_if_eq 1946 dL_law__1939 rfl (fun hz1 => ?_) (fun hz1 => ?_)
  ·
    refine r_iconst (0) dL_law__1946 rfl ?_
    refine r_aload_n dL_law__1947 rfl ?_
    refine w_wide (c' := c0 + 1) (n' := n0 + 6) (by omega) (by omega) ?_
    refine r_callT (d1 := 8) (c1 := 1) (n1 := 6) (c := c0) (n := n0) (st := []) [.ref 4, .int (gX g (nI i + 1).toNatClampNeg), .int 0, .ref 283] rfl dL_law__1948 mtL_221 rfl (Nat.le_of_ble_eq_true rfl) (by exact Nat.le_of_ble_eq_true rfl) ?_
    refine Cl.mono (fun o ho => ?_) (P_span hX)
    obtain ⟨out, m1⟩ := o
    obtain ⟨k, e, hF1, hR⟩ := ho
    have e : out = .inl (some (.int k)) := e
    subst e
    have hF1 : Fx m1 := hF1
    show Wp g mL_law_ _ _ _ 1951 _ (_ :: _) _ Q
    refine si_5 dL_law__1951 rfl (Nat.le_of_ble_eq_true rfl) ?_
    refine r_aload_n dL_law__1953 rfl ?_
    refine r_aload_n dL_law__1954 rfl ?_
    refine r_iload dL_law__1955 rfl ?_
    refine r_iconst (1) dL_law__1957 rfl ?_
    refine r_iadd dL_law__1958 ?_
    refine r_sld dL_law__1959 (by exact sv 1 (by omega) hi hL) ?_
    refine r_aload_n dL_law__1960 rfl ?_
    refine r_iload dL_law__1961 rfl ?_
    refine r_iconst (2) dL_law__1963 rfl ?_
    refine r_iadd dL_law__1964 ?_
    refine r_sld dL_law__1965 (by exact sv 2 (by omega) hi hL) ?_
    refine r_if_eq 1973 dL_law__1966 rfl (fun _ => ?_) (fun hq => absurd hz1 hq)
    refine r_iconst (0) dL_law__1973 rfl ?_
    refine r_callV (d1 := 4) (c1 := 0) (n1 := 0) (c := c0) (n := n0) (a := 167) (ci := 12) (l := 0) (st := []) [.int (gX g (nI i + 1).toNatClampNeg), .int 0] rfl dL_law__1974 mvL_223 rfl (by exact k_167 hF1) ⟨(Nat.le_of_ble_eq_true rfl), rfl⟩ (Nat.le_of_ble_eq_true rfl) (by exact Nat.le_of_ble_eq_true rfl) ?_
    refine Cl.mono (fun o2 ho2 => ?_) hR
    obtain ⟨out2, m2⟩ := o2
    obtain ⟨b, e2, hX2, ht, hl⟩ := ho2
    have e2 : out2 = .inl (some (.long b)) := e2
    subst e2
    have hX2 : XI m2 := hX2
    have ht : ldI m2 167 0 = k := ht
    have hl : k = 0 → ldL m2 283 0 = b := hl
    have hF2 := hX2.F
    show Wp g mL_law_ _ _ _ 1977 _ (_ :: _) _ Q
    refine sl_6 dL_law__1977 rfl (Nat.le_of_ble_eq_true rfl) ?_
    refine r_aload_n dL_law__1979 rfl ?_
    refine r_callV (d1 := 0) (c1 := 0) (n1 := 0) (c := c0) (n := n0) (a := 167) (ci := 12) (l := 0) (st := []) [] rfl dL_law__1980 mvL_132 rfl (by exact k_167 hF2) ⟨(Nat.le_of_ble_eq_true rfl), rfl⟩ (Nat.le_of_ble_eq_true rfl) (by exact Nat.le_of_ble_eq_true rfl) ?_
    refine S_X12_thrown hF2 ?_
    show Wp g mL_law_ _ _ _ 1983 _ (_ :: _) _ Q
    refine r_iload dL_law__1983 rfl ?_
    refine r_icmp_eq 1990 dL_law__1985 rfl (fun _ => ?_) (fun hq => absurd ht hq)
    refine r_iload dL_law__1990 rfl ?_
    refine r_if_ne 2006 dL_law__1992 rfl (fun _ => ?_) (fun h0 => ?_)
    ·
      refine r_goto 2601 dL_law__2006 rfl ?_
      exact w_fg (kk _ hX2)
    ·
      refine r_aload_n dL_law__1995 rfl ?_
      refine r_iconst (0) dL_law__1996 rfl ?_
      refine r_laloadn (0) rfl dL_law__1997 (by exact k_283 hF2) (vin (j := 0) (by omega) (by omega)) ?_
      refine r_lload dL_law__1998 rfl ?_
      refine r_lcmp_eq 2006 dL_law__2000 dL_law__2001 rfl (fun _ => ?_) (fun hq => absurd (hl h0) hq)
      refine r_goto 2601 dL_law__2006 rfl ?_
      exact w_fg (kk _ hX2)
  ·
    refine r_iconst (1) dL_law__1942 rfl ?_
    refine r_goto 1947 dL_law__1943 rfl ?_
    refine r_aload_n dL_law__1947 rfl ?_
    refine w_wide (c' := c0 + 1) (n' := n0 + 6) (by omega) (by omega) ?_
    refine r_callT (d1 := 8) (c1 := 1) (n1 := 6) (c := c0) (n := n0) (st := []) [.ref 4, .int (gX g (nI i + 1).toNatClampNeg), .int 1, .ref 283] rfl dL_law__1948 mtL_221 rfl (Nat.le_of_ble_eq_true rfl) (by exact Nat.le_of_ble_eq_true rfl) ?_
    refine Cl.mono (fun o ho => ?_) (P_span hX)
    obtain ⟨out, m1⟩ := o
    obtain ⟨k, e, hF1, hR⟩ := ho
    have e : out = .inl (some (.int k)) := e
    subst e
    have hF1 : Fx m1 := hF1
    show Wp g mL_law_ _ _ _ 1951 _ (_ :: _) _ Q
    refine si_5 dL_law__1951 rfl (Nat.le_of_ble_eq_true rfl) ?_
    refine r_aload_n dL_law__1953 rfl ?_
    refine r_aload_n dL_law__1954 rfl ?_
    refine r_iload dL_law__1955 rfl ?_
    refine r_iconst (1) dL_law__1957 rfl ?_
    refine r_iadd dL_law__1958 ?_
    refine r_sld dL_law__1959 (by exact sv 1 (by omega) hi hL) ?_
    refine r_aload_n dL_law__1960 rfl ?_
    refine r_iload dL_law__1961 rfl ?_
    refine r_iconst (2) dL_law__1963 rfl ?_
    refine r_iadd dL_law__1964 ?_
    refine r_sld dL_law__1965 (by exact sv 2 (by omega) hi hL) ?_
    refine r_if_eq 1973 dL_law__1966 rfl (fun hq => absurd hq hz1) (fun _ => ?_)
    refine r_iconst (1) dL_law__1969 rfl ?_
    refine r_goto 1974 dL_law__1970 rfl ?_
    refine r_callV (d1 := 4) (c1 := 0) (n1 := 0) (c := c0) (n := n0) (a := 167) (ci := 12) (l := 0) (st := []) [.int (gX g (nI i + 1).toNatClampNeg), .int 1] rfl dL_law__1974 mvL_223 rfl (by exact k_167 hF1) ⟨(Nat.le_of_ble_eq_true rfl), rfl⟩ (Nat.le_of_ble_eq_true rfl) (by exact Nat.le_of_ble_eq_true rfl) ?_
    refine Cl.mono (fun o2 ho2 => ?_) hR
    obtain ⟨out2, m2⟩ := o2
    obtain ⟨b, e2, hX2, ht, hl⟩ := ho2
    have e2 : out2 = .inl (some (.long b)) := e2
    subst e2
    have hX2 : XI m2 := hX2
    have ht : ldI m2 167 0 = k := ht
    have hl : k = 0 → ldL m2 283 0 = b := hl
    have hF2 := hX2.F
    show Wp g mL_law_ _ _ _ 1977 _ (_ :: _) _ Q
    refine sl_6 dL_law__1977 rfl (Nat.le_of_ble_eq_true rfl) ?_
    refine r_aload_n dL_law__1979 rfl ?_
    refine r_callV (d1 := 0) (c1 := 0) (n1 := 0) (c := c0) (n := n0) (a := 167) (ci := 12) (l := 0) (st := []) [] rfl dL_law__1980 mvL_132 rfl (by exact k_167 hF2) ⟨(Nat.le_of_ble_eq_true rfl), rfl⟩ (Nat.le_of_ble_eq_true rfl) (by exact Nat.le_of_ble_eq_true rfl) ?_
    refine S_X12_thrown hF2 ?_
    show Wp g mL_law_ _ _ _ 1983 _ (_ :: _) _ Q
    refine r_iload dL_law__1983 rfl ?_
    refine r_icmp_eq 1990 dL_law__1985 rfl (fun _ => ?_) (fun hq => absurd ht hq)
    refine r_iload dL_law__1990 rfl ?_
    refine r_if_ne 2006 dL_law__1992 rfl (fun _ => ?_) (fun h0 => ?_)
    ·
      refine r_goto 2601 dL_law__2006 rfl ?_
      exact w_fg (kk _ hX2)
    ·
      refine r_aload_n dL_law__1995 rfl ?_
      refine r_iconst (0) dL_law__1996 rfl ?_
      refine r_laloadn (0) rfl dL_law__1997 (by exact k_283 hF2) (vin (j := 0) (by omega) (by omega)) ?_
      refine r_lload dL_law__1998 rfl ?_
      refine r_lcmp_eq 2006 dL_law__2000 dL_law__2001 rfl (fun _ => ?_) (fun hq => absurd (hl h0) hq)
      refine r_goto 2601 dL_law__2006 rfl ?_
      exact w_fg (kk _ hX2)
theorem LC_27 {g : GG} {m : MM} {Q : Out → Prop} {c0 n0 i : Nat} (hX : XI m) (hi : i + 6 ≤ gL g) (hL : gL g ≤ 3072) (kk : ∀ m', XI m' → Wp g mL_law_ 60 c0 n0 2601 [.ref 1, .ref 4, .ref 167, .ref 283, .int (nI i), .retAddr 0, .retAddr 0, .retAddr 0] [] m' Q) : Wp g mL_law_ 60 (c0 + 4) (n0 + 407) 2009 [.ref 1, .ref 4, .ref 167, .ref 283, .int (nI i), .retAddr 0, .retAddr 0, .retAddr 0] [] m Q := by
  refine r_aload_n dL_law__2009 rfl ?_
  refine r_aload_n dL_law__2010 rfl ?_
  refine r_iload dL_law__2011 rfl ?_
  refine r_iconst (1) dL_law__2013 rfl ?_
  refine r_iadd dL_law__2014 ?_
  refine r_sld dL_law__2015 (by exact sv 1 (by omega) hi hL) ?_
  refine r_aload_n dL_law__2016 rfl ?_
  refine r_iload dL_law__2017 rfl ?_
  refine r_iconst (2) dL_law__2019 rfl ?_
  refine r_iadd dL_law__2020 ?_
  refine r_sld dL_law__2021 (by exact sv 2 (by omega) hi hL) ?_
  refine r_aload_n dL_law__2022 rfl ?_
  refine w_wide (c' := c0 + 3) (n' := n0 + 18) (by omega) (by omega) ?_
  refine r_callT (d1 := 8) (c1 := 3) (n1 := 18) (c := c0) (n := n0) (st := []) [.ref 4, .int (gX g (nI i + 1).toNatClampNeg), .int (gX g (nI i + 2).toNatClampNeg), .ref 283] rfl dL_law__2023 mtL_224 rfl (Nat.le_of_ble_eq_true rfl) (by exact Nat.le_of_ble_eq_true rfl) ?_
  refine Cl.mono (fun o ho => ?_) (P_better hX)
  obtain ⟨out, m1⟩ := o
  obtain ⟨k, e, hF1, hR⟩ := ho
  have e : out = .inl (some (.int k)) := e
  subst e
  have hF1 : Fx m1 := hF1
  show Wp g mL_law_ _ _ _ 2026 _ (_ :: _) _ Q
  refine si_5 dL_law__2026 rfl (Nat.le_of_ble_eq_true rfl) ?_
  refine r_aload_n dL_law__2028 rfl ?_
  refine r_aload_n dL_law__2029 rfl ?_
  refine r_iload dL_law__2030 rfl ?_
  refine r_iconst (1) dL_law__2032 rfl ?_
  refine r_iadd dL_law__2033 ?_
  refine r_sld dL_law__2034 (by exact sv 1 (by omega) hi hL) ?_
  refine r_aload_n dL_law__2035 rfl ?_
  refine r_iload dL_law__2036 rfl ?_
  refine r_iconst (2) dL_law__2038 rfl ?_
  refine r_iadd dL_law__2039 ?_
  refine r_sld dL_law__2040 (by exact sv 2 (by omega) hi hL) ?_
  refine r_callV (d1 := 37) (c1 := 0) (n1 := 0) (c := c0) (n := n0) (a := 167) (ci := 12) (l := 0) (st := []) [.int (gX g (nI i + 1).toNatClampNeg), .int (gX g (nI i + 2).toNatClampNeg)] rfl dL_law__2041 mvL_226 rfl (by exact k_167 hF1) ⟨(Nat.le_of_ble_eq_true rfl), rfl⟩ (Nat.le_of_ble_eq_true rfl) (by exact Nat.le_of_ble_eq_true rfl) ?_
  refine Cl.mono (fun o2 ho2 => ?_) hR
  obtain ⟨out2, m2⟩ := o2
  obtain ⟨b, e2, hX2, ht, hl⟩ := ho2
  have e2 : out2 = .inl (some (.long b)) := e2
  subst e2
  have hX2 : XI m2 := hX2
  have ht : ldI m2 167 0 = k := ht
  have hl : k = 0 → ldL m2 283 0 = b := hl
  have hF2 := hX2.F
  show Wp g mL_law_ _ _ _ 2044 _ (_ :: _) _ Q
  refine sl_6 dL_law__2044 rfl (Nat.le_of_ble_eq_true rfl) ?_
  refine r_aload_n dL_law__2046 rfl ?_
  refine r_callV (d1 := 0) (c1 := 0) (n1 := 0) (c := c0) (n := n0) (a := 167) (ci := 12) (l := 0) (st := []) [] rfl dL_law__2047 mvL_132 rfl (by exact k_167 hF2) ⟨(Nat.le_of_ble_eq_true rfl), rfl⟩ (Nat.le_of_ble_eq_true rfl) (by exact Nat.le_of_ble_eq_true rfl) ?_
  refine S_X12_thrown hF2 ?_
  show Wp g mL_law_ _ _ _ 2050 _ (_ :: _) _ Q
  refine r_iload dL_law__2050 rfl ?_
  refine r_icmp_eq 2057 dL_law__2052 rfl (fun _ => ?_) (fun hq => absurd ht hq)
  refine r_iload dL_law__2057 rfl ?_
  refine r_if_ne 2073 dL_law__2059 rfl (fun _ => ?_) (fun h0 => ?_)
  ·
    refine r_goto 2601 dL_law__2073 rfl ?_
    exact w_fg (kk _ hX2)
  ·
    refine r_aload_n dL_law__2062 rfl ?_
    refine r_iconst (0) dL_law__2063 rfl ?_
    refine r_laloadn (0) rfl dL_law__2064 (by exact k_283 hF2) (vin (j := 0) (by omega) (by omega)) ?_
    refine r_lload dL_law__2065 rfl ?_
    refine r_lcmp_eq 2073 dL_law__2067 dL_law__2068 rfl (fun _ => ?_) (fun hq => absurd (hl h0) hq)
    refine r_goto 2601 dL_law__2073 rfl ?_
    exact w_fg (kk _ hX2)
theorem LC_28 {g : GG} {m : MM} {Q : Out → Prop} {c0 n0 i : Nat} (hX : XI m) (hi : i + 6 ≤ gL g) (hL : gL g ≤ 3072) (kk : ∀ m', XI m' → Wp g mL_law_ 60 c0 n0 2601 [.ref 1, .ref 4, .ref 167, .ref 283, .int (nI i), .retAddr 0, .retAddr 0, .retAddr 0] [] m' Q) : Wp g mL_law_ 60 (c0 + 4) (n0 + 407) 2076 [.ref 1, .ref 4, .ref 167, .ref 283, .int (nI i), .retAddr 0, .retAddr 0, .retAddr 0] [] m Q := by
  refine r_aload_n dL_law__2076 rfl ?_
  refine r_aload_n dL_law__2077 rfl ?_
  refine r_iload dL_law__2078 rfl ?_
  refine r_iconst (1) dL_law__2080 rfl ?_
  refine r_iadd dL_law__2081 ?_
  refine r_sld dL_law__2082 (by exact sv 1 (by omega) hi hL) ?_
  refine r_aload_n dL_law__2083 rfl ?_
  refine r_iload dL_law__2084 rfl ?_
  refine r_iconst (2) dL_law__2086 rfl ?_
  refine r_iadd dL_law__2087 ?_
  refine r_sld dL_law__2088 (by exact sv 2 (by omega) hi hL) ?_
  refine r_aload_n dL_law__2089 rfl ?_
  refine w_wide (c' := c0 + 3) (n' := n0 + 18) (by omega) (by omega) ?_
  refine r_callT (d1 := 8) (c1 := 3) (n1 := 18) (c := c0) (n := n0) (st := []) [.ref 4, .int (gX g (nI i + 1).toNatClampNeg), .int (gX g (nI i + 2).toNatClampNeg), .ref 283] rfl dL_law__2090 mtL_227 rfl (Nat.le_of_ble_eq_true rfl) (by exact Nat.le_of_ble_eq_true rfl) ?_
  refine Cl.mono (fun o ho => ?_) (P_lines hX)
  obtain ⟨out, m1⟩ := o
  obtain ⟨k, e, hF1, hR⟩ := ho
  have e : out = .inl (some (.int k)) := e
  subst e
  have hF1 : Fx m1 := hF1
  show Wp g mL_law_ _ _ _ 2093 _ (_ :: _) _ Q
  refine si_5 dL_law__2093 rfl (Nat.le_of_ble_eq_true rfl) ?_
  refine r_aload_n dL_law__2095 rfl ?_
  refine r_aload_n dL_law__2096 rfl ?_
  refine r_iload dL_law__2097 rfl ?_
  refine r_iconst (1) dL_law__2099 rfl ?_
  refine r_iadd dL_law__2100 ?_
  refine r_sld dL_law__2101 (by exact sv 1 (by omega) hi hL) ?_
  refine r_aload_n dL_law__2102 rfl ?_
  refine r_iload dL_law__2103 rfl ?_
  refine r_iconst (2) dL_law__2105 rfl ?_
  refine r_iadd dL_law__2106 ?_
  refine r_sld dL_law__2107 (by exact sv 2 (by omega) hi hL) ?_
  refine r_callV (d1 := 37) (c1 := 0) (n1 := 0) (c := c0) (n := n0) (a := 167) (ci := 12) (l := 0) (st := []) [.int (gX g (nI i + 1).toNatClampNeg), .int (gX g (nI i + 2).toNatClampNeg)] rfl dL_law__2108 mvL_229 rfl (by exact k_167 hF1) ⟨(Nat.le_of_ble_eq_true rfl), rfl⟩ (Nat.le_of_ble_eq_true rfl) (by exact Nat.le_of_ble_eq_true rfl) ?_
  refine Cl.mono (fun o2 ho2 => ?_) hR
  obtain ⟨out2, m2⟩ := o2
  obtain ⟨b, e2, hX2, ht, hl⟩ := ho2
  have e2 : out2 = .inl (some (.int b)) := e2
  subst e2
  have hX2 : XI m2 := hX2
  have ht : ldI m2 167 0 = k := ht
  have hl : k = 0 → ldL m2 283 0 = b.toInt64 := hl
  have hF2 := hX2.F
  show Wp g mL_law_ _ _ _ 2111 _ (_ :: _) _ Q
  refine si_6 dL_law__2111 rfl (Nat.le_of_ble_eq_true rfl) ?_
  refine r_aload_n dL_law__2113 rfl ?_
  refine r_callV (d1 := 0) (c1 := 0) (n1 := 0) (c := c0) (n := n0) (a := 167) (ci := 12) (l := 0) (st := []) [] rfl dL_law__2114 mvL_132 rfl (by exact k_167 hF2) ⟨(Nat.le_of_ble_eq_true rfl), rfl⟩ (Nat.le_of_ble_eq_true rfl) (by exact Nat.le_of_ble_eq_true rfl) ?_
  refine S_X12_thrown hF2 ?_
  show Wp g mL_law_ _ _ _ 2117 _ (_ :: _) _ Q
  refine r_iload dL_law__2117 rfl ?_
  refine r_icmp_eq 2124 dL_law__2119 rfl (fun _ => ?_) (fun hq => absurd ht hq)
  refine r_iload dL_law__2124 rfl ?_
  refine r_if_ne 2141 dL_law__2126 rfl (fun _ => ?_) (fun h0 => ?_)
  ·
    refine r_goto 2601 dL_law__2141 rfl ?_
    exact w_fg (kk _ hX2)
  ·
    refine r_aload_n dL_law__2129 rfl ?_
    refine r_iconst (0) dL_law__2130 rfl ?_
    refine r_laloadn (0) rfl dL_law__2131 (by exact k_283 hF2) (vin (j := 0) (by omega) (by omega)) ?_
    refine r_iload dL_law__2132 rfl ?_
    refine r_i2l dL_law__2134 ?_
    refine r_lcmp_eq 2141 dL_law__2135 dL_law__2136 rfl (fun _ => ?_) (fun hq => absurd (hl h0) hq)
    refine r_goto 2601 dL_law__2141 rfl ?_
    exact w_fg (kk _ hX2)
theorem LC_29 {g : GG} {m : MM} {Q : Out → Prop} {c0 n0 i : Nat} (hX : XI m) (hi : i + 6 ≤ gL g) (hL : gL g ≤ 3072) (kk : ∀ m', XI m' → Wp g mL_law_ 60 c0 n0 2601 [.ref 1, .ref 4, .ref 167, .ref 283, .int (nI i), .retAddr 0, .retAddr 0, .retAddr 0] [] m' Q) : Wp g mL_law_ 60 (c0 + 4) (n0 + 407) 2144 [.ref 1, .ref 4, .ref 167, .ref 283, .int (nI i), .retAddr 0, .retAddr 0, .retAddr 0] [] m Q := by
  refine r_aload_n dL_law__2144 rfl ?_
  refine r_aload_n dL_law__2145 rfl ?_
  refine r_iload dL_law__2146 rfl ?_
  refine r_iconst (1) dL_law__2148 rfl ?_
  refine r_iadd dL_law__2149 ?_
  refine r_sld dL_law__2150 (by exact sv 1 (by omega) hi hL) ?_
  refine r_aload_n dL_law__2151 rfl ?_
  refine r_iload dL_law__2152 rfl ?_
  refine r_iconst (2) dL_law__2154 rfl ?_
  refine r_iadd dL_law__2155 ?_
  refine r_sld dL_law__2156 (by exact sv 2 (by omega) hi hL) ?_
  refine r_aload_n dL_law__2157 rfl ?_
  refine w_wide (c' := c0 + 1) (n' := n0 + 6) (by omega) (by omega) ?_
  refine r_callT (d1 := 8) (c1 := 1) (n1 := 6) (c := c0) (n := n0) (st := []) [.ref 4, .int (gX g (nI i + 1).toNatClampNeg), .int (gX g (nI i + 2).toNatClampNeg), .ref 283] rfl dL_law__2158 mtL_230 rfl (Nat.le_of_ble_eq_true rfl) (by exact Nat.le_of_ble_eq_true rfl) ?_
  refine Cl.mono (fun o ho => ?_) (P_mile hX)
  obtain ⟨out, m1⟩ := o
  obtain ⟨k, e, hF1, hR⟩ := ho
  have e : out = .inl (some (.int k)) := e
  subst e
  have hF1 : Fx m1 := hF1
  show Wp g mL_law_ _ _ _ 2161 _ (_ :: _) _ Q
  refine si_5 dL_law__2161 rfl (Nat.le_of_ble_eq_true rfl) ?_
  refine r_aload_n dL_law__2163 rfl ?_
  refine r_aload_n dL_law__2164 rfl ?_
  refine r_iload dL_law__2165 rfl ?_
  refine r_iconst (1) dL_law__2167 rfl ?_
  refine r_iadd dL_law__2168 ?_
  refine r_sld dL_law__2169 (by exact sv 1 (by omega) hi hL) ?_
  refine r_aload_n dL_law__2170 rfl ?_
  refine r_iload dL_law__2171 rfl ?_
  refine r_iconst (2) dL_law__2173 rfl ?_
  refine r_iadd dL_law__2174 ?_
  refine r_sld dL_law__2175 (by exact sv 2 (by omega) hi hL) ?_
  refine r_callV (d1 := 1) (c1 := 0) (n1 := 0) (c := c0) (n := n0) (a := 167) (ci := 12) (l := 0) (st := []) [.int (gX g (nI i + 1).toNatClampNeg), .int (gX g (nI i + 2).toNatClampNeg)] rfl dL_law__2176 mvL_232 rfl (by exact k_167 hF1) ⟨(Nat.le_of_ble_eq_true rfl), rfl⟩ (Nat.le_of_ble_eq_true rfl) (by exact Nat.le_of_ble_eq_true rfl) ?_
  refine Cl.mono (fun o2 ho2 => ?_) hR
  obtain ⟨out2, m2⟩ := o2
  obtain ⟨b, e2, hX2, ht, hl⟩ := ho2
  have e2 : out2 = .inl (some (.int b)) := e2
  subst e2
  have hX2 : XI m2 := hX2
  have ht : ldI m2 167 0 = k := ht
  have hl : k = 0 → ldL m2 283 0 = b.toInt64 := hl
  have hF2 := hX2.F
  show Wp g mL_law_ _ _ _ 2179 _ (_ :: _) _ Q
  refine si_6 dL_law__2179 rfl (Nat.le_of_ble_eq_true rfl) ?_
  refine r_aload_n dL_law__2181 rfl ?_
  refine r_callV (d1 := 0) (c1 := 0) (n1 := 0) (c := c0) (n := n0) (a := 167) (ci := 12) (l := 0) (st := []) [] rfl dL_law__2182 mvL_132 rfl (by exact k_167 hF2) ⟨(Nat.le_of_ble_eq_true rfl), rfl⟩ (Nat.le_of_ble_eq_true rfl) (by exact Nat.le_of_ble_eq_true rfl) ?_
  refine S_X12_thrown hF2 ?_
  show Wp g mL_law_ _ _ _ 2185 _ (_ :: _) _ Q
  refine r_iload dL_law__2185 rfl ?_
  refine r_icmp_eq 2192 dL_law__2187 rfl (fun _ => ?_) (fun hq => absurd ht hq)
  refine r_iload dL_law__2192 rfl ?_
  refine r_if_ne 2209 dL_law__2194 rfl (fun _ => ?_) (fun h0 => ?_)
  ·
    refine r_goto 2601 dL_law__2209 rfl ?_
    exact w_fg (kk _ hX2)
  ·
    refine r_aload_n dL_law__2197 rfl ?_
    refine r_iconst (0) dL_law__2198 rfl ?_
    refine r_laloadn (0) rfl dL_law__2199 (by exact k_283 hF2) (vin (j := 0) (by omega) (by omega)) ?_
    refine r_iload dL_law__2200 rfl ?_
    refine r_i2l dL_law__2202 ?_
    refine r_lcmp_eq 2209 dL_law__2203 dL_law__2204 rfl (fun _ => ?_) (fun hq => absurd (hl h0) hq)
    refine r_goto 2601 dL_law__2209 rfl ?_
    exact w_fg (kk _ hX2)
theorem LC_30 {g : GG} {m : MM} {Q : Out → Prop} {c0 n0 i : Nat} (hX : XI m) (hi : i + 6 ≤ gL g) (hL : gL g ≤ 3072) (kk : ∀ m', XI m' → Wp g mL_law_ 60 c0 n0 2601 [.ref 1, .ref 4, .ref 167, .ref 283, .int (nI i), .retAddr 0, .retAddr 0, .retAddr 0] [] m' Q) : Wp g mL_law_ 60 (c0 + 4) (n0 + 407) 2212 [.ref 1, .ref 4, .ref 167, .ref 283, .int (nI i), .retAddr 0, .retAddr 0, .retAddr 0] [] m Q := by
  refine r_aload_n dL_law__2212 rfl ?_
  refine r_aload_n dL_law__2213 rfl ?_
  refine r_iload dL_law__2214 rfl ?_
  refine r_iconst (1) dL_law__2216 rfl ?_
  refine r_iadd dL_law__2217 ?_
  refine r_sld dL_law__2218 (by exact sv 1 (by omega) hi hL) ?_
  refine r_if_eq 2226 dL_law__2219 rfl (fun hz1 => ?_) (fun hz1 => ?_)
  ·
    refine r_iconst (0) dL_law__2226 rfl ?_
    refine w_wide (c' := c0) (n' := n0) (by omega) (by omega) ?_
    refine r_callV (d1 := 2) (c1 := 0) (n1 := 0) (c := c0) (n := n0) (a := 4) (ci := 11) (l := 0) (st := []) [.int 0] rfl dL_law__2227 mvL_233 rfl (by exact k_4 hX.F) ⟨(Nat.le_of_ble_eq_true rfl), rfl⟩ (Nat.le_of_ble_eq_true rfl) (by exact Nat.le_of_ble_eq_true rfl) ?_
    refine Cl.mono (fun o ho => ?_) (P_mean hX)
    obtain ⟨out, m1⟩ := o
    obtain ⟨k, e, hF1, hR⟩ := ho
    have e : out = .inl (some (.int k)) := e
    subst e
    have hF1 : Fx m1 := hF1
    show Wp g mL_law_ _ _ _ 2230 _ (_ :: _) _ Q
    refine r_aload_n dL_law__2230 rfl ?_
    refine r_aload_n dL_law__2231 rfl ?_
    refine r_iload dL_law__2232 rfl ?_
    refine r_iconst (1) dL_law__2234 rfl ?_
    refine r_iadd dL_law__2235 ?_
    refine r_sld dL_law__2236 (by exact sv 1 (by omega) hi hL) ?_
    refine r_if_eq 2244 dL_law__2237 rfl (fun _ => ?_) (fun hq => absurd hz1 hq)
    refine r_iconst (0) dL_law__2244 rfl ?_
    refine r_callV (d1 := 1) (c1 := 0) (n1 := 0) (c := c0) (n := n0) (a := 167) (ci := 12) (l := 0) (st := [.int k]) [.int 0] rfl dL_law__2245 mvL_237 rfl (by exact k_167 hF1) ⟨(Nat.le_of_ble_eq_true rfl), rfl⟩ (Nat.le_of_ble_eq_true rfl) (by exact Nat.le_of_ble_eq_true rfl) ?_
    refine Cl.mono (fun o2 ho2 => ?_) hR
    obtain ⟨out2, m2⟩ := o2
    obtain ⟨e2, hX2⟩ := ho2
    have e2 : out2 = .inl (some (.int k)) := e2
    subst e2
    have hX2 : XI m2 := hX2
    have hF2 := hX2.F
    show Wp g mL_law_ _ _ _ 2248 _ (_ :: _) _ Q
    refine r_icmp_eq 2601 dL_law__2248 rfl (fun _ => ?_) (fun hq => absurd rfl hq)
    exact w_fg (kk _ hX2)
  ·
    refine r_iconst (1) dL_law__2222 rfl ?_
    refine r_goto 2227 dL_law__2223 rfl ?_
    refine w_wide (c' := c0) (n' := n0) (by omega) (by omega) ?_
    refine r_callV (d1 := 2) (c1 := 0) (n1 := 0) (c := c0) (n := n0) (a := 4) (ci := 11) (l := 0) (st := []) [.int 1] rfl dL_law__2227 mvL_233 rfl (by exact k_4 hX.F) ⟨(Nat.le_of_ble_eq_true rfl), rfl⟩ (Nat.le_of_ble_eq_true rfl) (by exact Nat.le_of_ble_eq_true rfl) ?_
    refine Cl.mono (fun o ho => ?_) (P_mean hX)
    obtain ⟨out, m1⟩ := o
    obtain ⟨k, e, hF1, hR⟩ := ho
    have e : out = .inl (some (.int k)) := e
    subst e
    have hF1 : Fx m1 := hF1
    show Wp g mL_law_ _ _ _ 2230 _ (_ :: _) _ Q
    refine r_aload_n dL_law__2230 rfl ?_
    refine r_aload_n dL_law__2231 rfl ?_
    refine r_iload dL_law__2232 rfl ?_
    refine r_iconst (1) dL_law__2234 rfl ?_
    refine r_iadd dL_law__2235 ?_
    refine r_sld dL_law__2236 (by exact sv 1 (by omega) hi hL) ?_
    refine r_if_eq 2244 dL_law__2237 rfl (fun hq => absurd hq hz1) (fun _ => ?_)
    refine r_iconst (1) dL_law__2240 rfl ?_
    refine r_goto 2245 dL_law__2241 rfl ?_
    refine r_callV (d1 := 1) (c1 := 0) (n1 := 0) (c := c0) (n := n0) (a := 167) (ci := 12) (l := 0) (st := [.int k]) [.int 1] rfl dL_law__2245 mvL_237 rfl (by exact k_167 hF1) ⟨(Nat.le_of_ble_eq_true rfl), rfl⟩ (Nat.le_of_ble_eq_true rfl) (by exact Nat.le_of_ble_eq_true rfl) ?_
    refine Cl.mono (fun o2 ho2 => ?_) hR
    obtain ⟨out2, m2⟩ := o2
    obtain ⟨e2, hX2⟩ := ho2
    have e2 : out2 = .inl (some (.int k)) := e2
    subst e2
    have hX2 : XI m2 := hX2
    have hF2 := hX2.F
    show Wp g mL_law_ _ _ _ 2248 _ (_ :: _) _ Q
    refine r_icmp_eq 2601 dL_law__2248 rfl (fun _ => ?_) (fun hq => absurd rfl hq)
    exact w_fg (kk _ hX2)
theorem LC_31 {g : GG} {m : MM} {Q : Out → Prop} {c0 n0 i : Nat} (hX : XI m) (hi : i + 6 ≤ gL g) (hL : gL g ≤ 3072) (kk : ∀ m', XI m' → Wp g mL_law_ 60 c0 n0 2601 [.ref 1, .ref 4, .ref 167, .ref 283, .int (nI i), .retAddr 0, .retAddr 0, .retAddr 0] [] m' Q) : Wp g mL_law_ 60 (c0 + 4) (n0 + 407) 2253 [.ref 1, .ref 4, .ref 167, .ref 283, .int (nI i), .retAddr 0, .retAddr 0, .retAddr 0] [] m Q := by
  refine r_aload_n dL_law__2253 rfl ?_
  refine w_wide (c' := c0) (n' := n0) (by omega) (by omega) ?_
  refine r_callV (d1 := 1) (c1 := 0) (n1 := 0) (c := c0) (n := n0) (a := 4) (ci := 11) (l := 0) (st := []) [] rfl dL_law__2254 mvL_238 rfl (by exact k_4 hX.F) ⟨(Nat.le_of_ble_eq_true rfl), rfl⟩ (Nat.le_of_ble_eq_true rfl) (by exact Nat.le_of_ble_eq_true rfl) ?_
  refine Cl.mono (fun o ho => ?_) (P_anew hX)
  obtain ⟨out, m1⟩ := o
  obtain ⟨k, e, hF1, hR⟩ := ho
  have e : out = .inl (some (.int k)) := e
  subst e
  have hF1 : Fx m1 := hF1
  show Wp g mL_law_ _ _ _ 2257 _ (_ :: _) _ Q
  refine r_aload_n dL_law__2257 rfl ?_
  refine r_callV (d1 := 0) (c1 := 0) (n1 := 0) (c := c0) (n := n0) (a := 167) (ci := 12) (l := 0) (st := [.int k]) [] rfl dL_law__2258 mvL_241 rfl (by exact k_167 hF1) ⟨(Nat.le_of_ble_eq_true rfl), rfl⟩ (Nat.le_of_ble_eq_true rfl) (by exact Nat.le_of_ble_eq_true rfl) ?_
  refine Cl.mono (fun o2 ho2 => ?_) hR
  obtain ⟨out2, m2⟩ := o2
  obtain ⟨e2, hX2⟩ := ho2
  have e2 : out2 = .inl (some (.int k)) := e2
  subst e2
  have hX2 : XI m2 := hX2
  have hF2 := hX2.F
  show Wp g mL_law_ _ _ _ 2261 _ (_ :: _) _ Q
  refine r_icmp_eq 2601 dL_law__2261 rfl (fun _ => ?_) (fun hq => absurd rfl hq)
  exact w_fg (kk _ hX2)
theorem LC_32 {g : GG} {m : MM} {Q : Out → Prop} {c0 n0 i : Nat} (hX : XI m) (hi : i + 6 ≤ gL g) (hL : gL g ≤ 3072) (kk : ∀ m', XI m' → Wp g mL_law_ 60 c0 n0 2601 [.ref 1, .ref 4, .ref 167, .ref 283, .int (nI i), .retAddr 0, .retAddr 0, .retAddr 0] [] m' Q) : Wp g mL_law_ 60 (c0 + 4) (n0 + 407) 2266 [.ref 1, .ref 4, .ref 167, .ref 283, .int (nI i), .retAddr 0, .retAddr 0, .retAddr 0] [] m Q := by
  refine r_aload_n dL_law__2266 rfl ?_
  refine r_aload_n dL_law__2267 rfl ?_
  refine r_iload dL_law__2268 rfl ?_
  refine r_iconst (1) dL_law__2270 rfl ?_
  refine r_iadd dL_law__2271 ?_
  refine r_sld dL_law__2272 (by exact sv 1 (by omega) hi hL) ?_
  refine r_aload_n dL_law__2273 rfl ?_
  refine r_iload dL_law__2274 rfl ?_
  refine r_iconst (2) dL_law__2276 rfl ?_
  refine r_iadd dL_law__2277 ?_
  refine r_sld dL_law__2278 (by exact sv 2 (by omega) hi hL) ?_
  refine r_aload_n dL_law__2279 rfl ?_
  refine w_wide (c' := c0 + 1) (n' := n0 + 6) (by omega) (by omega) ?_
  refine r_callT (d1 := 8) (c1 := 1) (n1 := 6) (c := c0) (n := n0) (st := []) [.ref 4, .int (gX g (nI i + 1).toNatClampNeg), .int (gX g (nI i + 2).toNatClampNeg), .ref 283] rfl dL_law__2280 mtL_242 rfl (Nat.le_of_ble_eq_true rfl) (by exact Nat.le_of_ble_eq_true rfl) ?_
  refine Cl.mono (fun o ho => ?_) (P_odds hX)
  obtain ⟨out, m1⟩ := o
  obtain ⟨k, e, hF1, hR⟩ := ho
  have e : out = .inl (some (.int k)) := e
  subst e
  have hF1 : Fx m1 := hF1
  show Wp g mL_law_ _ _ _ 2283 _ (_ :: _) _ Q
  refine si_5 dL_law__2283 rfl (Nat.le_of_ble_eq_true rfl) ?_
  refine r_aload_n dL_law__2285 rfl ?_
  refine r_aload_n dL_law__2286 rfl ?_
  refine r_iload dL_law__2287 rfl ?_
  refine r_iconst (1) dL_law__2289 rfl ?_
  refine r_iadd dL_law__2290 ?_
  refine r_sld dL_law__2291 (by exact sv 1 (by omega) hi hL) ?_
  refine r_aload_n dL_law__2292 rfl ?_
  refine r_iload dL_law__2293 rfl ?_
  refine r_iconst (2) dL_law__2295 rfl ?_
  refine r_iadd dL_law__2296 ?_
  refine r_sld dL_law__2297 (by exact sv 2 (by omega) hi hL) ?_
  refine r_callV (d1 := 5) (c1 := 0) (n1 := 0) (c := c0) (n := n0) (a := 167) (ci := 12) (l := 0) (st := []) [.int (gX g (nI i + 1).toNatClampNeg), .int (gX g (nI i + 2).toNatClampNeg)] rfl dL_law__2298 mvL_244 rfl (by exact k_167 hF1) ⟨(Nat.le_of_ble_eq_true rfl), rfl⟩ (Nat.le_of_ble_eq_true rfl) (by exact Nat.le_of_ble_eq_true rfl) ?_
  refine Cl.mono (fun o2 ho2 => ?_) hR
  obtain ⟨out2, m2⟩ := o2
  obtain ⟨b, e2, hX2, ht, hl⟩ := ho2
  have e2 : out2 = .inl (some (.int b)) := e2
  subst e2
  have hX2 : XI m2 := hX2
  have ht : ldI m2 167 0 = k := ht
  have hl : k = 0 → ldL m2 283 0 = b.toInt64 := hl
  have hF2 := hX2.F
  show Wp g mL_law_ _ _ _ 2301 _ (_ :: _) _ Q
  refine si_6 dL_law__2301 rfl (Nat.le_of_ble_eq_true rfl) ?_
  refine r_aload_n dL_law__2303 rfl ?_
  refine r_callV (d1 := 0) (c1 := 0) (n1 := 0) (c := c0) (n := n0) (a := 167) (ci := 12) (l := 0) (st := []) [] rfl dL_law__2304 mvL_132 rfl (by exact k_167 hF2) ⟨(Nat.le_of_ble_eq_true rfl), rfl⟩ (Nat.le_of_ble_eq_true rfl) (by exact Nat.le_of_ble_eq_true rfl) ?_
  refine S_X12_thrown hF2 ?_
  show Wp g mL_law_ _ _ _ 2307 _ (_ :: _) _ Q
  refine r_iload dL_law__2307 rfl ?_
  refine r_icmp_eq 2314 dL_law__2309 rfl (fun _ => ?_) (fun hq => absurd ht hq)
  refine r_iload dL_law__2314 rfl ?_
  refine r_if_ne 2331 dL_law__2316 rfl (fun _ => ?_) (fun h0 => ?_)
  ·
    refine r_goto 2601 dL_law__2331 rfl ?_
    exact w_fg (kk _ hX2)
  ·
    refine r_aload_n dL_law__2319 rfl ?_
    refine r_iconst (0) dL_law__2320 rfl ?_
    refine r_laloadn (0) rfl dL_law__2321 (by exact k_283 hF2) (vin (j := 0) (by omega) (by omega)) ?_
    refine r_iload dL_law__2322 rfl ?_
    refine r_i2l dL_law__2324 ?_
    refine r_lcmp_eq 2331 dL_law__2325 dL_law__2326 rfl (fun _ => ?_) (fun hq => absurd (hl h0) hq)
    refine r_goto 2601 dL_law__2331 rfl ?_
    exact w_fg (kk _ hX2)
theorem LC_33 {g : GG} {m : MM} {Q : Out → Prop} {c0 n0 i : Nat} (hX : XI m) (hi : i + 6 ≤ gL g) (hL : gL g ≤ 3072) (kk : ∀ m', XI m' → Wp g mL_law_ 60 c0 n0 2601 [.ref 1, .ref 4, .ref 167, .ref 283, .int (nI i), .retAddr 0, .retAddr 0, .retAddr 0] [] m' Q) : Wp g mL_law_ 60 (c0 + 4) (n0 + 407) 2334 [.ref 1, .ref 4, .ref 167, .ref 283, .int (nI i), .retAddr 0, .retAddr 0, .retAddr 0] [] m Q := by
  refine r_aload_n dL_law__2334 rfl ?_
  refine r_aload_n dL_law__2335 rfl ?_
  refine r_iload dL_law__2336 rfl ?_
  refine r_iconst (1) dL_law__2338 rfl ?_
  refine r_iadd dL_law__2339 ?_
  refine r_sld dL_law__2340 (by exact sv 1 (by omega) hi hL) ?_
  refine r_aload_n dL_law__2341 rfl ?_
  refine r_iload dL_law__2342 rfl ?_
  refine r_iconst (2) dL_law__2344 rfl ?_
  refine r_iadd dL_law__2345 ?_
  refine r_sld dL_law__2346 (by exact sv 2 (by omega) hi hL) ?_
  refine r_aload_n dL_law__2347 rfl ?_
  refine r_iload dL_law__2348 rfl ?_
  refine r_iconst (3) dL_law__2350 rfl ?_
  refine r_iadd dL_law__2351 ?_
  refine r_sld dL_law__2352 (by exact sv 3 (by omega) hi hL) ?_
  refine r_aload_n dL_law__2353 rfl ?_
  refine r_iload dL_law__2354 rfl ?_
  refine r_iconst (4) dL_law__2356 rfl ?_
  refine r_iadd dL_law__2357 ?_
  refine r_sld dL_law__2358 (by exact sv 4 (by omega) hi hL) ?_
  refine r_aload_n dL_law__2359 rfl ?_
  refine w_wide (c' := c0 + 2) (n' := n0 + 12) (by omega) (by omega) ?_
  refine r_callT (d1 := 8) (c1 := 2) (n1 := 12) (c := c0) (n := n0) (st := []) [.ref 4, .int (gX g (nI i + 1).toNatClampNeg), .int (gX g (nI i + 2).toNatClampNeg), .int (gX g (nI i + 3).toNatClampNeg), .int (gX g (nI i + 4).toNatClampNeg), .ref 283] rfl dL_law__2360 mtL_245 rfl (Nat.le_of_ble_eq_true rfl) (by exact Nat.le_of_ble_eq_true rfl) ?_
  refine Cl.mono (fun o ho => ?_) (P_price hX)
  obtain ⟨out, m1⟩ := o
  obtain ⟨k, e, hF1, hR⟩ := ho
  have e : out = .inl (some (.int k)) := e
  subst e
  have hF1 : Fx m1 := hF1
  show Wp g mL_law_ _ _ _ 2363 _ (_ :: _) _ Q
  refine si_5 dL_law__2363 rfl (Nat.le_of_ble_eq_true rfl) ?_
  refine r_aload_n dL_law__2365 rfl ?_
  refine r_aload_n dL_law__2366 rfl ?_
  refine r_iload dL_law__2367 rfl ?_
  refine r_iconst (1) dL_law__2369 rfl ?_
  refine r_iadd dL_law__2370 ?_
  refine r_sld dL_law__2371 (by exact sv 1 (by omega) hi hL) ?_
  refine r_aload_n dL_law__2372 rfl ?_
  refine r_iload dL_law__2373 rfl ?_
  refine r_iconst (2) dL_law__2375 rfl ?_
  refine r_iadd dL_law__2376 ?_
  refine r_sld dL_law__2377 (by exact sv 2 (by omega) hi hL) ?_
  refine r_aload_n dL_law__2378 rfl ?_
  refine r_iload dL_law__2379 rfl ?_
  refine r_iconst (3) dL_law__2381 rfl ?_
  refine r_iadd dL_law__2382 ?_
  refine r_sld dL_law__2383 (by exact sv 3 (by omega) hi hL) ?_
  refine r_aload_n dL_law__2384 rfl ?_
  refine r_iload dL_law__2385 rfl ?_
  refine r_iconst (4) dL_law__2387 rfl ?_
  refine r_iadd dL_law__2388 ?_
  refine r_sld dL_law__2389 (by exact sv 4 (by omega) hi hL) ?_
  refine r_callV (d1 := 5) (c1 := 0) (n1 := 0) (c := c0) (n := n0) (a := 167) (ci := 12) (l := 0) (st := []) [.int (gX g (nI i + 1).toNatClampNeg), .int (gX g (nI i + 2).toNatClampNeg), .int (gX g (nI i + 3).toNatClampNeg), .int (gX g (nI i + 4).toNatClampNeg)] rfl dL_law__2390 mvL_247 rfl (by exact k_167 hF1) ⟨(Nat.le_of_ble_eq_true rfl), rfl⟩ (Nat.le_of_ble_eq_true rfl) (by exact Nat.le_of_ble_eq_true rfl) ?_
  refine Cl.mono (fun o2 ho2 => ?_) hR
  obtain ⟨out2, m2⟩ := o2
  obtain ⟨b, e2, hX2, ht, hl⟩ := ho2
  have e2 : out2 = .inl (some (.int b)) := e2
  subst e2
  have hX2 : XI m2 := hX2
  have ht : ldI m2 167 0 = k := ht
  have hl : k = 0 → ldL m2 283 0 = b.toInt64 := hl
  have hF2 := hX2.F
  show Wp g mL_law_ _ _ _ 2393 _ (_ :: _) _ Q
  refine si_6 dL_law__2393 rfl (Nat.le_of_ble_eq_true rfl) ?_
  refine r_aload_n dL_law__2395 rfl ?_
  refine r_callV (d1 := 0) (c1 := 0) (n1 := 0) (c := c0) (n := n0) (a := 167) (ci := 12) (l := 0) (st := []) [] rfl dL_law__2396 mvL_132 rfl (by exact k_167 hF2) ⟨(Nat.le_of_ble_eq_true rfl), rfl⟩ (Nat.le_of_ble_eq_true rfl) (by exact Nat.le_of_ble_eq_true rfl) ?_
  refine S_X12_thrown hF2 ?_
  show Wp g mL_law_ _ _ _ 2399 _ (_ :: _) _ Q
  refine r_iload dL_law__2399 rfl ?_
  refine r_icmp_eq 2406 dL_law__2401 rfl (fun _ => ?_) (fun hq => absurd ht hq)
  refine r_iload dL_law__2406 rfl ?_
  refine r_if_ne 2423 dL_law__2408 rfl (fun _ => ?_) (fun h0 => ?_)
  ·
    refine r_goto 2601 dL_law__2423 rfl ?_
    exact w_fg (kk _ hX2)
  ·
    refine r_aload_n dL_law__2411 rfl ?_
    refine r_iconst (0) dL_law__2412 rfl ?_
    refine r_laloadn (0) rfl dL_law__2413 (by exact k_283 hF2) (vin (j := 0) (by omega) (by omega)) ?_
    refine r_iload dL_law__2414 rfl ?_
    refine r_i2l dL_law__2416 ?_
    refine r_lcmp_eq 2423 dL_law__2417 dL_law__2418 rfl (fun _ => ?_) (fun hq => absurd (hl h0) hq)
    refine r_goto 2601 dL_law__2423 rfl ?_
    exact w_fg (kk _ hX2)
theorem LC_34 {g : GG} {m : MM} {Q : Out → Prop} {c0 n0 i : Nat} (hX : XI m) (hi : i + 6 ≤ gL g) (hL : gL g ≤ 3072) (kk : ∀ m', XI m' → Wp g mL_law_ 60 c0 n0 2601 [.ref 1, .ref 4, .ref 167, .ref 283, .int (nI i), .retAddr 0, .retAddr 0, .retAddr 0] [] m' Q) : Wp g mL_law_ 60 (c0 + 4) (n0 + 407) 2426 [.ref 1, .ref 4, .ref 167, .ref 283, .int (nI i), .retAddr 0, .retAddr 0, .retAddr 0] [] m Q := by
  refine r_aload_n dL_law__2426 rfl ?_
  refine r_aload_n dL_law__2427 rfl ?_
  refine r_iload dL_law__2428 rfl ?_
  refine r_iconst (1) dL_law__2430 rfl ?_
  refine r_iadd dL_law__2431 ?_
  refine r_sld dL_law__2432 (by exact sv 1 (by omega) hi hL) ?_
  refine r_aload_n dL_law__2433 rfl ?_
  refine r_iload dL_law__2434 rfl ?_
  refine r_iconst (2) dL_law__2436 rfl ?_
  refine r_iadd dL_law__2437 ?_
  refine r_sld dL_law__2438 (by exact sv 2 (by omega) hi hL) ?_
  refine r_aload_n dL_law__2439 rfl ?_
  refine w_wide (c' := c0 + 1) (n' := n0 + 6) (by omega) (by omega) ?_
  refine r_callT (d1 := 8) (c1 := 1) (n1 := 6) (c := c0) (n := n0) (st := []) [.ref 4, .int (gX g (nI i + 1).toNatClampNeg), .int (gX g (nI i + 2).toNatClampNeg), .ref 283] rfl dL_law__2440 mtL_248 rfl (Nat.le_of_ble_eq_true rfl) (by exact Nat.le_of_ble_eq_true rfl) ?_
  refine Cl.mono (fun o ho => ?_) (P_foul hX)
  obtain ⟨out, m1⟩ := o
  obtain ⟨k, e, hF1, hR⟩ := ho
  have e : out = .inl (some (.int k)) := e
  subst e
  have hF1 : Fx m1 := hF1
  show Wp g mL_law_ _ _ _ 2443 _ (_ :: _) _ Q
  refine si_5 dL_law__2443 rfl (Nat.le_of_ble_eq_true rfl) ?_
  refine r_aload_n dL_law__2445 rfl ?_
  refine r_aload_n dL_law__2446 rfl ?_
  refine r_iload dL_law__2447 rfl ?_
  refine r_iconst (1) dL_law__2449 rfl ?_
  refine r_iadd dL_law__2450 ?_
  refine r_sld dL_law__2451 (by exact sv 1 (by omega) hi hL) ?_
  refine r_aload_n dL_law__2452 rfl ?_
  refine r_iload dL_law__2453 rfl ?_
  refine r_iconst (2) dL_law__2455 rfl ?_
  refine r_iadd dL_law__2456 ?_
  refine r_sld dL_law__2457 (by exact sv 2 (by omega) hi hL) ?_
  refine r_callV (d1 := 1) (c1 := 0) (n1 := 0) (c := c0) (n := n0) (a := 167) (ci := 12) (l := 0) (st := []) [.int (gX g (nI i + 1).toNatClampNeg), .int (gX g (nI i + 2).toNatClampNeg)] rfl dL_law__2458 mvL_250 rfl (by exact k_167 hF1) ⟨(Nat.le_of_ble_eq_true rfl), rfl⟩ (Nat.le_of_ble_eq_true rfl) (by exact Nat.le_of_ble_eq_true rfl) ?_
  refine Cl.mono (fun o2 ho2 => ?_) hR
  obtain ⟨out2, m2⟩ := o2
  obtain ⟨b, e2, hX2, ht, hl⟩ := ho2
  have e2 : out2 = .inl (some (.int b)) := e2
  subst e2
  have hX2 : XI m2 := hX2
  have ht : ldI m2 167 0 = k := ht
  have hl : k = 0 → ldL m2 283 0 = b.toInt64 := hl
  have hF2 := hX2.F
  show Wp g mL_law_ _ _ _ 2461 _ (_ :: _) _ Q
  refine si_6 dL_law__2461 rfl (Nat.le_of_ble_eq_true rfl) ?_
  refine r_aload_n dL_law__2463 rfl ?_
  refine r_callV (d1 := 0) (c1 := 0) (n1 := 0) (c := c0) (n := n0) (a := 167) (ci := 12) (l := 0) (st := []) [] rfl dL_law__2464 mvL_132 rfl (by exact k_167 hF2) ⟨(Nat.le_of_ble_eq_true rfl), rfl⟩ (Nat.le_of_ble_eq_true rfl) (by exact Nat.le_of_ble_eq_true rfl) ?_
  refine S_X12_thrown hF2 ?_
  show Wp g mL_law_ _ _ _ 2467 _ (_ :: _) _ Q
  refine r_iload dL_law__2467 rfl ?_
  refine r_icmp_eq 2474 dL_law__2469 rfl (fun _ => ?_) (fun hq => absurd ht hq)
  refine r_iload dL_law__2474 rfl ?_
  refine r_if_ne 2491 dL_law__2476 rfl (fun _ => ?_) (fun h0 => ?_)
  ·
    refine r_goto 2601 dL_law__2491 rfl ?_
    exact w_fg (kk _ hX2)
  ·
    refine r_aload_n dL_law__2479 rfl ?_
    refine r_iconst (0) dL_law__2480 rfl ?_
    refine r_laloadn (0) rfl dL_law__2481 (by exact k_283 hF2) (vin (j := 0) (by omega) (by omega)) ?_
    refine r_iload dL_law__2482 rfl ?_
    refine r_i2l dL_law__2484 ?_
    refine r_lcmp_eq 2491 dL_law__2485 dL_law__2486 rfl (fun _ => ?_) (fun hq => absurd (hl h0) hq)
    refine r_goto 2601 dL_law__2491 rfl ?_
    exact w_fg (kk _ hX2)
theorem LC_35 {g : GG} {m : MM} {Q : Out → Prop} {c0 n0 i : Nat} (hX : XI m) (hi : i + 6 ≤ gL g) (hL : gL g ≤ 3072) (kk : ∀ m', XI m' → Wp g mL_law_ 60 c0 n0 2601 [.ref 1, .ref 4, .ref 167, .ref 283, .int (nI i), .retAddr 0, .retAddr 0, .retAddr 0] [] m' Q) : Wp g mL_law_ 60 (c0 + 4) (n0 + 407) 2494 [.ref 1, .ref 4, .ref 167, .ref 283, .int (nI i), .retAddr 0, .retAddr 0, .retAddr 0] [] m Q := by
  refine r_aload_n dL_law__2494 rfl ?_
  refine r_aload_n dL_law__2495 rfl ?_
  refine r_iload dL_law__2496 rfl ?_
  refine r_iconst (1) dL_law__2498 rfl ?_
  refine r_iadd dL_law__2499 ?_
  refine r_sld dL_law__2500 (by exact sv 1 (by omega) hi hL) ?_
  refine r_aload_n dL_law__2501 rfl ?_
  refine w_wide (c' := c0 + 1) (n' := n0 + 6) (by omega) (by omega) ?_
  refine r_callT (d1 := 8) (c1 := 1) (n1 := 6) (c := c0) (n := n0) (st := []) [.ref 4, .int (gX g (nI i + 1).toNatClampNeg), .ref 283] rfl dL_law__2502 mtL_251 rfl (Nat.le_of_ble_eq_true rfl) (by exact Nat.le_of_ble_eq_true rfl) ?_
  refine Cl.mono (fun o ho => ?_) (P_grown hX)
  obtain ⟨out, m1⟩ := o
  obtain ⟨k, e, hF1, hR⟩ := ho
  have e : out = .inl (some (.int k)) := e
  subst e
  have hF1 : Fx m1 := hF1
  show Wp g mL_law_ _ _ _ 2505 _ (_ :: _) _ Q
  refine si_5 dL_law__2505 rfl (Nat.le_of_ble_eq_true rfl) ?_
  refine r_aload_n dL_law__2507 rfl ?_
  refine r_aload_n dL_law__2508 rfl ?_
  refine r_iload dL_law__2509 rfl ?_
  refine r_iconst (1) dL_law__2511 rfl ?_
  refine r_iadd dL_law__2512 ?_
  refine r_sld dL_law__2513 (by exact sv 1 (by omega) hi hL) ?_
  refine r_callV (d1 := 1) (c1 := 0) (n1 := 0) (c := c0) (n := n0) (a := 167) (ci := 12) (l := 0) (st := []) [.int (gX g (nI i + 1).toNatClampNeg)] rfl dL_law__2514 mvL_253 rfl (by exact k_167 hF1) ⟨(Nat.le_of_ble_eq_true rfl), rfl⟩ (Nat.le_of_ble_eq_true rfl) (by exact Nat.le_of_ble_eq_true rfl) ?_
  refine Cl.mono (fun o2 ho2 => ?_) hR
  obtain ⟨out2, m2⟩ := o2
  obtain ⟨b, e2, hX2, ht, hl⟩ := ho2
  have e2 : out2 = .inl (some (.int b)) := e2
  subst e2
  have hX2 : XI m2 := hX2
  have ht : ldI m2 167 0 = k := ht
  have hl : k = 0 → ldL m2 283 0 = b.toInt64 := hl
  have hF2 := hX2.F
  show Wp g mL_law_ _ _ _ 2517 _ (_ :: _) _ Q
  refine si_6 dL_law__2517 rfl (Nat.le_of_ble_eq_true rfl) ?_
  refine r_aload_n dL_law__2519 rfl ?_
  refine r_callV (d1 := 0) (c1 := 0) (n1 := 0) (c := c0) (n := n0) (a := 167) (ci := 12) (l := 0) (st := []) [] rfl dL_law__2520 mvL_132 rfl (by exact k_167 hF2) ⟨(Nat.le_of_ble_eq_true rfl), rfl⟩ (Nat.le_of_ble_eq_true rfl) (by exact Nat.le_of_ble_eq_true rfl) ?_
  refine S_X12_thrown hF2 ?_
  show Wp g mL_law_ _ _ _ 2523 _ (_ :: _) _ Q
  refine r_iload dL_law__2523 rfl ?_
  refine r_icmp_eq 2530 dL_law__2525 rfl (fun _ => ?_) (fun hq => absurd ht hq)
  refine r_iload dL_law__2530 rfl ?_
  refine r_if_ne 2547 dL_law__2532 rfl (fun _ => ?_) (fun h0 => ?_)
  ·
    refine r_goto 2601 dL_law__2547 rfl ?_
    exact w_fg (kk _ hX2)
  ·
    refine r_aload_n dL_law__2535 rfl ?_
    refine r_iconst (0) dL_law__2536 rfl ?_
    refine r_laloadn (0) rfl dL_law__2537 (by exact k_283 hF2) (vin (j := 0) (by omega) (by omega)) ?_
    refine r_iload dL_law__2538 rfl ?_
    refine r_i2l dL_law__2540 ?_
    refine r_lcmp_eq 2547 dL_law__2541 dL_law__2542 rfl (fun _ => ?_) (fun hq => absurd (hl h0) hq)
    refine r_goto 2601 dL_law__2547 rfl ?_
    exact w_fg (kk _ hX2)
theorem LC_36 {g : GG} {m : MM} {Q : Out → Prop} {c0 n0 i : Nat} (hX : XI m) (hi : i + 6 ≤ gL g) (hL : gL g ≤ 3072) (kk : ∀ m', XI m' → Wp g mL_law_ 60 c0 n0 2601 [.ref 1, .ref 4, .ref 167, .ref 283, .int (nI i), .retAddr 0, .retAddr 0, .retAddr 0] [] m' Q) : Wp g mL_law_ 60 (c0 + 4) (n0 + 407) 2550 [.ref 1, .ref 4, .ref 167, .ref 283, .int (nI i), .retAddr 0, .retAddr 0, .retAddr 0] [] m Q := by
  refine r_aload_n dL_law__2550 rfl ?_
  refine w_wide (c' := c0) (n' := n0) (by omega) (by omega) ?_
  refine r_callV (d1 := 6) (c1 := 0) (n1 := 0) (c := c0) (n := n0) (a := 4) (ci := 11) (l := 0) (st := []) [] rfl dL_law__2551 mvL_254 rfl (by exact k_4 hX.F) ⟨(Nat.le_of_ble_eq_true rfl), rfl⟩ (Nat.le_of_ble_eq_true rfl) (by exact Nat.le_of_ble_eq_true rfl) ?_
  refine Cl.mono (fun o ho => ?_) (P_image hX)
  obtain ⟨out, m1⟩ := o
  obtain ⟨k, e, hF1, hR⟩ := ho
  have e : out = .inl (some (.int k)) := e
  subst e
  have hF1 : Fx m1 := hF1
  show Wp g mL_law_ _ _ _ 2554 _ (_ :: _) _ Q
  refine r_aload_n dL_law__2554 rfl ?_
  refine r_callV (d1 := 3) (c1 := 0) (n1 := 0) (c := c0) (n := n0) (a := 167) (ci := 12) (l := 0) (st := [.int k]) [] rfl dL_law__2555 mvL_257 rfl (by exact k_167 hF1) ⟨(Nat.le_of_ble_eq_true rfl), rfl⟩ (Nat.le_of_ble_eq_true rfl) (by exact Nat.le_of_ble_eq_true rfl) ?_
  refine Cl.mono (fun o2 ho2 => ?_) hR
  obtain ⟨out2, m2⟩ := o2
  obtain ⟨e2, hX2⟩ := ho2
  have e2 : out2 = .inl (some (.int k)) := e2
  subst e2
  have hX2 : XI m2 := hX2
  have hF2 := hX2.F
  show Wp g mL_law_ _ _ _ 2558 _ (_ :: _) _ Q
  refine r_icmp_eq 2601 dL_law__2558 rfl (fun _ => ?_) (fun hq => absurd rfl hq)
  exact w_fg (kk _ hX2)
theorem LC_37 {g : GG} {m : MM} {Q : Out → Prop} {c0 n0 i : Nat} (hX : XI m) (hi : i + 6 ≤ gL g) (hL : gL g ≤ 3072) (kk : ∀ m', XI m' → Wp g mL_law_ 60 c0 n0 2601 [.ref 1, .ref 4, .ref 167, .ref 283, .int (nI i), .retAddr 0, .retAddr 0, .retAddr 0] [] m' Q) : Wp g mL_law_ 60 (c0 + 4) (n0 + 407) 2563 [.ref 1, .ref 4, .ref 167, .ref 283, .int (nI i), .retAddr 0, .retAddr 0, .retAddr 0] [] m Q := by
  refine r_aload_n dL_law__2563 rfl ?_
  refine w_wide (c' := c0) (n' := n0) (by omega) (by omega) ?_
  refine r_callV (d1 := 6) (c1 := 0) (n1 := 0) (c := c0) (n := n0) (a := 4) (ci := 11) (l := 0) (st := []) [] rfl dL_law__2564 mvL_258 rfl (by exact k_4 hX.F) ⟨(Nat.le_of_ble_eq_true rfl), rfl⟩ (Nat.le_of_ble_eq_true rfl) (by exact Nat.le_of_ble_eq_true rfl) ?_
  refine Cl.mono (fun o ho => ?_) (P_restore hX)
  obtain ⟨out, m1⟩ := o
  obtain ⟨k, e, hF1, hR⟩ := ho
  have e : out = .inl (some (.int k)) := e
  subst e
  have hF1 : Fx m1 := hF1
  show Wp g mL_law_ _ _ _ 2567 _ (_ :: _) _ Q
  refine r_aload_n dL_law__2567 rfl ?_
  refine r_callV (d1 := 3) (c1 := 0) (n1 := 0) (c := c0) (n := n0) (a := 167) (ci := 12) (l := 0) (st := [.int k]) [] rfl dL_law__2568 mvL_261 rfl (by exact k_167 hF1) ⟨(Nat.le_of_ble_eq_true rfl), rfl⟩ (Nat.le_of_ble_eq_true rfl) (by exact Nat.le_of_ble_eq_true rfl) ?_
  refine Cl.mono (fun o2 ho2 => ?_) hR
  obtain ⟨out2, m2⟩ := o2
  obtain ⟨e2, hX2⟩ := ho2
  have e2 : out2 = .inl (some (.int k)) := e2
  subst e2
  have hX2 : XI m2 := hX2
  have hF2 := hX2.F
  show Wp g mL_law_ _ _ _ 2571 _ (_ :: _) _ Q
  refine r_icmp_eq 2601 dL_law__2571 rfl (fun _ => ?_) (fun hq => absurd rfl hq)
  exact w_fg (kk _ hX2)
theorem LC_38 {g : GG} {m : MM} {Q : Out → Prop} {c0 n0 i : Nat} (hX : XI m) (hi : i + 6 ≤ gL g) (hL : gL g ≤ 3072) (kk : ∀ m', XI m' → Wp g mL_law_ 60 c0 n0 2601 [.ref 1, .ref 4, .ref 167, .ref 283, .int (nI i), .retAddr 0, .retAddr 0, .retAddr 0] [] m' Q) : Wp g mL_law_ 60 (c0 + 4) (n0 + 407) 2576 [.ref 1, .ref 4, .ref 167, .ref 283, .int (nI i), .retAddr 0, .retAddr 0, .retAddr 0] [] m Q := by
  refine r_aload_n dL_law__2576 rfl ?_
  refine r_aload_n dL_law__2577 rfl ?_
  refine r_iload dL_law__2578 rfl ?_
  refine r_iconst (1) dL_law__2580 rfl ?_
  refine r_iadd dL_law__2581 ?_
  refine r_sld dL_law__2582 (by exact sv 1 (by omega) hi hL) ?_
  refine w_wide (c' := c0) (n' := n0) (by omega) (by omega) ?_
  refine r_callV (d1 := 2) (c1 := 0) (n1 := 0) (c := c0) (n := n0) (a := 4) (ci := 11) (l := 0) (st := []) [.int (gX g (nI i + 1).toNatClampNeg)] rfl dL_law__2583 mvL_262 rfl (by exact k_4 hX.F) ⟨(Nat.le_of_ble_eq_true rfl), rfl⟩ (Nat.le_of_ble_eq_true rfl) (by exact Nat.le_of_ble_eq_true rfl) ?_
  refine Cl.mono (fun o ho => ?_) (P_count hX)
  obtain ⟨out, m1⟩ := o
  obtain ⟨k, e, hF1, hR⟩ := ho
  have e : out = .inl (some (.int k)) := e
  subst e
  have hF1 : Fx m1 := hF1
  show Wp g mL_law_ _ _ _ 2586 _ (_ :: _) _ Q
  refine r_aload_n dL_law__2586 rfl ?_
  refine r_aload_n dL_law__2587 rfl ?_
  refine r_iload dL_law__2588 rfl ?_
  refine r_iconst (1) dL_law__2590 rfl ?_
  refine r_iadd dL_law__2591 ?_
  refine r_sld dL_law__2592 (by exact sv 1 (by omega) hi hL) ?_
  refine r_callV (d1 := 0) (c1 := 0) (n1 := 0) (c := c0) (n := n0) (a := 167) (ci := 12) (l := 0) (st := [.int k]) [.int (gX g (nI i + 1).toNatClampNeg)] rfl dL_law__2593 mvL_265 rfl (by exact k_167 hF1) ⟨(Nat.le_of_ble_eq_true rfl), rfl⟩ (Nat.le_of_ble_eq_true rfl) (by exact Nat.le_of_ble_eq_true rfl) ?_
  refine Cl.mono (fun o2 ho2 => ?_) hR
  obtain ⟨out2, m2⟩ := o2
  obtain ⟨e2, hX2⟩ := ho2
  have e2 : out2 = .inl (some (.int k)) := e2
  subst e2
  have hX2 : XI m2 := hX2
  have hF2 := hX2.F
  show Wp g mL_law_ _ _ _ 2596 _ (_ :: _) _ Q
  refine r_icmp_eq 2601 dL_law__2596 rfl (fun _ => ?_) (fun hq => absurd rfl hq)
  exact w_fg (kk _ hX2)
