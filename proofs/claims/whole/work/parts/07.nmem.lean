/-! small algebra of the memory -/
theorem mm_extI {m m' : MM} (h1 : ∀ a k, ldI m a k = ldI m' a k) (h2 : m.2 = m'.2) : m = m' := by
  obtain ⟨f, r⟩ := m
  obtain ⟨f', r'⟩ := m'
  have : f = f' := funext fun a => funext fun k => h1 a k
  subst this
  cases h2
  rfl
theorem mm_extL {m m' : MM} (h1 : m.1 = m'.1) (h2 : ∀ a k, ldL m a k = ldL m' a k) (h3 : m.2.2 = m'.2.2) : m = m' := by
  obtain ⟨f, r, t⟩ := m
  obtain ⟨f', r', t'⟩ := m'
  have : r = r' := funext fun a => funext fun k => h2 a k
  subst this
  cases h1
  cases h3
  rfl
theorem ldI_stI (m : MM) (a k : Nat) (v : Int32) (b j : Nat) : ldI (stI m a k v) b j = if b = a ∧ j = k then v else ldI m b j := rfl
theorem ldI_stL (m : MM) (a k : Nat) (v : Int64) (b j : Nat) : ldI (stL m a k v) b j = ldI m b j := rfl
theorem ldI_stR (m : MM) (a k v : Nat) (b j : Nat) : ldI (stR m a k v) b j = ldI m b j := rfl
theorem ldI_stRow (m : MM) (a : Nat) (h : Nat → Int32) (b j : Nat) : ldI (stRow m a h) b j = if b = a then h j else ldI m b j := rfl
theorem ldI_stRowL (m : MM) (a : Nat) (h : Nat → Int64) (b j : Nat) : ldI (stRowL m a h) b j = ldI m b j := rfl
theorem ldL_stI (m : MM) (a k : Nat) (v : Int32) (b j : Nat) : ldL (stI m a k v) b j = ldL m b j := rfl
theorem ldL_stL (m : MM) (a k : Nat) (v : Int64) (b j : Nat) : ldL (stL m a k v) b j = if b = a ∧ j = k then v else ldL m b j := rfl
theorem ldL_stR (m : MM) (a k v : Nat) (b j : Nat) : ldL (stR m a k v) b j = ldL m b j := rfl
theorem ldL_stRow (m : MM) (a : Nat) (h : Nat → Int32) (b j : Nat) : ldL (stRow m a h) b j = ldL m b j := rfl
theorem ldL_stRowL (m : MM) (a : Nat) (h : Nat → Int64) (b j : Nat) : ldL (stRowL m a h) b j = if b = a then h j else ldL m b j := rfl
theorem ldR_stI (m : MM) (a k : Nat) (v : Int32) (b j : Nat) : ldR (stI m a k v) b j = ldR m b j := rfl
theorem ldR_stL (m : MM) (a k : Nat) (v : Int64) (b j : Nat) : ldR (stL m a k v) b j = ldR m b j := rfl
theorem ldR_stR (m : MM) (a k v : Nat) (b j : Nat) : ldR (stR m a k v) b j = if b = a ∧ j = k then v else ldR m b j := rfl
theorem ldR_stRow (m : MM) (a : Nat) (h : Nat → Int32) (b j : Nat) : ldR (stRow m a h) b j = ldR m b j := rfl
theorem ldR_stRowL (m : MM) (a : Nat) (h : Nat → Int64) (b j : Nat) : ldR (stRowL m a h) b j = ldR m b j := rfl
theorem Wp_m {g : GG} {μ : MD} {d c n pc : Nat} {ls st : List Value} {m m' : MM} {Q : Out → Prop} (h : m = m') (k : Wp g μ d c n pc ls st m' Q) : Wp g μ d c n pc ls st m Q := h ▸ k
theorem nI_cl (j : Nat) (h : j < 2147483648) : (nI j).toNatClampNeg = j := nI_clamp (by omega)
theorem nI_int (j : Nat) (h : j < 2147483648) : (nI j).toInt = j := nI_toInt (by omega)
theorem vin {j l : Nat} (h : j < l) (hl : l < 2147483648) : vp_in (nI j) l := vp_in_nI h (by omega)
theorem vin_of {x : Int32} {n : Nat} (h1 : ¬ x < 0) (h2 : ¬ nI n ≤ x) (hn : n < 2147483648) : ∃ j, x = nI j ∧ j < n := by
  obtain ⟨j, hj, rfl⟩ := nI_of h1
  exact ⟨j, rfl, Nat.not_le.mp fun q => h2 (nI_le q (by omega))⟩
theorem ofNat_nI (n : Nat) : Int32.ofNat n = nI n := rfl
