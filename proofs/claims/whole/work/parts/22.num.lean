theorem nJ_add (a k : Nat) : nI a + nI k = nI (a + k) := by
  unfold nI
  rw [Int32.ofNat_add]
theorem nJ_p2 (a : Nat) : nI a + 2 = nI (a + 2) := nJ_add a 2
theorem nJ_p3 (a : Nat) : nI a + 3 = nI (a + 3) := nJ_add a 3
theorem nJ_p4 (a : Nat) : nI a + 4 = nI (a + 4) := nJ_add a 4
theorem nJ_sb {a c : Nat} (h : a ≤ c) : nI c - nI a = nI (c - a) := by
  have e : nI c = nI (c - a) + nI a := by rw [nJ_add]; congr 1; omega
  rw [e, Int32.add_sub_cancel]
theorem nE3 {x : Nat} (h : x < 2048) : (nI x = 3) = (x = 3) := nJ_eq (c := 3) h (by omega)
theorem nE4 {x : Nat} (h : x < 2048) : (nI x = 4) = (x = 4) := nJ_eq (c := 4) h (by omega)
theorem nE5 {x : Nat} (h : x < 2048) : (nI x = 5) = (x = 5) := nJ_eq (c := 5) h (by omega)
