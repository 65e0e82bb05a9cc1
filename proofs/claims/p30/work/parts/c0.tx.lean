/-! THE LAW: texts -/
/-- S1 is S with the text tx -/
def TXP (tx : List Nat) (S S1 : MS) : Prop := S1.1 10 = nI tx.length ∧ (∀ (i c : Nat), tx[i]? = some c → S1.2 11 i = nI c) ∧ (∀ k, k ≠ 10 → k ≠ 34 → (k < 12 ∨ 15 < k) → S1.1 k = S.1 k) ∧ ∀ k, k ≠ 11 → S1.2 k = S.2 k
/-- the word w lies at a, and ends there -/
def wat (T : Nat → Int32) (nl a : Nat) (w : List Nat) : Prop := (∀ (i c : Nat), w[i]? = some c → T (a + i) = nI c) ∧ (∀ c, c ∈ w → c ≠ 32 ∧ c < 128) ∧ ((a + w.length = nl) ∨ (a + w.length < nl ∧ T (a + w.length) = 32)) ∧ 0 < w.length
theorem wat_end {T : Nat → Int32} {nl a : Nat} {w : List Nat} (h : wat T nl a w) : wend T nl a = a + w.length := by
  obtain ⟨h1, h2, h3, h4⟩ := h
  have h5 : ∀ i, i < w.length → (decide (T (a + i) = 32)) = false := by
    intro i hi
    have e := h1 i w[i] (List.getElem?_eq_getElem hi)
    obtain ⟨e1, e2⟩ := h2 w[i] (List.getElem_mem hi)
    rw [decide_eq_false_iff_not, e, show (32 : Int32) = nI 32 from rfl, nJ_eq (by omega) (by omega)]
    exact e1
  unfold wend
  rcases h3 with h3 | ⟨h3, h6⟩
  · rw [fnd_none (nl - a) (fun j hj => h5 j (by omega))]
    exact h3.symm
  · rw [fnd_some (i := w.length) (decide_eq_true h6) h5 (nl - a) (by omega)]
theorem wat_0 {T : Nat → Int32} {nl a : Nat} {w : List Nat} (h : wat T nl a w) : ¬ T a = 32 ∧ a < nl := by
  obtain ⟨h1, h2, h3, h4⟩ := h
  have e := h1 0 w[0] (List.getElem?_eq_getElem h4)
  obtain ⟨e1, e2⟩ := h2 w[0] (List.getElem_mem h4)
  rw [Nat.add_zero] at e
  refine ⟨?_, by omega⟩
  rw [e, show (32 : Int32) = nI 32 from rfl, nJ_eq (by omega) (by omega)]
  exact e1
/-- what is known while the text is read: up to its part tx, at stage st -/
def PI (S : MS) (tx : List Nat) (st : Nat) (Q : (Nat → Int32) → Prop) : Prop := ∀ r, (r = [] ∨ ∃ r', r = 32 :: r') → ∀ S1, TXP (tx ++ r) S S1 → ∃ f S', (tx ++ r).length + 1 ≤ tx.length + f ∧ wrg S1 (tx ++ r).length = wro (tx ++ r).length f st tx.length S' ∧ S'.2 = S1.2 ∧ Q S'.1
def PW (S : MS) (tx : List Nat) (wr : Int32) : Prop := ∀ r, (r = [] ∨ ∃ r', r = 32 :: r') → ∀ S1, TXP (tx ++ r) S S1 → (wrg S1 (tx ++ r).length).1 = wr
section PIS
variable {S : MS} {tx w : List Nat} {st st' : Nat} {Q Q' : (Nat → Int32) → Prop}
theorem PI.start (S : MS) : PI S [] 0 (fun F => F 14 = -1) := by
  intro r hr S1 h
  refine ⟨r.length + 1, (fup S1.1 14 (-1), S1.2), by simp, rfl, rfl, ?_⟩
  show fup S1.1 14 (-1) 14 = -1
  simp [fup]
theorem PI.wx (hw : (∀ c, c ∈ w → c ≠ 32 ∧ c < 128) ∧ 0 < w.length) {r : List Nat} (hr : r = [] ∨ ∃ r', r = 32 :: r') {S1 : MS} (h : TXP ((tx ++ 32 :: w) ++ r) S S1) : S1.2 11 tx.length = 32 ∧ tx.length < ((tx ++ 32 :: w) ++ r).length ∧ wat (S1.2 11) ((tx ++ 32 :: w) ++ r).length (tx.length + 1) w := by
  have hl : ((tx ++ 32 :: w) ++ r).length = tx.length + 1 + w.length + r.length := by simp; omega
  refine ⟨?_, by omega, fun i c hc => ?_, hw.1, ?_, hw.2⟩
  · have := h.2.1 tx.length 32 (by rw [List.append_assoc, List.getElem?_append_right (Nat.le_refl _)]; simp)
    exact this
  · have hi := (List.getElem?_eq_some_iff.mp hc).1
    refine h.2.1 (tx.length + 1 + i) c ?_
    rw [List.append_assoc, List.getElem?_append_right (by omega), show tx.length + 1 + i - tx.length = i + 1 by omega]
    show (32 :: w ++ r)[i + 1]? = some c
    rw [List.cons_append, List.getElem?_cons_succ, List.getElem?_append_left hi]
    exact hc
  · rcases hr with rfl | ⟨r', rfl⟩
    · exact Or.inl (by rw [hl]; simp)
    · refine Or.inr ⟨by rw [hl]; simp, ?_⟩
      have := h.2.1 (tx.length + 1 + w.length) 32 (by
        rw [List.getElem?_append_right (by simp; omega)]
        have : tx.length + 1 + w.length - (tx ++ 32 :: w).length = 0 := by simp; omega
        rw [this]; rfl)
      exact this
theorem PI.step (p : PI S tx st Q) (hw : (∀ c, c ∈ w → c ≠ 32 ∧ c < 128) ∧ 0 < w.length) (k : ∀ (S' : MS) nl, Q S'.1 → wat (S'.2 11) nl (tx.length + 1) w → ∃ S'', wrd S' st (tx.length + 1) (tx.length + 1 + w.length) = (some st', S'') ∧ S''.2 = S'.2 ∧ Q' S''.1) : PI S (tx ++ 32 :: w) st' Q' := by
  intro r hr S1 h
  obtain ⟨h1, h2, h3⟩ := PI.wx hw hr h
  obtain ⟨f, S', g1, g2, g3, g4⟩ := p (32 :: w ++ r) (Or.inr ⟨w ++ r, rfl⟩) S1 (by rw [← List.append_assoc]; exact h)
  rw [← List.append_assoc] at g1 g2
  have hl : ((tx ++ 32 :: w) ++ r).length = tx.length + 1 + w.length + r.length := by simp; omega
  have hl2 : (tx ++ 32 :: w).length = tx.length + 1 + w.length := by simp; omega
  rw [← g3] at h1 h3
  obtain ⟨S'', e1, e2, e3⟩ := k S' _ g4 h3
  have hw0 := hw.2
  obtain ⟨f2, rfl⟩ : ∃ f2, f = f2 + 2 := ⟨f - 2, by omega⟩
  have z1 := wat_0 h3
  refine ⟨f2, S'', by omega, ?_, e2.trans g3, e3⟩
  rw [g2]
  show wro _ (f2 + 1 + 1) st tx.length S' = _
  rw [wro, if_neg (by omega), if_pos h1, wro, if_neg (by omega), if_neg z1.1, wat_end h3, e1, hl2]
theorem PI.fail (p : PI S tx st Q) (hw : (∀ c, c ∈ w → c ≠ 32 ∧ c < 128) ∧ 0 < w.length) (k : ∀ (S' : MS) nl, Q S'.1 → wat (S'.2 11) nl (tx.length + 1) w → ∃ S'', wrd S' st (tx.length + 1) (tx.length + 1 + w.length) = (none, S'')) : PW S (tx ++ 32 :: w) (nI (tx.length + 1)) := by
  intro r hr S1 h
  obtain ⟨h1, h2, h3⟩ := PI.wx hw hr h
  obtain ⟨f, S', g1, g2, g3, g4⟩ := p (32 :: w ++ r) (Or.inr ⟨w ++ r, rfl⟩) S1 (by rw [← List.append_assoc]; exact h)
  rw [← List.append_assoc] at g1 g2
  have hl : ((tx ++ 32 :: w) ++ r).length = tx.length + 1 + w.length + r.length := by simp; omega
  rw [← g3] at h1 h3
  obtain ⟨S'', e1⟩ := k S' _ g4 h3
  have hw0 := hw.2
  obtain ⟨f2, rfl⟩ : ∃ f2, f = f2 + 2 := ⟨f - 2, by omega⟩
  have z1 := wat_0 h3
  rw [g2]
  show (wro _ (f2 + 1 + 1) st tx.length S').1 = _
  rw [wro, if_neg (by omega), if_pos h1, wro, if_neg (by omega), if_neg z1.1, wat_end h3, e1]
theorem PW.keep {wr : Int32} (p : PW S tx wr) (w : List Nat) : PW S (tx ++ 32 :: w) wr := by
  intro r hr S1 h
  have := p (32 :: w ++ r) (Or.inr ⟨w ++ r, rfl⟩) S1 (by rw [← List.append_assoc]; exact h)
  rw [← List.append_assoc] at this
  exact this
theorem PI.done (p : PI S tx 6 Q) {S1 : MS} (h : TXP tx S S1) : (wrg S1 tx.length).1 = -1 ∧ Q (wrg S1 tx.length).2.1 := by
  obtain ⟨f, S', g1, g2, g3, g4⟩ := p [] (Or.inl rfl) S1 (by rw [List.append_nil]; exact h)
  rw [List.append_nil] at g1 g2
  obtain ⟨f2, rfl⟩ : ∃ f2, f = f2 + 1 := ⟨f - 1, by omega⟩
  rw [g2, wro, if_pos (Nat.le_refl _), if_pos rfl]
  exact ⟨rfl, g4⟩
theorem PI.miss (p : PI S tx st Q) (hst : st ≠ 6) : ∀ S1, TXP tx S S1 → (wrg S1 tx.length).1 = nI tx.length := by
  intro S1 h
  obtain ⟨f, S', g1, g2, g3, g4⟩ := p [] (Or.inl rfl) S1 (by rw [List.append_nil]; exact h)
  rw [List.append_nil] at g1 g2
  obtain ⟨f2, rfl⟩ : ∃ f2, f = f2 + 1 := ⟨f - 1, by omega⟩
  rw [g2, wro, if_pos (Nat.le_refl _), if_neg hst]
theorem PW.done {wr : Int32} (p : PW S tx wr) : ∀ S1, TXP tx S S1 → (wrg S1 tx.length).1 = wr := by
  intro S1 h
  have := p [] (Or.inl rfl) S1 (by rw [List.append_nil]; exact h)
  rwa [List.append_nil] at this
end PIS
/-- the letters of a word -/
def lwd : Nat → List Nat
  | 0 => [82, 69, 83, 84]
  | 1 => [87, 69, 69, 75]
  | 2 => [82, 79, 87]
  | 3 => [76, 79, 78, 71]
  | 4 => [83, 75, 73, 76, 76]
  | _ => [80, 65, 89]
theorem lwd_ok (k : Nat) : (∀ c, c ∈ lwd k → c ≠ 32 ∧ c < 128) ∧ 0 < (lwd k).length := by
  match k with
  | 0 => decide
  | 1 => decide
  | 2 => decide
  | 3 => decide
  | 4 => decide
  | k + 5 => exact (by decide : (∀ c, c ∈ [80, 65, 89] → c ≠ 32 ∧ c < 128) ∧ 0 < [80, 65, 89].length)
def dgs : Nat → Nat → List Nat
  | 1, m => [48 + m / 1 % 10]
  | 2, m => [48 + m / 10 % 10, 48 + m / 1 % 10]
  | _, m => [48 + m / 100 % 10, 48 + m / 10 % 10, 48 + m / 1 % 10]
theorem dgs_ok (d m : Nat) : (∀ c, c ∈ dgs d m → c ≠ 32 ∧ c < 128) ∧ 0 < (dgs d m).length := by
  unfold dgs
  split <;> refine ⟨fun c hc => ?_, by simp⟩ <;> simp only [List.mem_cons, List.mem_nil_iff, or_false] at hc <;> omega
theorem dg_lo {x : Nat} (h : x < 10) : ¬ (nI (48 + x) < 48 ∨ 57 < nI (48 + x)) := by
  rw [show (48 : Int32) = nI 48 from rfl, show (57 : Int32) = nI 57 from rfl, nJ_lt (by omega) (by omega), nJ_lt (by omega) (by omega)]
  omega
theorem dg_st {x y : Nat} (h : x < 10) : 10 * nI y + nI (48 + x) - 48 = nI (10 * y + x) := by
  rw [show (10 : Int32) = nI 10 from rfl, pk_mul, nJ_add, show (48 : Int32) = nI 48 from rfl, nJ_sb (by omega)]
  congr 1
  omega
theorem nof_dgs {T : Nat → Int32} {nl a d m D : Nat} (hd : d = 1 ∨ d = 2 ∨ d = 3) (hD : d ≤ D) (hm : m < 10 ^ d) (h : wat T nl a (dgs d m)) : nof T a (a + (dgs d m).length) D = nI m := by
  obtain ⟨h1, -, -, -⟩ := h
  have s0 : ∀ {x : Int32} {k y : Nat}, nlp T a k = some (nI y) → ∀ z, z < 10 → T (a + k) = nI (48 + z) → nlp T a (k + 1) = some (nI (10 * y + z)) := by
    intro x k y hk z hz hT
    show (match nlp T a k with
    | none => none
    | some x => if T (a + k) < 48 ∨ 57 < T (a + k) then none else some (10 * x + T (a + k) - 48)) = _
    rw [hk]
    dsimp only
    rw [hT, if_neg (dg_lo hz), dg_st hz]
  unfold nof
  rcases hd with rfl | rfl | rfl
  · have e1 := s0 (x := 0) (k := 0) (y := 0) rfl (m / 1 % 10) (Nat.mod_lt _ (by decide)) (h1 0 _ rfl)
    have hl : a + (dgs 1 m).length - a = 1 := by simp [dgs]
    rw [hl, if_neg (by omega), e1]
    dsimp only
    congr 1
    omega
  · have e1 := s0 (x := 0) (k := 0) (y := 0) rfl (m / 10 % 10) (Nat.mod_lt _ (by decide)) (h1 0 _ rfl)
    have e2 := s0 (x := 0) e1 (m / 1 % 10) (Nat.mod_lt _ (by decide)) (h1 1 _ rfl)
    have hl : a + (dgs 2 m).length - a = 2 := by simp [dgs]
    rw [hl, if_neg (by omega), e2]
    dsimp only
    congr 1
    omega
  · have e1 := s0 (x := 0) (k := 0) (y := 0) rfl (m / 100 % 10) (Nat.mod_lt _ (by decide)) (h1 0 _ rfl)
    have e2 := s0 (x := 0) e1 (m / 10 % 10) (Nat.mod_lt _ (by decide)) (h1 1 _ rfl)
    have e3 := s0 (x := 0) e2 (m / 1 % 10) (Nat.mod_lt _ (by decide)) (h1 2 _ rfl)
    have hl : a + (dgs 3 m).length - a = 3 := by simp [dgs]
    rw [hl, if_neg (by omega), e3]
    dsimp only
    congr 1
    omega
theorem le_200 {m : Nat} (h : m < 1000) : ((1 ≤ nI m ∧ nI m ≤ 200) ↔ (1 ≤ m ∧ m ≤ 200)) ∧ ((0 ≤ nI m ∧ nI m ≤ 200) ↔ m ≤ 200) ∧ ((0 ≤ nI m ∧ nI m ≤ 3) ↔ m ≤ 3) := by
  have h0 : (0 : Int32) ≤ nI m := nI_pos' (by omega)
  rw [show (1 : Int32) = nI 1 from rfl, show (200 : Int32) = nI 200 from rfl, show (3 : Int32) = nI 3 from rfl, nJ_le (by omega) (by omega), nJ_le (by omega) (by omega), nJ_le (by omega) (by omega)]
  exact ⟨Iff.rfl, ⟨And.right, fun z => ⟨h0, z⟩⟩, ⟨And.right, fun z => ⟨h0, z⟩⟩⟩
section WRD
variable {S' : MS} {nl a : Nat}
theorem w0_kind {k : Nat} (hk : k < 4) (h : wat (S'.2 11) nl a (lwd k)) : wrd S' 0 a (a + (lwd k).length) = (some 1, (fup S'.1 12 (nI k), S'.2)) := by
  obtain ⟨h1, -, -, -⟩ := h
  have hk : k = 0 ∨ k = 1 ∨ k = 2 ∨ k = 3 := by omega
  have e : wk0 (S'.2 11) a (a + (lwd k).length) = nI k := by
    rcases hk with rfl | rfl | rfl | rfl
    · have q0 : S'.2 11 a = 82 := h1 0 82 rfl
      have q1 : S'.2 11 (a + 1) = 69 := h1 1 69 rfl
      have q2 : S'.2 11 (a + 2) = 83 := h1 2 83 rfl
      have q3 : S'.2 11 (a + 3) = 84 := h1 3 84 rfl
      simp [wk0, is4, is3, lwd, q0, q1, q2, q3]; rfl
    · have q0 : S'.2 11 a = 87 := h1 0 87 rfl
      have q1 : S'.2 11 (a + 1) = 69 := h1 1 69 rfl
      have q2 : S'.2 11 (a + 2) = 69 := h1 2 69 rfl
      have q3 : S'.2 11 (a + 3) = 75 := h1 3 75 rfl
      simp [wk0, is4, is3, lwd, q0, q1, q2, q3]; rfl
    · have q0 : S'.2 11 a = 82 := h1 0 82 rfl
      have q1 : S'.2 11 (a + 1) = 79 := h1 1 79 rfl
      have q2 : S'.2 11 (a + 2) = 87 := h1 2 87 rfl
      simp [wk0, is4, is3, lwd, q0, q1, q2]; rfl
    · have q0 : S'.2 11 a = 76 := h1 0 76 rfl
      have q1 : S'.2 11 (a + 1) = 79 := h1 1 79 rfl
      have q2 : S'.2 11 (a + 2) = 78 := h1 2 78 rfl
      have q3 : S'.2 11 (a + 3) = 71 := h1 3 71 rfl
      simp [wk0, is4, is3, lwd, q0, q1, q2, q3]; rfl
  unfold wrd
  show ((if wk0 (S'.2 11) a (a + (lwd k).length) = -1 then none else some 1, (fup S'.1 12 (wk0 (S'.2 11) a (a + (lwd k).length)), S'.2)) : Option Nat × MS) = _
  rw [e, if_neg (by rcases hk with rfl | rfl | rfl | rfl <;> decide)]
theorem w0_pay (h : wat (S'.2 11) nl a (lwd 5)) : (wrd S' 0 a (a + (lwd 5).length)).1 = none := by
  obtain ⟨h1, -, -, -⟩ := h
  have q0 : S'.2 11 a = 80 := h1 0 80 rfl
  have q1 : S'.2 11 (a + 1) = 65 := h1 1 65 rfl
  have q2 : S'.2 11 (a + 2) = 89 := h1 2 89 rfl
  simp [wrd, wk0, is4, is3, lwd, q0, q1, q2]
theorem w1_num {d m : Nat} (hd : d = 1 ∨ d = 2 ∨ d = 3) (hm : m < 10 ^ d) (h : wat (S'.2 11) nl a (dgs d m)) : wrd S' 1 a (a + (dgs d m).length) = (if 1 ≤ m ∧ m ≤ 200 then some 2 else none, (fup S'.1 13 (nI m), S'.2)) := by
  have hm2 : m < 1000 := by rcases hd with rfl | rfl | rfl <;> omega
  unfold wrd
  rw [nof_dgs hd (by omega) hm h]
  simp only [(le_200 hm2).1]
theorem w2_skill (h : wat (S'.2 11) nl a (lwd 4)) : wrd S' 2 a (a + (lwd 4).length) = (some 3, S') := by
  obtain ⟨h1, -, -, -⟩ := h
  have q0 : S'.2 11 a = 83 := h1 0 83 rfl
  have q1 : S'.2 11 (a + 1) = 75 := h1 1 75 rfl
  have q2 : S'.2 11 (a + 2) = 73 := h1 2 73 rfl
  have q3 : S'.2 11 (a + 3) = 76 := h1 3 76 rfl
  have q4 : S'.2 11 (a + 4) = 76 := h1 4 76 rfl
  simp [wrd, is5, lwd, q0, q1, q2, q3, q4]
theorem w2_pay (h : wat (S'.2 11) nl a (lwd 5)) : wrd S' 2 a (a + (lwd 5).length) = (some 5, S') := by
  obtain ⟨h1, -, -, -⟩ := h
  have q0 : S'.2 11 a = 80 := h1 0 80 rfl
  have q1 : S'.2 11 (a + 1) = 65 := h1 1 65 rfl
  have q2 : S'.2 11 (a + 2) = 89 := h1 2 89 rfl
  simp [wrd, is5, is3, lwd, q0, q1, q2]
theorem w4_pay (h : wat (S'.2 11) nl a (lwd 5)) : wrd S' 4 a (a + (lwd 5).length) = (some 5, S') := by
  obtain ⟨h1, -, -, -⟩ := h
  have q0 : S'.2 11 a = 80 := h1 0 80 rfl
  have q1 : S'.2 11 (a + 1) = 65 := h1 1 65 rfl
  have q2 : S'.2 11 (a + 2) = 89 := h1 2 89 rfl
  simp [wrd, is5, is3, lwd, q0, q1, q2]
theorem w3_num {m : Nat} (hm : m < 10) (h : wat (S'.2 11) nl a (dgs 1 m)) : wrd S' 3 a (a + (dgs 1 m).length) = (if m ≤ 3 then some 4 else none, (fup S'.1 14 (nI m), S'.2)) := by
  have e := nof_dgs (D := 1) (Or.inl rfl) (Nat.le_refl 1) (show m < 10 ^ 1 by omega) h
  show ((if 0 ≤ nof (S'.2 11) a (a + (dgs 1 m).length) 1 ∧ nof (S'.2 11) a (a + (dgs 1 m).length) 1 ≤ 3 then some 4 else none, (fup S'.1 14 (nof (S'.2 11) a (a + (dgs 1 m).length) 1), S'.2)) : Option Nat × MS) = _
  rw [e]
  simp only [(le_200 (show m < 1000 by omega)).2.2]
theorem w5_num {m : Nat} (hm : m < 1000) (h : wat (S'.2 11) nl a (dgs 3 m)) : wrd S' 5 a (a + (dgs 3 m).length) = (if m ≤ 200 then some 6 else none, (fup S'.1 15 (nI m), S'.2)) := by
  unfold wrd
  rw [nof_dgs (Or.inr (Or.inr rfl)) (by omega) (by omega) h]
  simp only [(le_200 hm).2.1]
end WRD
