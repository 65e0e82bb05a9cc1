theorem TXP.te {tx : List Nat} {S S1 S2 : MS} (t : TXP tx S S1) (e : tEq S1 S2) : TXP tx S S2 := ⟨by rw [e.2 10 (by omega)]; exact t.1, by rw [e.1]; exact t.2.1, fun k k1 k2 k3 => by rw [e.2 k k3]; exact t.2.2.1 k k1 k2 k3, by rw [e.1]; exact t.2.2.2⟩
theorem TXP.th {tx : List Nat} {S S1 : MS} (t : TXP tx S S1) (c : Int32) : TXP tx S (thr S1 c) := ⟨t.1, t.2.1, fun k k1 k2 k3 => by show (if k = 34 then c else S1.1 k) = S.1 k; rw [if_neg k2]; exact t.2.2.1 k k1 k2 k3, t.2.2.2⟩
theorem wrg_te (S : MS) (nl : Nat) : tEq S (wrg S nl).2 := (tEq_f 14 (-1) (by omega)).tr (wro_eq nl (nl + 1) 0 0 (fup S.1 14 (-1), S.2))
section RUL
variable {W : Nat → Nat → Int32} {n nr nc no : Nat} {S S2 : MS}
theorem LR.f2 (lr : LR W n nr nc no S) (e2 : ∀ k, k ≠ 11 → S2.2 k = S.2 k) (e0 : S2.1 0 = S.1 0) (e10 : S2.1 10 = 0) : LR W n nr nc no S2 := by
  obtain ⟨⟨b1, b2⟩, ⟨a1, a2, a3, a4, a5⟩, c3, c4, c5, c6, c7⟩ := lr
  refine ⟨⟨by rw [e0]; exact b1, b2⟩, ⟨a1, a2, a3, a4, e10⟩, fun s hs => ?_, fun s hs => ?_, fun s hs => ?_, fun s hs => ?_, fun s hs => ?_⟩
  · rw [e2 4 (by decide), e2 5 (by decide), e2 6 (by decide), e2 7 (by decide), e2 8 (by decide), e2 9 (by decide)]; exact c3 s hs
  · rw [e2 17 (by decide), e2 18 (by decide), e2 19 (by decide), e2 20 (by decide), e2 21 (by decide)]; exact c4 s hs
  · unfold pdo
    rw [e2 23 (by decide), e2 24 (by decide), e2 25 (by decide), e2 26 (by decide), e2 27 (by decide)]; exact c5 s hs
  · rw [e2 29 (by decide), e2 30 (by decide), e2 31 (by decide)]; exact c6 s hs
  · rw [e2 1 (by decide), e2 2 (by decide)]; exact c7 s hs
theorem SW.f2 (sw : SW n nr nc no S) (e2 : ∀ k, k ≠ 11 → S2.2 k = S.2 k) (e : ∀ k, k = 0 ∨ k = 3 ∨ k = 16 ∨ k = 22 ∨ k = 28 → S2.1 k = S.1 k) : SW n nr nc no S2 := by
  obtain ⟨⟨b1, b2, b3, b4, b5, b6⟩, c3, c4, c5, c8, c6, c7⟩ := sw
  refine ⟨⟨by rw [e 0 (by decide)]; exact b1, by rw [e 3 (by decide)]; exact b2, by rw [e 16 (by decide)]; exact b3, by rw [e 22 (by decide)]; exact b4, by rw [e 28 (by decide)]; exact b5, fun c => by rw [e2 27 (by decide)]; exact b6 c⟩, fun s hs => ?_, fun s hs => ?_, fun s hs => ?_, fun s d hs hd => ?_, fun s hs => ?_, fun s hs => ?_⟩
  · rw [e2 4 (by decide), e2 5 (by decide), e2 6 (by decide), e2 7 (by decide), e2 8 (by decide), e2 9 (by decide)]; exact c3 s hs
  · rw [e2 17 (by decide), e2 18 (by decide), e2 19 (by decide), e2 20 (by decide), e2 21 (by decide)]; exact c4 s hs
  · rw [e2 23 (by decide), e2 24 (by decide), e2 25 (by decide), e2 26 (by decide)]; exact c5 s hs
  · rw [e2 23 (by decide), e2 24 (by decide), e2 25 (by decide)]; exact c8 s d hs hd
  · rw [e2 29 (by decide), e2 30 (by decide), e2 31 (by decide)]; exact c6 s hs
  · rw [e2 1 (by decide), e2 2 (by decide)]; exact c7 s hs
theorem LR.rul (lr : LR W n nr nc no S) (hn : nr < 4) (e2 : ∀ k, k ≠ 11 → S2.2 k = S.2 k) (e0 : S2.1 0 = S.1 0) (h21 : S.2 21 nr = 0) : LR (aup (aup (aup (aup (aup (aup W 3 nr (S2.1 12)) 3 (4 + nr) (S2.1 13)) 3 (8 + nr) (S2.1 14)) 3 (12 + nr) (S2.1 15)) 3 (16 + nr) 0) 0 2 (nI (nr + 1))) n (nr + 1) nc no (m_rul S2 nr) := by
  obtain ⟨⟨b1, b2, b3, b4, b5⟩, ⟨a1, a2, a3, a4, a5⟩, c3, c4, c5, c6, c7⟩ := lr
  have m2 : ∀ k, k ≠ 11 → k < 17 ∨ 20 < k → (m_rul S2 nr).2 k = S.2 k := fun k hk hk2 => by
    show aup (aup (aup (aup S2.2 17 nr (S2.1 12)) 18 nr (S2.1 13)) 19 nr (S2.1 14)) 20 nr (S2.1 15) k = S.2 k
    rw [← e2 k hk]
    funext i
    simp [aup, show k ≠ 17 by omega, show k ≠ 18 by omega, show k ≠ 19 by omega, show k ≠ 20 by omega]
  have w0 : ∀ i, i ≠ 2 → aup (aup (aup (aup (aup (aup W 3 nr (S2.1 12)) 3 (4 + nr) (S2.1 13)) 3 (8 + nr) (S2.1 14)) 3 (12 + nr) (S2.1 15)) 3 (16 + nr) 0) 0 2 (nI (nr + 1)) 0 i = W 0 i := fun i hi => by simp [aup, hi]
  have wk : ∀ k i, k ≠ 0 → k ≠ 3 → aup (aup (aup (aup (aup (aup W 3 nr (S2.1 12)) 3 (4 + nr) (S2.1 13)) 3 (8 + nr) (S2.1 14)) 3 (12 + nr) (S2.1 15)) 3 (16 + nr) 0) 0 2 (nI (nr + 1)) k i = W k i := fun k i h1 h2 => by simp [aup, h1, h2]
  refine ⟨⟨?_, by rw [w0 1 (by decide)]; exact b2, by simp [aup], by rw [w0 3 (by decide)]; exact b4, by rw [w0 4 (by decide)]; exact b5⟩, ⟨a1, by omega, a3, a4, ?_⟩, fun s hs => ?_, fun s hs => ?_, fun s hs => ?_, fun s hs => ?_, fun s hs => ?_⟩
  · rw [w0 0 (by decide), b1, ← e0]
    simp [m_rul, fup]
  · simp [m_rul, fup]
  · rw [wk 2 _ (by decide) (by decide), wk 2 _ (by decide) (by decide), wk 2 _ (by decide) (by decide), wk 2 _ (by decide) (by decide), wk 2 _ (by decide) (by decide), wk 2 _ (by decide) (by decide), m2 4 (by decide) (by decide), m2 5 (by decide) (by decide), m2 6 (by decide) (by decide), m2 7 (by decide) (by decide), m2 8 (by decide) (by decide), m2 9 (by decide) (by decide)]
    exact c3 s hs
  · by_cases e : s = nr
    · subst e
      have g21 : (m_rul S2 s).2 21 s = 0 := by rw [m2 21 (by decide) (by decide)]; exact h21
      rw [g21, Nat.zero_add]
      have q : ∀ o, 0 < o → ¬ (s = o + s) := fun o h z => by omega
      refine ⟨?_, ?_, ?_, ?_, ?_⟩ <;> simp [aup, m_rul]
    · obtain ⟨d1, d2, d3, d4, d5⟩ := c4 s (by omega)
      have g : ∀ o, o % 4 = 0 → o < 20 → aup (aup (aup (aup (aup (aup W 3 nr (S2.1 12)) 3 (4 + nr) (S2.1 13)) 3 (8 + nr) (S2.1 14)) 3 (12 + nr) (S2.1 15)) 3 (16 + nr) 0) 0 2 (nI (nr + 1)) 3 (o + s) = W 3 (o + s) := fun o h1 h2 => by
        have q1 : ¬ (o + s = nr) := by omega
        have q2 : ¬ (o + s = 4 + nr) := by omega
        have q3 : ¬ (o + s = 8 + nr) := by omega
        have q4 : ¬ (o + s = 12 + nr) := by omega
        have q5 : ¬ (o + s = 16 + nr) := by omega
        simp [aup, q1, q2, q3, q4, q5]
      have g2 : ∀ k, k ≠ 11 → (m_rul S2 nr).2 k s = S.2 k s := fun k hk => by
        show aup (aup (aup (aup S2.2 17 nr (S2.1 12)) 18 nr (S2.1 13)) 19 nr (S2.1 14)) 20 nr (S2.1 15) k s = S.2 k s
        rw [← e2 k hk]
        simp [aup, e]
      rw [g 0 rfl (by decide), g 4 rfl (by decide), g 8 rfl (by decide), g 12 rfl (by decide), g 16 rfl (by decide), g2 17 (by decide), g2 18 (by decide), g2 19 (by decide), g2 20 (by decide), g2 21 (by decide)]
      exact ⟨d1, d2, d3, d4, d5⟩
  · unfold pdo
    rw [wk 4 _ (by decide) (by decide), wk 5 _ (by decide) (by decide), m2 23 (by decide) (by decide), m2 24 (by decide) (by decide), m2 25 (by decide) (by decide), m2 26 (by decide) (by decide), m2 27 (by decide) (by decide)]
    exact c5 s hs
  · rw [wk 6 _ (by decide) (by decide), wk 6 _ (by decide) (by decide), wk 6 _ (by decide) (by decide), m2 29 (by decide) (by decide), m2 30 (by decide) (by decide), m2 31 (by decide) (by decide)]
    exact c6 s hs
  · rw [wk 1 _ (by decide) (by decide), wk 1 _ (by decide) (by decide), m2 1 (by decide) (by decide), m2 2 (by decide) (by decide)]
    exact c7 s hs
theorem SW.rul (sw : SW n nr nc no S) (e2 : ∀ k, k ≠ 11 → S2.2 k = S.2 k) (e : ∀ k, k = 0 ∨ k = 3 ∨ k = 22 ∨ k = 28 → S2.1 k = S.1 k) (h21 : S.2 21 nr = 0) (v1 : nn (S2.1 12) 3) (v2 : ∃ m, 1 ≤ m ∧ m ≤ 200 ∧ S2.1 13 = nI m) (v3 : S2.1 14 = -1 ∨ nn (S2.1 14) 3) (v4 : nn (S2.1 15) 200) : SW n (nr + 1) nc no (m_rul S2 nr) := by
  obtain ⟨⟨b1, b2, b3, b4, b5, b6⟩, c3, c4, c5, c8, c6, c7⟩ := sw
  have m2 : ∀ k, k ≠ 11 → k < 17 ∨ 20 < k → (m_rul S2 nr).2 k = S.2 k := fun k hk hk2 => by
    show aup (aup (aup (aup S2.2 17 nr (S2.1 12)) 18 nr (S2.1 13)) 19 nr (S2.1 14)) 20 nr (S2.1 15) k = S.2 k
    rw [← e2 k hk]
    funext i
    simp [aup, show k ≠ 17 by omega, show k ≠ 18 by omega, show k ≠ 19 by omega, show k ≠ 20 by omega]
  have m1 : ∀ k, k = 0 ∨ k = 3 ∨ k = 22 ∨ k = 28 → (m_rul S2 nr).1 k = S.1 k := fun k hk => by
    rw [← e k hk]
    show fup (fup (fup S2.1 34 0) 16 (nI (nr + 1))) 10 0 k = S2.1 k
    simp [fup, show k ≠ 34 by omega, show k ≠ 16 by omega, show k ≠ 10 by omega]
  refine ⟨⟨by rw [m1 0 (by decide)]; exact b1, by rw [m1 3 (by decide)]; exact b2, by simp [m_rul, fup], by rw [m1 22 (by decide)]; exact b4, by rw [m1 28 (by decide)]; exact b5, fun c => by rw [m2 27 (by decide) (by decide)]; exact b6 c⟩, fun s hs => ?_, fun s hs => ?_, fun s hs => ?_, fun s d hs hd => ?_, fun s hs => ?_, fun s hs => ?_⟩
  · rw [m2 4 (by decide) (by decide), m2 5 (by decide) (by decide), m2 6 (by decide) (by decide), m2 7 (by decide) (by decide), m2 8 (by decide) (by decide), m2 9 (by decide) (by decide)]; exact c3 s hs
  · by_cases e9 : s = nr
    · subst e9
      have g17 : (m_rul S2 s).2 17 s = S2.1 12 := by simp [aup, m_rul]
      have g18 : (m_rul S2 s).2 18 s = S2.1 13 := by simp [aup, m_rul]
      have g19 : (m_rul S2 s).2 19 s = S2.1 14 := by simp [aup, m_rul]
      have g20 : (m_rul S2 s).2 20 s = S2.1 15 := by simp [aup, m_rul]
      rw [g17, g18, g19, g20, m2 21 (by decide) (by decide), h21]
      exact ⟨v1, v2, v3, v4, ⟨0, by omega, rfl⟩⟩
    · have g2 : ∀ k, k ≠ 11 → (m_rul S2 nr).2 k s = S.2 k s := fun k hk => by
        show aup (aup (aup (aup S2.2 17 nr (S2.1 12)) 18 nr (S2.1 13)) 19 nr (S2.1 14)) 20 nr (S2.1 15) k s = S.2 k s
        rw [← e2 k hk]
        simp [aup, e9]
      rw [g2 17 (by decide), g2 18 (by decide), g2 19 (by decide), g2 20 (by decide), g2 21 (by decide)]
      exact c4 s (by omega)
  · rw [m2 23 (by decide) (by decide), m2 24 (by decide) (by decide), m2 25 (by decide) (by decide), m2 26 (by decide) (by decide)]
    obtain ⟨⟨w, s9, r, q1, q2, q3, q4⟩, q5⟩ := c5 s hs
    exact ⟨⟨w, s9, r, q1, q2, by omega, q4⟩, q5⟩
  · rw [m2 23 (by decide) (by decide), m2 24 (by decide) (by decide), m2 25 (by decide) (by decide)]; exact c8 s d hs hd
  · rw [m2 29 (by decide) (by decide), m2 30 (by decide) (by decide), m2 31 (by decide) (by decide)]; exact c6 s hs
  · rw [m2 1 (by decide) (by decide), m2 2 (by decide) (by decide)]; exact c7 s hs
end RUL
