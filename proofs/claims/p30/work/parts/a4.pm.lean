/-! the law's arrays under judging -/
section PM4
variable {A : Nat → Nat} {W : Nat → Nat → Int32} {n nr nc no : Nat} {S : MS}
theorem d4e : ((4 : Int32) = 0) = False := eq_false (by decide)
theorem d10k : ((10000 : Int32) = 0) = False := eq_false (by decide)
def cdo (w s r : Nat) : Nat := 10000 * w + 100 * s + r
theorem cdo_eq (w s r : Nat) : 10000 * nI w + 100 * nI s + nI r = nI (cdo w s r) := by
  rw [show (10000 : Int32) = nI 10000 from rfl, show (100 : Int32) = nI 100 from rfl, pk_mul, pk_mul, nJ_add, nJ_add]; rfl
theorem cdo_s {w s r : Nat} (hw : w < 8) (hs : s < 40) (hr : r < 12) : nI (cdo w s r) / 100 - nI (cdo w s r) / 100 / 100 * 100 = nI s := by
  have e : cdo w s r / 100 % 100 = s := by unfold cdo; omega
  rw [show (100 : Int32) = nI 100 from rfl, pk_div (by unfold cdo; omega) (by decide) (by decide), pk_rem (by unfold cdo; omega) (by decide) (by decide), e]
theorem cdo_r {w s r : Nat} (hw : w < 8) (hs : s < 40) (hr : r < 12) : nI (cdo w s r) - nI (cdo w s r) / 100 * 100 = nI r := by
  have e : cdo w s r % 100 = r := by unfold cdo; omega
  rw [show (100 : Int32) = nI 100 from rfl, pk_rem (by unfold cdo; omega) (by decide) (by decide), e]
theorem cdo_w {w s r : Nat} (hw : w < 8) (hs : s < 40) (hr : r < 12) : nI (cdo w s r) / 10000 = nI w := by
  have e : cdo w s r / 10000 = w := by unfold cdo; omega
  rw [show (10000 : Int32) = nI 10000 from rfl, pk_div (by unfold cdo; omega) (by decide) (by decide), e]
theorem cdo_inj {w s r w' s' r' : Nat} (hw : w < 8) (hs : s < 40) (hr : r < 12) (hw' : w' < 8) (hs' : s' < 40) (hr' : r' < 12) : (nI (cdo w s r) = nI (cdo w' s' r')) = (w = w' ∧ s = s' ∧ r = r') := by
  apply propext
  refine ⟨fun h => ?_, fun ⟨a, c, d⟩ => by rw [a, c, d]⟩
  have e := congrArg Int32.toInt h
  rw [nI_toInt (by unfold cdo; omega), nI_toInt (by unfold cdo; omega)] at e
  unfold cdo at e
  omega
/-- the state in the law's number of a claim -/
theorem z_rem {st pd : Nat} (hs : st ≤ 3) (hp : pd ≤ 48000) : nI st + 4 * nI pd - (nI st + 4 * nI pd) / 4 * 4 = nI st := by
  have e : (st + 4 * pd) % 4 = st := by omega
  rw [show (4 : Int32) = nI 4 from rfl, pk_mul, nJ_add, pk_rem (by omega) (by decide) (by decide), e]
theorem z_div {st pd : Nat} (hs : st ≤ 3) (hp : pd ≤ 48000) : (nI st + 4 * nI pd) / 4 = nI pd := by
  have e : (st + 4 * pd) / 4 = pd := by omega
  rw [show (4 : Int32) = nI 4 from rfl, pk_mul, nJ_add, pk_div (by omega) (by decide) (by decide), e]
theorem SW.pd (sw : SW n nr nc no S) {c : Nat} (hc : c < nc) : nn (pdo S c) 48000 := by
  unfold pdo
  split
  · exact sw.1.2.2.2.2.2 c
  · exact ⟨0, by omega, rfl⟩
theorem LR.st (lr : LR W n nr nc no S) {c : Nat} {x v : Int32} (hc : c < nc) (hv : v = x + 4 * pdo (S.1, aup S.2 26 c x) c) : LR (aup W 5 c v) n nr nc no (S.1, aup S.2 26 c x) := by
  obtain ⟨a1, a2, a3, a4, a5, a6, a7⟩ := lr
  refine ⟨a1, a2, a3, a4, fun d hd => ⟨(a5 d hd).1, ?_⟩, a6, a7⟩
  by_cases e : d = c
  · subst e
    have e1 : aup W 5 d v 5 d = v := by simp [aup]
    have e2 : aup S.2 26 d x 26 d = x := by simp [aup]
    show aup W 5 d v 5 d = aup S.2 26 d x 26 d + 4 * pdo (S.1, aup S.2 26 d x) d
    rw [e1, e2, hv]
  · have e1 : aup W 5 c v 5 d = W 5 d := by simp [aup, e]
    have e2 : aup S.2 26 c x 26 d = S.2 26 d := by simp [aup, e]
    have e3 : aup S.2 26 c x 27 d = S.2 27 d := by simp [aup]
    show aup W 5 c v 5 d = aup S.2 26 c x 26 d + 4 * (if aup S.2 26 c x 26 d = 1 ∨ aup S.2 26 c x 26 d = 3 then aup S.2 26 c x 27 d else 0)
    rw [e1, e2, e3, (a5 d hd).2]
    rfl
theorem SW.st (sw : SW n nr nc no S) {c : Nat} {x : Int32} (hx : nn x 3) : SW n nr nc no (S.1, aup S.2 26 c x) := by
  obtain ⟨⟨q1, q2, q3, q4, q5, q6⟩, a2, a3, a4, a5, a6, a7⟩ := sw
  refine ⟨⟨q1, q2, q3, q4, q5, fun d => ?_⟩, a2, a3, fun d hd => ?_, a5, a6, a7⟩
  · have e2 : aup S.2 26 c x 27 d = S.2 27 d := by simp [aup]
    show nn (aup S.2 26 c x 27 d) 48000
    rw [e2]; exact q6 d
  obtain ⟨b1, b2⟩ := a4 d hd
  refine ⟨b1, ?_⟩
  · by_cases e : d = c
    · subst e
      have e2 : aup S.2 26 d x 26 d = x := by simp [aup]
      show nn (aup S.2 26 d x 26 d) 3
      rw [e2]; exact hx
    · have e2 : aup S.2 26 c x 26 d = S.2 26 d := by simp [aup, e]
      show nn (aup S.2 26 c x 26 d) 3
      rw [e2]; exact b2
theorem pdo_st {c : Nat} {x : Int32} (h : (S.2 26 c = 1 ∨ S.2 26 c = 3) ↔ (x = 1 ∨ x = 3)) : pdo (S.1, aup S.2 26 c x) c = pdo S c := by
  have e2 : aup S.2 26 c x 26 c = x := by simp [aup]
  have e3 : aup S.2 26 c x 27 c = S.2 27 c := by simp [aup]
  show (if aup S.2 26 c x 26 c = 1 ∨ aup S.2 26 c x 26 c = 3 then aup S.2 26 c x 27 c else 0) = pdo S c
  rw [e2, e3]
  unfold pdo
  by_cases q : x = 1 ∨ x = 3
  · rw [if_pos q, if_pos (h.mpr q)]
  · rw [if_neg q, if_neg (fun z => q (h.mp z))]
/-- a new claim -/
theorem LR.nw (lr : LR W n nr nc no S) (hn : nc + 1 ≤ 63) (w s r : Int32) : LR (aup (aup (aup W 4 nc (10000 * w + 100 * s + r)) 5 nc 0) 0 3 (nI (nc + 1))) n nr (nc + 1) no (mk S nc w s r) := by
  have em : mk S nc w s r = (fup S.1 22 (nI (nc + 1)), aup (aup (aup (aup S.2 23 nc w) 24 nc s) 25 nc r) 26 nc 0) := by unfold mk; rw [if_pos (by omega)]
  rw [em]
  obtain ⟨⟨b1, b2, b3, b4, b5⟩, ⟨a1, a2, a3, a4⟩, c3, c4, c5, c6, c7⟩ := lr
  refine ⟨⟨b1, b2, b3, by simp [aup], b5⟩, ⟨a1, a2, hn, a4⟩, c3, c4, fun d hd => ?_, c6, c7⟩
  by_cases e : d = nc
  · subst e
    refine ⟨by simp [aup], ?_⟩
    simp [aup, pdo]
  · obtain ⟨d1, d2⟩ := c5 d (by omega)
    refine ⟨?_, ?_⟩
    · simp [aup, e]; exact d1
    · simp [aup, e, pdo]; exact d2
theorem SW.nw (sw : SW n nr nc no S) (hn : nc + 1 ≤ 63) {w s r : Nat} (hw : w < 4) (hs : s < n) (hr : r < nr) (hf : ∀ c, c < nc → ¬ (S.2 23 c = nI w ∧ S.2 24 c = nI s ∧ S.2 25 c = nI r)) : SW n nr (nc + 1) no (mk S nc (nI w) (nI s) (nI r)) := by
  have em : mk S nc (nI w) (nI s) (nI r) = (fup S.1 22 (nI (nc + 1)), aup (aup (aup (aup S.2 23 nc (nI w)) 24 nc (nI s)) 25 nc (nI r)) 26 nc 0) := by unfold mk; rw [if_pos (by omega)]
  rw [em]
  obtain ⟨⟨b1, b2, b3, b4, b5, b6⟩, a2, a3, a4, a5, a6, a7⟩ := sw
  have g : ∀ d, d ≠ nc → ∀ k, aup (aup (aup (aup S.2 23 nc (nI w)) 24 nc (nI s)) 25 nc (nI r)) 26 nc 0 k d = S.2 k d := fun d hd k => by simp [aup, hd]
  have g3 : aup (aup (aup (aup S.2 23 nc (nI w)) 24 nc (nI s)) 25 nc (nI r)) 26 nc 0 23 nc = nI w := by simp [aup]
  have g4 : aup (aup (aup (aup S.2 23 nc (nI w)) 24 nc (nI s)) 25 nc (nI r)) 26 nc 0 24 nc = nI s := by simp [aup]
  have g5 : aup (aup (aup (aup S.2 23 nc (nI w)) 24 nc (nI s)) 25 nc (nI r)) 26 nc 0 25 nc = nI r := by simp [aup]
  have g6 : aup (aup (aup (aup S.2 23 nc (nI w)) 24 nc (nI s)) 25 nc (nI r)) 26 nc 0 26 nc = 0 := by simp [aup]
  refine ⟨⟨b1, b2, b3, by simp [fup], b5, fun d => ?_⟩, a2, a3, fun d hd => ?_, fun c d hc hd => ?_, a6, a7⟩
  · have e2 : aup (aup (aup (aup S.2 23 nc (nI w)) 24 nc (nI s)) 25 nc (nI r)) 26 nc 0 27 d = S.2 27 d := by simp [aup]
    dsimp only
    rw [e2]; exact b6 d
  · dsimp only
    by_cases e : d = nc
    · subst e
      rw [g3, g4, g5, g6]
      exact ⟨⟨w, s, r, hw, hs, hr, rfl, rfl, rfl⟩, ⟨0, by omega, rfl⟩⟩
    · rw [g d e, g d e, g d e, g d e]
      exact a4 d (by omega)
  · dsimp only
    by_cases e1 : c = nc
    · by_cases e2 : d = nc
      · intro _ _ _; omega
      · subst e1
        rw [g3, g4, g5, g d e2, g d e2, g d e2]
        intro h1 h2 h3
        exact absurd ⟨h1.symm, h2.symm, h3.symm⟩ (hf d (by omega))
    · by_cases e2 : d = nc
      · subst e2
        rw [g3, g4, g5, g c e1, g c e1, g c e1]
        intro h1 h2 h3
        exact absurd ⟨h1, h2, h3⟩ (hf c (by omega))
      · rw [g c e1, g c e1, g c e1, g d e2, g d e2, g d e2]
        exact a5 c d (by omega) (by omega)
end PM4
