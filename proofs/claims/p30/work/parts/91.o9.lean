/-- a rule is put down, the text cleared -/
def RUP (N : Nat → Nat) (Z : ZS) (k4 k5 k6 k7 : Int32) (Z' : ZS) : Prop :=
  Z'.1 0 0 8 = nI (N 3 + 1) ∧ (∀ k i f, ¬ (k = 0 ∧ i = 0 ∧ f = 8) → ¬ (k = 3 ∧ i = N 3) → ¬ (k = 6 ∧ i = 0 ∧ 1 ≤ f) → Z'.1 k i f = Z.1 k i f) ∧ Z'.1 6 0 1 = 0 ∧ (Z'.1 3 (N 3) 0 = nI (N 3) ∧ Z'.1 3 (N 3) 1 = k4 ∧ Z'.1 3 (N 3) 2 = k5 ∧ Z'.1 3 (N 3) 3 = k6 ∧ Z'.1 3 (N 3) 4 = k7 ∧ Z'.1 3 (N 3) 5 = 0) ∧ Z'.2 9 0 (N 3) = some (N 3) ∧ ∀ k i f, ¬ (k = 3 ∧ i = N 3) → ¬ (k = 9 ∧ i = 0 ∧ f = N 3) → Z'.2 k i f = Z.2 k i f
section O9A
variable {N : Nat → Nat} {Z Z' Z1 : ZS} {S S1 : MS}
theorem INV.ch (i : INV N Z S) : ∀ j, j < 40 → 0 ≤ Z.1 13 0 j ∧ Z.1 13 0 j ≤ 65535 := fun j _ => (i.rtx j (Nat.lt_succ_self j)).2
theorem INV.T (i : INV N Z S) : S.2 11 = Z.1 13 0 := by funext j; exact (i.rtx j (Nat.lt_succ_self j)).1
theorem inv_txu (i : INV N Z S) (m : TXU Z Z1) (e : tEq S S1) : INV N Z1 S1 := by
  obtain ⟨m1, m2⟩ := m
  obtain ⟨e1, e2⟩ := e
  have hk : ∀ k i f, k ≠ 6 → Z1.1 k i f = Z.1 k i f := fun k i f h => m2 k i f (fun z => h z.1)
  have hf : ∀ k, k ≠ 6 → Z1.1 k = Z.1 k := fun k h => by funext i f; exact hk k i f h
  have r21 := i.2.2.2.2
  refine ⟨i.1.cg m1 (hf 2 (by decide)) ?_ (fun k i f h => hk k i f (fun z => by subst z; simp [stf1] at h)) ?_ ?_ ?_ ?_ ?_ ?_ ?_ ?_, i.2.1.cg (Z := Z) m1 (hf 2 (by decide)) (hf 3 (by decide)) (fun c _ => by rw [hf 4 (by decide)]), i.2.2.1.cg (Z := Z) m1 (fun o _ => hk 5 o 3 (by decide)), ?_, ?_⟩
  · unfold Iru
    rw [hf 3 (by decide)]
    exact i.iu
  · obtain ⟨a1, a2, a3, a4, a5, a6⟩ := i.1.2.1.1
    unfold Rct
    rw [e2 3 (by omega), e2 16 (by omega), e2 22 (by omega), e2 28 (by omega), e2 0 (by omega), e2 10 (by omega), hk 0 0 11 (by decide), m2 6 0 1 (by simp)]
    exact ⟨a1, a2, a3, a4, a5, a6⟩
  · unfold Rwk
    rw [e1, hf 1 (by decide)]
    exact i.rwk
  · unfold Rsh
    rw [e1, hf 2 (by decide), m1]
    exact i.rsh
  · unfold Rru
    rw [e1, hf 3 (by decide)]
    exact i.rru
  · unfold Rcl
    rw [e1, hf 4 (by decide), m1]
    exact i.rcl
  · unfold Rof
    rw [e1, hf 5 (by decide), m1]
    exact i.rof
  · unfold Rtx
    rw [e1, hf 13 (by decide)]
    exact i.rtx
  · unfold Ist
    rw [hf 4 (by decide)]
    exact i.1.2.2.2.2.2.1
  · rw [hk 0 0 11 (by decide), m2 6 0 1 (by simp)]
    exact i.2.2.2.1
  · rw [e1]
    exact r21
theorem inv_put (i : INV N Z S) {nl : Nat} (hl : nl < 40) {x : Int32} (hx : 0 ≤ x ∧ x ≤ 65535) : INV N (zui (zui Z.1 13 0 nl x) 6 0 1 (nI (nl + 1)), Z.2) (fup (thr S 0).1 10 (nI (nl + 1)), aup S.2 11 nl x) := by
  have h1 : ∀ k i f, k ≠ 13 → k ≠ 6 → zui (zui Z.1 13 0 nl x) 6 0 1 (nI (nl + 1)) k i f = Z.1 k i f := fun k i f h2 h3 => by simp [zui, h2, h3]
  have e1 : ∀ k, k ≠ 13 → k ≠ 6 → zui (zui Z.1 13 0 nl x) 6 0 1 (nI (nl + 1)) k = Z.1 k := fun k h2 h3 => by funext i f; exact h1 k i f h2 h3
  obtain ⟨j, f, oi, ⟨r1, r2⟩, r3⟩ := i
  refine ⟨j.cg rfl (e1 2 (by decide) (by decide)) j.2.2.1.2.2 (fun k i f hf => h1 k i f (fun z => by subst z; simp [stf1] at hf) (fun z => by subst z; simp [stf1] at hf)) ?_ j.2.1.2.1 j.2.1.2.2.1 j.2.1.2.2.2.1 j.2.1.2.2.2.2.1 j.2.1.2.2.2.2.2.1 (fun m hm => ?_) j.2.2.2.2.2.1, f.cg (Z := Z) rfl (e1 2 (by decide) (by decide)) (e1 3 (by decide) (by decide)) (fun _ _ => Iff.rfl), oi.cg (Z := Z) rfl (fun _ _ => rfl), ⟨r1, nl + 1, by omega, ?_⟩, r3⟩
  · obtain ⟨a1, a2, a3, a4, a5, a6⟩ := j.2.1.1
    exact ⟨a1, a2, a3, a4, a5, by simp [zui, fup]⟩
  · by_cases e : m = nl
    · subst e
      have q1 : zui (zui Z.1 13 0 m x) 6 0 1 (nI (m + 1)) 13 0 m = x := by simp [zui]
      have q2 : aup S.2 11 m x 11 m = x := by simp [aup]
      dsimp only
      rw [q1, q2]
      exact ⟨rfl, hx⟩
    · have q1 : zui (zui Z.1 13 0 nl x) 6 0 1 (nI (nl + 1)) 13 0 m = Z.1 13 0 m := by simp [zui, e]
      have q2 : aup S.2 11 nl x 11 m = S.2 11 m := by simp [aup, e]
      dsimp only
      rw [q1, q2]
      exact j.2.1.2.2.2.2.2.2 m hm
  · simp [zui]
theorem inv_empty (i : INV N Z S) : INV N (zui Z.1 6 0 1 0, Z.2) (fup (thr S 0).1 10 0, S.2) := by
  have h1 : ∀ k i f, k ≠ 6 → zui Z.1 6 0 1 0 k i f = Z.1 k i f := fun k i f h3 => by simp [zui, h3]
  have e1 : ∀ k, k ≠ 6 → zui Z.1 6 0 1 0 k = Z.1 k := fun k h3 => by funext i f; exact h1 k i f h3
  obtain ⟨j, f, oi, ⟨r1, r2⟩, r3⟩ := i
  refine ⟨j.cg rfl (e1 2 (by decide)) j.2.2.1.2.2 (fun k i f hf => h1 k i f (fun z => by subst z; simp [stf1] at hf)) ?_ j.2.1.2.1 j.2.1.2.2.1 j.2.1.2.2.2.1 j.2.1.2.2.2.2.1 j.2.1.2.2.2.2.2.1 j.2.1.2.2.2.2.2.2 j.2.2.2.2.2.1, f.cg (Z := Z) rfl (e1 2 (by decide)) (e1 3 (by decide)) (fun _ _ => Iff.rfl), oi.cg (Z := Z) rfl (fun _ _ => rfl), ⟨r1, 0, by omega, by simp [zui]; rfl⟩, r3⟩
  obtain ⟨a1, a2, a3, a4, a5, a6⟩ := j.2.1.1
  exact ⟨a1, a2, a3, a4, a5, by simp [zui, fup]⟩
theorem inj_rule (i : INV N Z S) {k4 k5 k6 k7 : Int32} (hlt : N 3 < 12) (e : tEq S S1) (p : RUP N Z k4 k5 k6 k7 Z') (hk : k4 = S1.1 12 ∧ k5 = S1.1 13 ∧ k6 = S1.1 14 ∧ k7 = S1.1 15) (hg : (∃ k, k < 4 ∧ S1.1 12 = nI k) ∧ ∃ m, m ≤ 200 ∧ S1.1 13 = nI m) : INJ (nup N 3) Z' (m_rul S1 (N 3)) := by
  obtain ⟨p1, p2, pz, ⟨p30, p31, p32, p33, p34, p35⟩, p7, p8⟩ := p
  obtain ⟨e1, e2⟩ := e
  obtain ⟨hk4, hk5, hk6, hk7⟩ := hk
  have n3 : nup N 3 3 = N 3 + 1 := rfl
  have i1 : ∀ k i f, k ≠ 0 → k ≠ 3 → k ≠ 6 → Z'.1 k i f = Z.1 k i f := fun k i f h0 h3 h6 => p2 k i f (fun z => h0 z.1) (fun z => h3 z.1) (fun z => h6 z.1)
  have i0 : ∀ f, f ≠ 8 → Z'.1 0 0 f = Z.1 0 0 f := fun f hf => p2 0 0 f (fun z => hf z.2.2) (fun z => by simp at z) (fun z => by simp at z)
  have i3 : ∀ o f, o ≠ N 3 → Z'.1 3 o f = Z.1 3 o f := fun o f ho => p2 3 o f (fun z => by simp at z) (fun z => ho z.2) (fun z => by simp at z)
  have o1 : ∀ k i f, k ≠ 3 → k ≠ 9 → Z'.2 k i f = Z.2 k i f := fun k i f h5 h11 => p8 k i f (fun z => h5 z.1) (fun z => h11 z.1)
  have o9 : ∀ f, f ≠ N 3 → Z'.2 9 0 f = Z.2 9 0 f := fun f hf => p8 9 0 f (fun z => by simp at z) (fun z => hf z.2.2)
  have m2 : ∀ k, k ≠ 17 → k ≠ 18 → k ≠ 19 → k ≠ 20 → (m_rul S1 (N 3)).2 k = S.2 k := fun k a1 a2 a3 a4 => by
    funext j
    show aup (aup (aup (aup S1.2 17 (N 3) (S1.1 12)) 18 (N 3) (S1.1 13)) 19 (N 3) (S1.1 14)) 20 (N 3) (S1.1 15) k j = _
    rw [e1]
    simp [aup, a1, a2, a3, a4]
  have m1 : ∀ k, k ≠ 16 → k ≠ 10 → k ≠ 34 → (k < 12 ∨ 15 < k) → (m_rul S1 (N 3)).1 k = S.1 k := fun k a1 a2 a3 a4 => by
    show fup (fup (fup S1.1 34 0) 16 (nI (N 3 + 1))) 10 0 k = _
    simp [fup, a1, a2, a3]
    exact e2 k a4
  have mo : ∀ k j, j ≠ N 3 → (m_rul S1 (N 3)).2 k j = S.2 k j := fun k j hj => by
    show aup (aup (aup (aup S1.2 17 (N 3) (S1.1 12)) 18 (N 3) (S1.1 13)) 19 (N 3) (S1.1 14)) 20 (N 3) (S1.1 15) k j = _
    rw [e1]
    simp [aup, hj]
  have mn : (m_rul S1 (N 3)).2 17 (N 3) = S1.1 12 ∧ (m_rul S1 (N 3)).2 18 (N 3) = S1.1 13 ∧ (m_rul S1 (N 3)).2 19 (N 3) = S1.1 14 ∧ (m_rul S1 (N 3)).2 20 (N 3) = S1.1 15 := by
    refine ⟨?_, ?_, ?_, ?_⟩ <;> simp [m_rul, aup]
  have m16 : (m_rul S1 (N 3)).1 16 = nI (N 3 + 1) := rfl
  have m10 : (m_rul S1 (N 3)).1 10 = 0 := rfl
  generalize m_rul S1 (N 3) = S9 at m2 m1 mo mn m16 m10 ⊢
  obtain ⟨⟨st, ⟨rct, rwk, rsh, rru, rcl, rof, rtx⟩, ⟨io, ir, iu⟩, ich, iun, ist, iex⟩, jf, oi, rng, r21⟩ := i
  refine ⟨⟨?_, ⟨?_, fun v hv => ?_, fun s hs => ?_, fun r hr => ?_, fun c hc => ?_, fun o ho => ?_, fun j hj => ?_⟩, ⟨io.cg (fun w j _ => o1 14 w j (by decide) (by decide)) (fun s _ => o1 2 s 6 (by decide) (by decide)) (fun s => i1 2 s 4 (by decide) (by decide) (by decide)) rfl, fun s hs => ?_, fun r hr => ?_⟩, fun s hs => ?_, fun c c' hc hc' => ?_, fun c hc => ?_, fun c w s r hc z0 z1 z2 => ?_⟩, fun o ho => ?_, ?_, fun r h1 h2 => ?_⟩
  · obtain ⟨⟨a0, a1, a2, a3, a4, a5, a6, a7, a8⟩, b1, b2, b3, ⟨c1, c2, c3, c4, c5⟩, ⟨d1, d2, d3, d4⟩, e1, e2, e3, e4⟩ := st
    refine ⟨⟨a0, a1, a2, by rw [n3]; omega, a4, a5, a6, fun k h1 h2 => ?_, a8⟩, fun f hf => ?_, fun v hv => ?_, ?_, ⟨fun j hj => ?_, fun j hj => ?_, fun j hj => ?_, fun j hj => ?_, fun j hj => ?_⟩, ⟨?_, ?_, ?_, ?_⟩, fun s hs => ?_, fun s hs => ?_, fun c hc => ?_, fun o ho => ?_⟩
    · show (if k = 3 then N 3 + 1 else N k) = 1
      rw [if_neg (by omega)]; exact a7 k h1 h2
    · rw [o1 0 0 f (by decide) (by decide)]; exact b1 f hf
    · rw [o1 1 v 1 (by decide) (by decide), i1 1 v 0 (by decide) (by decide) (by decide)]; exact b2 v hv
    · rw [o1 6 0 0 (by decide) (by decide)]; exact b3
    · rw [o1 7 0 j (by decide) (by decide)]; exact c1 j hj
    · rw [o1 8 0 j (by decide) (by decide)]; exact c2 j hj
    · rw [n3]
      by_cases e : j = N 3
      · subst e; rw [p7, if_pos (by omega)]
      · rw [o9 j e, c3 j hj]
        by_cases e2 : j < N 3
        · rw [if_pos e2, if_pos (by omega)]
        · rw [if_neg e2, if_neg (by omega)]
    · rw [o1 10 0 j (by decide) (by decide)]; exact c4 j hj
    · rw [o1 11 0 j (by decide) (by decide)]; exact c5 j hj
    · rw [i0 7 (by decide)]; exact d1
    · rw [n3]; exact p1
    · rw [i0 9 (by decide)]; exact d3
    · rw [i0 10 (by decide)]; exact d4
    · rw [i1 2 s 0 (by decide) (by decide) (by decide)]; exact e1 s hs
    · by_cases e : s = N 3
      · subst e; exact p30
      · rw [i3 s 0 e]; exact e2 s (by rw [n3] at hs; omega)
    · rw [o1 4 c 0 (by decide) (by decide), o1 4 c 1 (by decide) (by decide), o1 4 c 2 (by decide) (by decide)]; exact e3 c hc
    · rw [o1 5 o 0 (by decide) (by decide), o1 5 o 1 (by decide) (by decide), o1 5 o 2 (by decide) (by decide)]; exact e4 o ho
  · obtain ⟨a1, a2, a3, a4, a5, a6⟩ := rct
    refine ⟨?_, m16, ?_, ?_, ?_, ?_⟩
    · rw [m1 3 (by decide) (by decide) (by decide) (by omega)]; exact a1
    · rw [m1 22 (by decide) (by decide) (by decide) (by omega)]; exact a3
    · rw [m1 28 (by decide) (by decide) (by decide) (by omega)]; exact a4
    · rw [m1 0 (by decide) (by decide) (by decide) (by omega), i0 11 (by decide)]; exact a5
    · rw [m10, pz]
  · rw [m2 1 (by decide) (by decide) (by decide) (by decide), m2 2 (by decide) (by decide) (by decide) (by decide), i1 1 v 2 (by decide) (by decide) (by decide), i1 1 v 3 (by decide) (by decide) (by decide)]; exact rwk v hv
  · rw [m2 6 (by decide) (by decide) (by decide) (by decide), m2 4 (by decide) (by decide) (by decide) (by decide), m2 5 (by decide) (by decide) (by decide) (by decide), m2 8 (by decide) (by decide) (by decide) (by decide), m2 9 (by decide) (by decide) (by decide) (by decide), m2 7 (by decide) (by decide) (by decide) (by decide), i1 2 s 1 (by decide) (by decide) (by decide), i1 2 s 2 (by decide) (by decide) (by decide), i1 2 s 3 (by decide) (by decide) (by decide), i1 2 s 4 (by decide) (by decide) (by decide), i1 2 s 5 (by decide) (by decide) (by decide), o1 2 s 6 (by decide) (by decide)]; exact rsh s hs
  · by_cases e : r = N 3
    · subst e
      rw [p31, p32, p33, p34, p35, mn.1, mn.2.1, mn.2.2.1, mn.2.2.2, m2 21 (by decide) (by decide) (by decide) (by decide)]
      exact ⟨hk4.symm, hk5.symm, hk6.symm, hk7.symm, r21 (N 3) (Nat.le_refl _) hlt⟩
    · rw [mo 17 r e, mo 18 r e, mo 19 r e, mo 20 r e, mo 21 r e, i3 r 1 e, i3 r 2 e, i3 r 3 e, i3 r 4 e, i3 r 5 e]
      exact rru r (by rw [n3] at hr; omega)
  · rw [m2 23 (by decide) (by decide) (by decide) (by decide), m2 24 (by decide) (by decide) (by decide) (by decide), m2 25 (by decide) (by decide) (by decide) (by decide), m2 26 (by decide) (by decide) (by decide) (by decide), m2 27 (by decide) (by decide) (by decide) (by decide), i1 4 c 4 (by decide) (by decide) (by decide), i1 4 c 5 (by decide) (by decide) (by decide), o1 4 c 0 (by decide) (by decide), o1 4 c 1 (by decide) (by decide), o1 4 c 2 (by decide) (by decide)]; exact rcl c hc
  · rw [m2 29 (by decide) (by decide) (by decide) (by decide), m2 30 (by decide) (by decide) (by decide) (by decide), m2 31 (by decide) (by decide) (by decide) (by decide), i1 5 o 3 (by decide) (by decide) (by decide), o1 5 o 1 (by decide) (by decide), o1 5 o 2 (by decide) (by decide)]; exact rof o ho
  · rw [m2 11 (by decide) (by decide) (by decide) (by decide), i1 13 0 j (by decide) (by decide) (by decide)]; exact rtx j hj
  · rw [i1 2 s 4 (by decide) (by decide) (by decide)]; exact ir s hs
  · by_cases e : r = N 3
    · subst e
      rw [p31, p32, hk4, hk5]
      exact hg
    · rw [i3 r 1 e, i3 r 2 e]; exact iu r (by rw [n3] at hr; omega)
  · obtain ⟨Ls, l1, l2⟩ := ich s hs
    refine ⟨Ls, ?_, fun c => by rw [o1 4 c 1 (by decide) (by decide)]; exact l2 c⟩
    rw [o1 2 s 7 (by decide) (by decide)]
    exact lnk_cg (Z := Z) Ls _ (fun c _ => o1 4 c 3 (by decide) (by decide)) l1
  · rw [o1 4 c 0 (by decide) (by decide), o1 4 c 1 (by decide) (by decide), o1 4 c 2 (by decide) (by decide), o1 4 c' 0 (by decide) (by decide), o1 4 c' 1 (by decide) (by decide), o1 4 c' 2 (by decide) (by decide)]
    exact iun c c' hc hc'
  · rw [i1 4 c 4 (by decide) (by decide) (by decide)]; exact ist c hc
  · rw [o1 4 c 0 (by decide) (by decide)] at z0
    rw [o1 4 c 1 (by decide) (by decide)] at z1
    rw [o1 4 c 2 (by decide) (by decide)] at z2
    obtain ⟨q1, q2, q3⟩ := iex c w s r hc z0 z1 z2
    exact ⟨q1, q2, by rw [n3]; omega⟩
  · obtain ⟨b0, w, g, t, b1, b2, b3, b4, b5, b6, b7⟩ := oi o ho
    rw [o1 5 o 0 (by decide) (by decide), o1 5 o 1 (by decide) (by decide), o1 5 o 2 (by decide) (by decide), i1 5 o 3 (by decide) (by decide) (by decide)]
    refine ⟨b0, w, g, t, b1, b2, b3, b4, b5, b6, fun z => ?_⟩
    rw [o1 2 g 6 (by decide) (by decide), o1 2 t 6 (by decide) (by decide)]
    exact b7 z
  · rw [i0 11 (by decide), pz]
    exact ⟨rng.1, 0, by omega, rfl⟩
  · rw [n3] at h1
    rw [m2 21 (by decide) (by decide) (by decide) (by decide)]
    exact r21 r (by omega) h2
end O9A
section O9
variable {N : Nat → Nat} {Z : ZS} {S : MS}
theorem o_put (inv : INV N Z S) {nl : Nat} (hl : nl ≤ 40) (sn : S.1 10 = nI nl) (x : Int32) : OP iX6_put [.int x] [eIA, eIS] 2 20 N Z S (m_put S nl x).1 (m_put S nl x).2 := by
  have en : Z.1 6 0 1 = nI nl := inv.s10.symm.trans sn
  intro l D b h ad hfl rr
  have hx0 := inv.st.n0
  have h6 := inv.st.n6
  refine v_entry iX6_put pl6 mX6_put (by simp only [List.forall_mem_cons, List.not_mem_nil, false_implies, cat_o, cat_r, cat_i, cat_n, and_self, implies_true]) hfl ?_
  rintro ⟨⟨p, l9, e, R⟩, ⟨sz, mi, args, below⟩, ⟨meth, cx, D9, b9⟩, ⟨P, X, mc, ms⟩⟩ rfl rfl rfl hPX K
  injection hPX with hP hPX
  injection hPX with hX hPX
  injection hPX with hMC hMS
  subst hMC hMS
  have hPe := fun r h9 => congrFun (congrFun hP r) h9
  refine ry1_ok K FokX6 none noini [] 60 ?_
  simp only [ry1_s, ry_s, ry_0, hit, true_and, and_true, List.map_cons, List.map_nil, List.length_cons, List.length_nil, List.replicate, List.cons_append, List.nil_append, List.append_nil, List.length_append, List.set_cons_zero, List.set_cons_succ, lgt_0, lgt_s, lhas_0, lhas_s, isI_i, isRf_r, isRf_n, inc_i, of1, ofm1, rokI_i, rokI_0, rokI_1, rokI_b, okv_i, okv_z0, okv_z1, okv_or, okv_on, okv_ar, okv_b, isA_s, alen_s, cat_i, cat_r, cat_n, finC_s, hPe, rv, nar1, nar0,  b2i_0, oI_n, oI_s, d24, d168, d100, Int32.le_refl, vpT, nIc8, nIc12, nIc40, nIc200, hup_at, and_self, and_false, false_and, Nat.reduceEqDiff, Nat.reduceEqDiff, reduceCtorEq, ie_m1_0, il_m1_0, ie_m1_1, il_m1_1, ie_m1_2, il_m1_2, ie_m1_3, il_m1_3, ie_m1_4, ie_m1_5, ie_m1_6, ie_m1_7, ie_m1_8, ie_0_m1, il_0_0, ie_0_1, il_0_1, ie_0_2, il_0_2, ie_0_3, il_0_3, ie_0_4, ie_0_5, ie_0_6, ie_0_7, ie_0_8, ie_1_m1, ie_1_0, il_1_0, il_1_1, ie_1_2, il_1_2, ie_1_3, il_1_3, ie_1_4, ie_1_5, ie_1_6, ie_1_7, ie_1_8, ie_2_m1, ie_2_0, il_2_0, ie_2_1, il_2_1, il_2_2, ie_2_3, il_2_3, ie_2_4, ie_2_5, ie_2_6, ie_2_7, ie_2_8, ie_3_m1, ie_3_0, il_3_0, ie_3_1, il_3_1, ie_3_2, il_3_2, il_3_3, ie_3_4, ie_3_5, ie_3_6, ie_3_7, ie_3_8, ie_4_m1, ie_4_0, il_4_0, ie_4_1, il_4_1, ie_4_2, il_4_2, ie_4_3, il_4_3, ie_4_5, ie_4_6, ie_4_7, ie_4_8, ie_5_m1, ie_5_0, il_5_0, ie_5_1, il_5_1, ie_5_2, il_5_2, ie_5_3, il_5_3, ie_5_4, ie_5_6, ie_5_7, ie_5_8, ie_6_m1, ie_6_0, il_6_0, ie_6_1, il_6_1, ie_6_2, il_6_2, ie_6_3, il_6_3, ie_6_4, ie_6_5, ie_6_7, ie_6_8, ie_7_m1, ie_7_0, il_7_0, ie_7_1, il_7_1, ie_7_2, il_7_2, ie_7_3, il_7_3, ie_7_4, ie_7_5, ie_7_6, ie_7_8, ie_8_m1, ie_8_0, il_8_0, ie_8_1, il_8_1, ie_8_2, il_8_2, ie_8_3, il_8_3, ie_8_4, ie_8_5, ie_8_6, ie_8_7, Nat.reduceAdd, Nat.reduceSub, Nat.reduceLT, Nat.reduceLeDiff, Nat.reduceBEq, Bool.or_false, Bool.false_or, Bool.or_true, Bool.true_or, Bool.or_self, Bool.false_eq_true, ↓reduceIte, Nat.le_refl, Nat.zero_le, nI_p1, Option.toList, not_true_eq_false, not_false_eq_true, isRf_o, isR_o, isR_a, cat_o, okv_fo, okv_fa, orf_s, orf_n, both_t, both_f, rfn_n, rfn_s, eq_self, forall_const, qX6_put_0, qX6_put_1, qX6_put_4, qX6_put_7, qX6_put_10, qX6_put_11, qX6_put_13, qX6_put_16, qX6_put_17, qX6_put_18, qX6_put_21, qX6_put_24, qX6_put_27, qX6_put_30, qX6_put_31, qX6_put_33, qX6_put_36, qX6_put_37, qX6_put_38, qX6_put_41, qX6_put_42, qX6_put_45, qX6_put_46, qX6_put_49, qX6_put_52]
  refine v_callS K (u_isAllowed hfl x) kX6_156 rfl (by decide) rfl (Nat.le_of_ble_eq_true rfl) rfl dX6_put_1 ⟨by omega, by omega⟩ (fun _ _ z => z.elim) ?_
  rintro _ h9 ⟨rfl, e9⟩
  have e9 := e9.symm
  subst e9
  by_cases q : (65 ≤ x ∧ x ≤ 90) ∨ (48 ≤ x ∧ x ≤ 57) ∨ x = 32
  · have hxr : 0 ≤ x ∧ x ≤ 65535 := by
      rcases q with z | z | z
      · exact ⟨Int32.le_trans (by decide) z.1, Int32.le_trans z.2 (by decide)⟩
      · exact ⟨Int32.le_trans (by decide) z.1, Int32.le_trans z.2 (by decide)⟩
      · rw [z]; decide
    refine ry1_ok K FokX6 none noini [] 60 ?_
    simp only [ry1_s, ry_s, ry_0, hit, true_and, and_true, List.map_cons, List.map_nil, List.length_cons, List.length_nil, List.replicate, List.cons_append, List.nil_append, List.append_nil, List.length_append, List.set_cons_zero, List.set_cons_succ, lgt_0, lgt_s, lhas_0, lhas_s, isI_i, isRf_r, isRf_n, inc_i, of1, ofm1, rokI_i, rokI_0, rokI_1, rokI_b, okv_i, okv_z0, okv_z1, okv_or, okv_on, okv_ar, okv_b, isA_s, alen_s, cat_i, cat_r, cat_n, finC_s, hPe, rv, nar1, nar0,  b2i_0, oI_n, oI_s, d24, d168, d100, Int32.le_refl, vpT, nIc8, nIc12, nIc40, nIc200, hup_at, and_self, and_false, false_and, Nat.reduceEqDiff, Nat.reduceEqDiff, reduceCtorEq, ie_m1_0, il_m1_0, ie_m1_1, il_m1_1, ie_m1_2, il_m1_2, ie_m1_3, il_m1_3, ie_m1_4, ie_m1_5, ie_m1_6, ie_m1_7, ie_m1_8, ie_0_m1, il_0_0, ie_0_1, il_0_1, ie_0_2, il_0_2, ie_0_3, il_0_3, ie_0_4, ie_0_5, ie_0_6, ie_0_7, ie_0_8, ie_1_m1, ie_1_0, il_1_0, il_1_1, ie_1_2, il_1_2, ie_1_3, il_1_3, ie_1_4, ie_1_5, ie_1_6, ie_1_7, ie_1_8, ie_2_m1, ie_2_0, il_2_0, ie_2_1, il_2_1, il_2_2, ie_2_3, il_2_3, ie_2_4, ie_2_5, ie_2_6, ie_2_7, ie_2_8, ie_3_m1, ie_3_0, il_3_0, ie_3_1, il_3_1, ie_3_2, il_3_2, il_3_3, ie_3_4, ie_3_5, ie_3_6, ie_3_7, ie_3_8, ie_4_m1, ie_4_0, il_4_0, ie_4_1, il_4_1, ie_4_2, il_4_2, ie_4_3, il_4_3, ie_4_5, ie_4_6, ie_4_7, ie_4_8, ie_5_m1, ie_5_0, il_5_0, ie_5_1, il_5_1, ie_5_2, il_5_2, ie_5_3, il_5_3, ie_5_4, ie_5_6, ie_5_7, ie_5_8, ie_6_m1, ie_6_0, il_6_0, ie_6_1, il_6_1, ie_6_2, il_6_2, ie_6_3, il_6_3, ie_6_4, ie_6_5, ie_6_7, ie_6_8, ie_7_m1, ie_7_0, il_7_0, ie_7_1, il_7_1, ie_7_2, il_7_2, ie_7_3, il_7_3, ie_7_4, ie_7_5, ie_7_6, ie_7_8, ie_8_m1, ie_8_0, il_8_0, ie_8_1, il_8_1, ie_8_2, il_8_2, ie_8_3, il_8_3, ie_8_4, ie_8_5, ie_8_6, ie_8_7, Nat.reduceAdd, Nat.reduceSub, Nat.reduceLT, Nat.reduceLeDiff, Nat.reduceBEq, Bool.or_false, Bool.false_or, Bool.or_true, Bool.true_or, Bool.or_self, Bool.false_eq_true, ↓reduceIte, Nat.le_refl, Nat.zero_le, nI_p1, Option.toList, not_true_eq_false, not_false_eq_true, isRf_o, isR_o, isR_a, cat_o, okv_fo, okv_fa, orf_s, orf_n, both_t, both_f, rfn_n, rfn_s, eq_self, forall_const, qX6_put_0, qX6_put_1, qX6_put_4, qX6_put_7, qX6_put_10, qX6_put_11, qX6_put_13, qX6_put_16, qX6_put_17, qX6_put_18, qX6_put_21, qX6_put_24, qX6_put_27, qX6_put_30, qX6_put_31, qX6_put_33, qX6_put_36, qX6_put_37, qX6_put_38, qX6_put_41, qX6_put_42, qX6_put_45, qX6_put_46, qX6_put_49, qX6_put_52, q, decide_true, b2i_t, rr.k0 hx0, rr.f0_0 hx0, rr.f0_1 hx0, rr.f0_2 hx0, rr.f0_3 hx0, rr.f0_4 hx0, rr.f0_5 hx0, rr.f0_6 hx0, rr.f0_7 hx0, rr.f0_8 hx0, rr.f0_9 hx0, rr.f0_10 hx0, rr.f0_11 hx0, inv.st.x (f := 6) (by decide)]
    refine v_callV K (u_isFull hfl rr inv.st en hl) kX6_162 rfl (rr.k6 h6) rfl (by decide) rfl (Nat.le_of_ble_eq_true rfl) rfl dX6_put_21 ⟨by omega, by omega⟩ (fun _ _ z => z.elim) ?_; rintro _ h9 ⟨rfl, e9⟩; have e9 := e9.symm; subst e9
    by_cases q2 : nl < 40
    · have em : m_put S nl x = (nI (nl + 1), (fup (thr S 0).1 10 (nI (nl + 1)), aup S.2 11 nl x)) := by unfold m_put; rw [if_pos q, if_pos q2]
      rw [em] at hPe
      refine ry1_ok K FokX6 none noini [] 60 ?_
      simp only [ry1_s, ry_s, ry_0, hit, true_and, and_true, List.map_cons, List.map_nil, List.length_cons, List.length_nil, List.replicate, List.cons_append, List.nil_append, List.append_nil, List.length_append, List.set_cons_zero, List.set_cons_succ, lgt_0, lgt_s, lhas_0, lhas_s, isI_i, isRf_r, isRf_n, inc_i, of1, ofm1, rokI_i, rokI_0, rokI_1, rokI_b, okv_i, okv_z0, okv_z1, okv_or, okv_on, okv_ar, okv_b, isA_s, alen_s, cat_i, cat_r, cat_n, finC_s, hPe, rv, nar1, nar0,  b2i_0, oI_n, oI_s, d24, d168, d100, Int32.le_refl, vpT, nIc8, nIc12, nIc40, nIc200, hup_at, and_self, and_false, false_and, Nat.reduceEqDiff, Nat.reduceEqDiff, reduceCtorEq, ie_m1_0, il_m1_0, ie_m1_1, il_m1_1, ie_m1_2, il_m1_2, ie_m1_3, il_m1_3, ie_m1_4, ie_m1_5, ie_m1_6, ie_m1_7, ie_m1_8, ie_0_m1, il_0_0, ie_0_1, il_0_1, ie_0_2, il_0_2, ie_0_3, il_0_3, ie_0_4, ie_0_5, ie_0_6, ie_0_7, ie_0_8, ie_1_m1, ie_1_0, il_1_0, il_1_1, ie_1_2, il_1_2, ie_1_3, il_1_3, ie_1_4, ie_1_5, ie_1_6, ie_1_7, ie_1_8, ie_2_m1, ie_2_0, il_2_0, ie_2_1, il_2_1, il_2_2, ie_2_3, il_2_3, ie_2_4, ie_2_5, ie_2_6, ie_2_7, ie_2_8, ie_3_m1, ie_3_0, il_3_0, ie_3_1, il_3_1, ie_3_2, il_3_2, il_3_3, ie_3_4, ie_3_5, ie_3_6, ie_3_7, ie_3_8, ie_4_m1, ie_4_0, il_4_0, ie_4_1, il_4_1, ie_4_2, il_4_2, ie_4_3, il_4_3, ie_4_5, ie_4_6, ie_4_7, ie_4_8, ie_5_m1, ie_5_0, il_5_0, ie_5_1, il_5_1, ie_5_2, il_5_2, ie_5_3, il_5_3, ie_5_4, ie_5_6, ie_5_7, ie_5_8, ie_6_m1, ie_6_0, il_6_0, ie_6_1, il_6_1, ie_6_2, il_6_2, ie_6_3, il_6_3, ie_6_4, ie_6_5, ie_6_7, ie_6_8, ie_7_m1, ie_7_0, il_7_0, ie_7_1, il_7_1, ie_7_2, il_7_2, ie_7_3, il_7_3, ie_7_4, ie_7_5, ie_7_6, ie_7_8, ie_8_m1, ie_8_0, il_8_0, ie_8_1, il_8_1, ie_8_2, il_8_2, ie_8_3, il_8_3, ie_8_4, ie_8_5, ie_8_6, ie_8_7, Nat.reduceAdd, Nat.reduceSub, Nat.reduceLT, Nat.reduceLeDiff, Nat.reduceBEq, Bool.or_false, Bool.false_or, Bool.or_true, Bool.true_or, Bool.or_self, Bool.false_eq_true, ↓reduceIte, Nat.le_refl, Nat.zero_le, nI_p1, Option.toList, not_true_eq_false, not_false_eq_true, isRf_o, isR_o, isR_a, cat_o, okv_fo, okv_fa, orf_s, orf_n, both_t, both_f, rfn_n, rfn_s, eq_self, forall_const, qX6_put_0, qX6_put_1, qX6_put_4, qX6_put_7, qX6_put_10, qX6_put_11, qX6_put_13, qX6_put_16, qX6_put_17, qX6_put_18, qX6_put_21, qX6_put_24, qX6_put_27, qX6_put_30, qX6_put_31, qX6_put_33, qX6_put_36, qX6_put_37, qX6_put_38, qX6_put_41, qX6_put_42, qX6_put_45, qX6_put_46, qX6_put_49, qX6_put_52, q2, decide_false, b2i_f, rr.k0 hx0, rr.f0_0 hx0, rr.f0_1 hx0, rr.f0_2 hx0, rr.f0_3 hx0, rr.f0_4 hx0, rr.f0_5 hx0, rr.f0_6 hx0, rr.f0_7 hx0, rr.f0_8 hx0, rr.f0_9 hx0, rr.f0_10 hx0, rr.f0_11 hx0, inv.st.x (f := 6) (by decide)]
      refine v_callV K (u_append hfl rr inv.st en q2 hxr) kX6_168 rfl (rr.k6 h6) rfl (by decide) rfl (Nat.le_of_ble_eq_true rfl) rfl dX6_put_42 ⟨by omega, by omega⟩ (fun _ _ z => z.elim) ?_; rintro _ h2 ⟨rfl, t2⟩
      have inv2 := inv_put inv q2 hxr
      have rr2 := t2.1
      have e61 : (zui (zui Z.1 13 0 nl x) 6 0 1 (nI (nl + 1))) 6 0 1 = nI (nl + 1) := by simp [zui]
      refine ry1_ok K FokX6 none noini [] 60 ?_
      simp only [ry1_s, ry_s, ry_0, hit, true_and, and_true, List.map_cons, List.map_nil, List.length_cons, List.length_nil, List.replicate, List.cons_append, List.nil_append, List.append_nil, List.length_append, List.set_cons_zero, List.set_cons_succ, lgt_0, lgt_s, lhas_0, lhas_s, isI_i, isRf_r, isRf_n, inc_i, of1, ofm1, rokI_i, rokI_0, rokI_1, rokI_b, okv_i, okv_z0, okv_z1, okv_or, okv_on, okv_ar, okv_b, isA_s, alen_s, cat_i, cat_r, cat_n, finC_s, hPe, rv, nar1, nar0,  b2i_0, oI_n, oI_s, d24, d168, d100, Int32.le_refl, vpT, nIc8, nIc12, nIc40, nIc200, hup_at, and_self, and_false, false_and, Nat.reduceEqDiff, Nat.reduceEqDiff, reduceCtorEq, ie_m1_0, il_m1_0, ie_m1_1, il_m1_1, ie_m1_2, il_m1_2, ie_m1_3, il_m1_3, ie_m1_4, ie_m1_5, ie_m1_6, ie_m1_7, ie_m1_8, ie_0_m1, il_0_0, ie_0_1, il_0_1, ie_0_2, il_0_2, ie_0_3, il_0_3, ie_0_4, ie_0_5, ie_0_6, ie_0_7, ie_0_8, ie_1_m1, ie_1_0, il_1_0, il_1_1, ie_1_2, il_1_2, ie_1_3, il_1_3, ie_1_4, ie_1_5, ie_1_6, ie_1_7, ie_1_8, ie_2_m1, ie_2_0, il_2_0, ie_2_1, il_2_1, il_2_2, ie_2_3, il_2_3, ie_2_4, ie_2_5, ie_2_6, ie_2_7, ie_2_8, ie_3_m1, ie_3_0, il_3_0, ie_3_1, il_3_1, ie_3_2, il_3_2, il_3_3, ie_3_4, ie_3_5, ie_3_6, ie_3_7, ie_3_8, ie_4_m1, ie_4_0, il_4_0, ie_4_1, il_4_1, ie_4_2, il_4_2, ie_4_3, il_4_3, ie_4_5, ie_4_6, ie_4_7, ie_4_8, ie_5_m1, ie_5_0, il_5_0, ie_5_1, il_5_1, ie_5_2, il_5_2, ie_5_3, il_5_3, ie_5_4, ie_5_6, ie_5_7, ie_5_8, ie_6_m1, ie_6_0, il_6_0, ie_6_1, il_6_1, ie_6_2, il_6_2, ie_6_3, il_6_3, ie_6_4, ie_6_5, ie_6_7, ie_6_8, ie_7_m1, ie_7_0, il_7_0, ie_7_1, il_7_1, ie_7_2, il_7_2, ie_7_3, il_7_3, ie_7_4, ie_7_5, ie_7_6, ie_7_8, ie_8_m1, ie_8_0, il_8_0, ie_8_1, il_8_1, ie_8_2, il_8_2, ie_8_3, il_8_3, ie_8_4, ie_8_5, ie_8_6, ie_8_7, Nat.reduceAdd, Nat.reduceSub, Nat.reduceLT, Nat.reduceLeDiff, Nat.reduceBEq, Bool.or_false, Bool.false_or, Bool.or_true, Bool.true_or, Bool.or_self, Bool.false_eq_true, ↓reduceIte, Nat.le_refl, Nat.zero_le, nI_p1, Option.toList, not_true_eq_false, not_false_eq_true, isRf_o, isR_o, isR_a, cat_o, okv_fo, okv_fa, orf_s, orf_n, both_t, both_f, rfn_n, rfn_s, eq_self, forall_const, qX6_put_0, qX6_put_1, qX6_put_4, qX6_put_7, qX6_put_10, qX6_put_11, qX6_put_13, qX6_put_16, qX6_put_17, qX6_put_18, qX6_put_21, qX6_put_24, qX6_put_27, qX6_put_30, qX6_put_31, qX6_put_33, qX6_put_36, qX6_put_37, qX6_put_38, qX6_put_41, qX6_put_42, qX6_put_45, qX6_put_46, qX6_put_49, qX6_put_52, rr2.k0 hx0, rr2.f0_0 hx0, rr2.f0_1 hx0, rr2.f0_2 hx0, rr2.f0_3 hx0, rr2.f0_4 hx0, rr2.f0_5 hx0, rr2.f0_6 hx0, rr2.f0_7 hx0, rr2.f0_8 hx0, rr2.f0_9 hx0, rr2.f0_10 hx0, rr2.f0_11 hx0, inv.st.x (f := 6) (by decide), rr2.k6 h6, rr2.f6_0 h6, rr2.f6_1 h6, rr2.f6_2 h6, rr2.f6_3 h6, rr2.f6_4 h6, rr2.f6_5 h6, rr2.f6_6 h6, rr2.f6_7 h6, e61]
      exact PC.put t2 inv2 rfl
    · have em : m_put S nl x = (0, thr S 2) := by unfold m_put; rw [if_pos q, if_neg q2]
      rw [em] at hX
      refine ry1_ok K FokX6 none noini [27] 60 ?_
      simp only [ry1_s, ry_s, ry_0, hit, true_and, and_true, List.map_cons, List.map_nil, List.length_cons, List.length_nil, List.replicate, List.cons_append, List.nil_append, List.append_nil, List.length_append, List.set_cons_zero, List.set_cons_succ, lgt_0, lgt_s, lhas_0, lhas_s, isI_i, isRf_r, isRf_n, inc_i, of1, ofm1, rokI_i, rokI_0, rokI_1, rokI_b, okv_i, okv_z0, okv_z1, okv_or, okv_on, okv_ar, okv_b, isA_s, alen_s, cat_i, cat_r, cat_n, finC_s, hPe, rv, nar1, nar0,  b2i_0, oI_n, oI_s, d24, d168, d100, Int32.le_refl, vpT, nIc8, nIc12, nIc40, nIc200, hup_at, and_self, and_false, false_and, Nat.reduceEqDiff, Nat.reduceEqDiff, reduceCtorEq, ie_m1_0, il_m1_0, ie_m1_1, il_m1_1, ie_m1_2, il_m1_2, ie_m1_3, il_m1_3, ie_m1_4, ie_m1_5, ie_m1_6, ie_m1_7, ie_m1_8, ie_0_m1, il_0_0, ie_0_1, il_0_1, ie_0_2, il_0_2, ie_0_3, il_0_3, ie_0_4, ie_0_5, ie_0_6, ie_0_7, ie_0_8, ie_1_m1, ie_1_0, il_1_0, il_1_1, ie_1_2, il_1_2, ie_1_3, il_1_3, ie_1_4, ie_1_5, ie_1_6, ie_1_7, ie_1_8, ie_2_m1, ie_2_0, il_2_0, ie_2_1, il_2_1, il_2_2, ie_2_3, il_2_3, ie_2_4, ie_2_5, ie_2_6, ie_2_7, ie_2_8, ie_3_m1, ie_3_0, il_3_0, ie_3_1, il_3_1, ie_3_2, il_3_2, il_3_3, ie_3_4, ie_3_5, ie_3_6, ie_3_7, ie_3_8, ie_4_m1, ie_4_0, il_4_0, ie_4_1, il_4_1, ie_4_2, il_4_2, ie_4_3, il_4_3, ie_4_5, ie_4_6, ie_4_7, ie_4_8, ie_5_m1, ie_5_0, il_5_0, ie_5_1, il_5_1, ie_5_2, il_5_2, ie_5_3, il_5_3, ie_5_4, ie_5_6, ie_5_7, ie_5_8, ie_6_m1, ie_6_0, il_6_0, ie_6_1, il_6_1, ie_6_2, il_6_2, ie_6_3, il_6_3, ie_6_4, ie_6_5, ie_6_7, ie_6_8, ie_7_m1, ie_7_0, il_7_0, ie_7_1, il_7_1, ie_7_2, il_7_2, ie_7_3, il_7_3, ie_7_4, ie_7_5, ie_7_6, ie_7_8, ie_8_m1, ie_8_0, il_8_0, ie_8_1, il_8_1, ie_8_2, il_8_2, ie_8_3, il_8_3, ie_8_4, ie_8_5, ie_8_6, ie_8_7, Nat.reduceAdd, Nat.reduceSub, Nat.reduceLT, Nat.reduceLeDiff, Nat.reduceBEq, Bool.or_false, Bool.false_or, Bool.or_true, Bool.true_or, Bool.or_self, Bool.false_eq_true, ↓reduceIte, Nat.le_refl, Nat.zero_le, nI_p1, Option.toList, not_true_eq_false, not_false_eq_true, isRf_o, isR_o, isR_a, cat_o, okv_fo, okv_fa, orf_s, orf_n, both_t, both_f, rfn_n, rfn_s, eq_self, forall_const, qX6_put_0, qX6_put_1, qX6_put_4, qX6_put_7, qX6_put_10, qX6_put_11, qX6_put_13, qX6_put_16, qX6_put_17, qX6_put_18, qX6_put_21, qX6_put_24, qX6_put_27, qX6_put_30, qX6_put_31, qX6_put_33, qX6_put_36, qX6_put_37, qX6_put_38, qX6_put_41, qX6_put_42, qX6_put_45, qX6_put_46, qX6_put_49, qX6_put_52, q2, not_false_eq_true, decide_true, b2i_t]
      refine v_thr K (RX6, 166, "the text has 40 characters", 10) (List.mem_of_getElem? (i := 10) rfl) ⟨rfl, rfl⟩ (by decide) (by decide) gIS dX6_put_27 dX6_put_30 dX6_put_31 dX6_put_33 dX6_put_36 rfl (by decide) (by decide) ⟨by decide, by decide⟩ ?_
      rw [hX]
      exact XC.same rr inv 1 rfl
  · have em : m_put S nl x = (0, thr S 1) := by unfold m_put; rw [if_neg q]
    rw [em] at hX
    refine ry1_ok K FokX6 none noini [7] 60 ?_
    simp only [ry1_s, ry_s, ry_0, hit, true_and, and_true, List.map_cons, List.map_nil, List.length_cons, List.length_nil, List.replicate, List.cons_append, List.nil_append, List.append_nil, List.length_append, List.set_cons_zero, List.set_cons_succ, lgt_0, lgt_s, lhas_0, lhas_s, isI_i, isRf_r, isRf_n, inc_i, of1, ofm1, rokI_i, rokI_0, rokI_1, rokI_b, okv_i, okv_z0, okv_z1, okv_or, okv_on, okv_ar, okv_b, isA_s, alen_s, cat_i, cat_r, cat_n, finC_s, hPe, rv, nar1, nar0,  b2i_0, oI_n, oI_s, d24, d168, d100, Int32.le_refl, vpT, nIc8, nIc12, nIc40, nIc200, hup_at, and_self, and_false, false_and, Nat.reduceEqDiff, Nat.reduceEqDiff, reduceCtorEq, ie_m1_0, il_m1_0, ie_m1_1, il_m1_1, ie_m1_2, il_m1_2, ie_m1_3, il_m1_3, ie_m1_4, ie_m1_5, ie_m1_6, ie_m1_7, ie_m1_8, ie_0_m1, il_0_0, ie_0_1, il_0_1, ie_0_2, il_0_2, ie_0_3, il_0_3, ie_0_4, ie_0_5, ie_0_6, ie_0_7, ie_0_8, ie_1_m1, ie_1_0, il_1_0, il_1_1, ie_1_2, il_1_2, ie_1_3, il_1_3, ie_1_4, ie_1_5, ie_1_6, ie_1_7, ie_1_8, ie_2_m1, ie_2_0, il_2_0, ie_2_1, il_2_1, il_2_2, ie_2_3, il_2_3, ie_2_4, ie_2_5, ie_2_6, ie_2_7, ie_2_8, ie_3_m1, ie_3_0, il_3_0, ie_3_1, il_3_1, ie_3_2, il_3_2, il_3_3, ie_3_4, ie_3_5, ie_3_6, ie_3_7, ie_3_8, ie_4_m1, ie_4_0, il_4_0, ie_4_1, il_4_1, ie_4_2, il_4_2, ie_4_3, il_4_3, ie_4_5, ie_4_6, ie_4_7, ie_4_8, ie_5_m1, ie_5_0, il_5_0, ie_5_1, il_5_1, ie_5_2, il_5_2, ie_5_3, il_5_3, ie_5_4, ie_5_6, ie_5_7, ie_5_8, ie_6_m1, ie_6_0, il_6_0, ie_6_1, il_6_1, ie_6_2, il_6_2, ie_6_3, il_6_3, ie_6_4, ie_6_5, ie_6_7, ie_6_8, ie_7_m1, ie_7_0, il_7_0, ie_7_1, il_7_1, ie_7_2, il_7_2, ie_7_3, il_7_3, ie_7_4, ie_7_5, ie_7_6, ie_7_8, ie_8_m1, ie_8_0, il_8_0, ie_8_1, il_8_1, ie_8_2, il_8_2, ie_8_3, il_8_3, ie_8_4, ie_8_5, ie_8_6, ie_8_7, Nat.reduceAdd, Nat.reduceSub, Nat.reduceLT, Nat.reduceLeDiff, Nat.reduceBEq, Bool.or_false, Bool.false_or, Bool.or_true, Bool.true_or, Bool.or_self, Bool.false_eq_true, ↓reduceIte, Nat.le_refl, Nat.zero_le, nI_p1, Option.toList, not_true_eq_false, not_false_eq_true, isRf_o, isR_o, isR_a, cat_o, okv_fo, okv_fa, orf_s, orf_n, both_t, both_f, rfn_n, rfn_s, eq_self, forall_const, qX6_put_0, qX6_put_1, qX6_put_4, qX6_put_7, qX6_put_10, qX6_put_11, qX6_put_13, qX6_put_16, qX6_put_17, qX6_put_18, qX6_put_21, qX6_put_24, qX6_put_27, qX6_put_30, qX6_put_31, qX6_put_33, qX6_put_36, qX6_put_37, qX6_put_38, qX6_put_41, qX6_put_42, qX6_put_45, qX6_put_46, qX6_put_49, qX6_put_52, q, decide_false, b2i_f]
    refine v_thr K (RX6, 160, "a character is A to Z, 0 to 9, or a space", 9) (List.mem_of_getElem? (i := 9) rfl) ⟨rfl, rfl⟩ (by decide) (by decide) gIA dX6_put_7 dX6_put_10 dX6_put_11 dX6_put_13 dX6_put_16 rfl (by decide) (by decide) ⟨by decide, by decide⟩ ?_
    rw [hX]
    exact XC.same rr inv 0 rfl
theorem o_empty (inv : INV N Z S)  : OP iX6_empty [] [] 2 20 N Z S (S.1 10) (fup (thr S 0).1 10 0, S.2) := by
  intro l D b h ad hfl rr
  have hx0 := inv.st.n0
  have h6 := inv.st.n6
  rw [inv.s10]
  refine v_entry iX6_empty pl6 mX6_empty (by simp only [List.forall_mem_cons, List.not_mem_nil, false_implies, cat_o, cat_r, cat_i, cat_n, and_self, implies_true]) hfl ?_
  rintro ⟨⟨p, l9, e, R⟩, ⟨sz, mi, args, below⟩, ⟨meth, cx, D9, b9⟩, ⟨P, X, mc, ms⟩⟩ rfl rfl rfl hPX K
  injection hPX with hP hPX
  injection hPX with hX hPX
  injection hPX with hMC hMS
  subst hMC hMS
  have hPe := fun r h9 => congrFun (congrFun hP r) h9
  refine ry1_ok K FokX6 none noini [] 60 ?_
  simp only [ry1_s, ry_s, ry_0, hit, true_and, and_true, List.map_cons, List.map_nil, List.length_cons, List.length_nil, List.replicate, List.cons_append, List.nil_append, List.append_nil, List.length_append, List.set_cons_zero, List.set_cons_succ, lgt_0, lgt_s, lhas_0, lhas_s, isI_i, isRf_r, isRf_n, inc_i, of1, ofm1, rokI_i, rokI_0, rokI_1, rokI_b, okv_i, okv_z0, okv_z1, okv_or, okv_on, okv_ar, okv_b, isA_s, alen_s, cat_i, cat_r, cat_n, finC_s, hPe, rv, nar1, nar0,  b2i_0, oI_n, oI_s, d24, d168, d100, Int32.le_refl, vpT, nIc8, nIc12, nIc40, nIc200, hup_at, and_self, and_false, false_and, Nat.reduceEqDiff, Nat.reduceEqDiff, reduceCtorEq, ie_m1_0, il_m1_0, ie_m1_1, il_m1_1, ie_m1_2, il_m1_2, ie_m1_3, il_m1_3, ie_m1_4, ie_m1_5, ie_m1_6, ie_m1_7, ie_m1_8, ie_0_m1, il_0_0, ie_0_1, il_0_1, ie_0_2, il_0_2, ie_0_3, il_0_3, ie_0_4, ie_0_5, ie_0_6, ie_0_7, ie_0_8, ie_1_m1, ie_1_0, il_1_0, il_1_1, ie_1_2, il_1_2, ie_1_3, il_1_3, ie_1_4, ie_1_5, ie_1_6, ie_1_7, ie_1_8, ie_2_m1, ie_2_0, il_2_0, ie_2_1, il_2_1, il_2_2, ie_2_3, il_2_3, ie_2_4, ie_2_5, ie_2_6, ie_2_7, ie_2_8, ie_3_m1, ie_3_0, il_3_0, ie_3_1, il_3_1, ie_3_2, il_3_2, il_3_3, ie_3_4, ie_3_5, ie_3_6, ie_3_7, ie_3_8, ie_4_m1, ie_4_0, il_4_0, ie_4_1, il_4_1, ie_4_2, il_4_2, ie_4_3, il_4_3, ie_4_5, ie_4_6, ie_4_7, ie_4_8, ie_5_m1, ie_5_0, il_5_0, ie_5_1, il_5_1, ie_5_2, il_5_2, ie_5_3, il_5_3, ie_5_4, ie_5_6, ie_5_7, ie_5_8, ie_6_m1, ie_6_0, il_6_0, ie_6_1, il_6_1, ie_6_2, il_6_2, ie_6_3, il_6_3, ie_6_4, ie_6_5, ie_6_7, ie_6_8, ie_7_m1, ie_7_0, il_7_0, ie_7_1, il_7_1, ie_7_2, il_7_2, ie_7_3, il_7_3, ie_7_4, ie_7_5, ie_7_6, ie_7_8, ie_8_m1, ie_8_0, il_8_0, ie_8_1, il_8_1, ie_8_2, il_8_2, ie_8_3, il_8_3, ie_8_4, ie_8_5, ie_8_6, ie_8_7, Nat.reduceAdd, Nat.reduceSub, Nat.reduceLT, Nat.reduceLeDiff, Nat.reduceBEq, Bool.or_false, Bool.false_or, Bool.or_true, Bool.true_or, Bool.or_self, Bool.false_eq_true, ↓reduceIte, Nat.le_refl, Nat.zero_le, nI_p1, Option.toList, not_true_eq_false, not_false_eq_true, isRf_o, isR_o, isR_a, cat_o, okv_fo, okv_fa, orf_s, orf_n, both_t, both_f, rfn_n, rfn_s, eq_self, forall_const, qX6_empty_0, qX6_empty_1, qX6_empty_4, qX6_empty_7, qX6_empty_8, qX6_empty_9, qX6_empty_12, qX6_empty_15, qX6_empty_16, rr.k0 hx0, rr.f0_0 hx0, rr.f0_1 hx0, rr.f0_2 hx0, rr.f0_3 hx0, rr.f0_4 hx0, rr.f0_5 hx0, rr.f0_6 hx0, rr.f0_7 hx0, rr.f0_8 hx0, rr.f0_9 hx0, rr.f0_10 hx0, rr.f0_11 hx0, inv.st.x (f := 6) (by decide), rr.k6 h6, rr.f6_0 h6, rr.f6_1 h6, rr.f6_2 h6, rr.f6_3 h6, rr.f6_4 h6, rr.f6_5 h6, rr.f6_6 h6, rr.f6_7 h6]
  refine v_callV K (u_clear hfl rr inv.st) kX6_175 rfl (rr.k6 h6) rfl (by decide) rfl (Nat.le_of_ble_eq_true rfl) rfl dX6_empty_12 ⟨by omega, by omega⟩ (fun _ _ z => z.elim) ?_; rintro _ h2 ⟨rfl, t2⟩
  refine ry1_ok K FokX6 none noini [] 60 ?_
  simp only [ry1_s, ry_s, ry_0, hit, true_and, and_true, List.map_cons, List.map_nil, List.length_cons, List.length_nil, List.replicate, List.cons_append, List.nil_append, List.append_nil, List.length_append, List.set_cons_zero, List.set_cons_succ, lgt_0, lgt_s, lhas_0, lhas_s, isI_i, isRf_r, isRf_n, inc_i, of1, ofm1, rokI_i, rokI_0, rokI_1, rokI_b, okv_i, okv_z0, okv_z1, okv_or, okv_on, okv_ar, okv_b, isA_s, alen_s, cat_i, cat_r, cat_n, finC_s, hPe, rv, nar1, nar0,  b2i_0, oI_n, oI_s, d24, d168, d100, Int32.le_refl, vpT, nIc8, nIc12, nIc40, nIc200, hup_at, and_self, and_false, false_and, Nat.reduceEqDiff, Nat.reduceEqDiff, reduceCtorEq, ie_m1_0, il_m1_0, ie_m1_1, il_m1_1, ie_m1_2, il_m1_2, ie_m1_3, il_m1_3, ie_m1_4, ie_m1_5, ie_m1_6, ie_m1_7, ie_m1_8, ie_0_m1, il_0_0, ie_0_1, il_0_1, ie_0_2, il_0_2, ie_0_3, il_0_3, ie_0_4, ie_0_5, ie_0_6, ie_0_7, ie_0_8, ie_1_m1, ie_1_0, il_1_0, il_1_1, ie_1_2, il_1_2, ie_1_3, il_1_3, ie_1_4, ie_1_5, ie_1_6, ie_1_7, ie_1_8, ie_2_m1, ie_2_0, il_2_0, ie_2_1, il_2_1, il_2_2, ie_2_3, il_2_3, ie_2_4, ie_2_5, ie_2_6, ie_2_7, ie_2_8, ie_3_m1, ie_3_0, il_3_0, ie_3_1, il_3_1, ie_3_2, il_3_2, il_3_3, ie_3_4, ie_3_5, ie_3_6, ie_3_7, ie_3_8, ie_4_m1, ie_4_0, il_4_0, ie_4_1, il_4_1, ie_4_2, il_4_2, ie_4_3, il_4_3, ie_4_5, ie_4_6, ie_4_7, ie_4_8, ie_5_m1, ie_5_0, il_5_0, ie_5_1, il_5_1, ie_5_2, il_5_2, ie_5_3, il_5_3, ie_5_4, ie_5_6, ie_5_7, ie_5_8, ie_6_m1, ie_6_0, il_6_0, ie_6_1, il_6_1, ie_6_2, il_6_2, ie_6_3, il_6_3, ie_6_4, ie_6_5, ie_6_7, ie_6_8, ie_7_m1, ie_7_0, il_7_0, ie_7_1, il_7_1, ie_7_2, il_7_2, ie_7_3, il_7_3, ie_7_4, ie_7_5, ie_7_6, ie_7_8, ie_8_m1, ie_8_0, il_8_0, ie_8_1, il_8_1, ie_8_2, il_8_2, ie_8_3, il_8_3, ie_8_4, ie_8_5, ie_8_6, ie_8_7, Nat.reduceAdd, Nat.reduceSub, Nat.reduceLT, Nat.reduceLeDiff, Nat.reduceBEq, Bool.or_false, Bool.false_or, Bool.or_true, Bool.true_or, Bool.or_self, Bool.false_eq_true, ↓reduceIte, Nat.le_refl, Nat.zero_le, nI_p1, Option.toList, not_true_eq_false, not_false_eq_true, isRf_o, isR_o, isR_a, cat_o, okv_fo, okv_fa, orf_s, orf_n, both_t, both_f, rfn_n, rfn_s, eq_self, forall_const, qX6_empty_0, qX6_empty_1, qX6_empty_4, qX6_empty_7, qX6_empty_8, qX6_empty_9, qX6_empty_12, qX6_empty_15, qX6_empty_16]
  exact PC.put t2 (inv_empty inv) rfl
theorem o_wrongAt (inv : INV N Z S) {nl : Nat} (hl : nl ≤ 40) (sn : S.1 10 = nI nl) : OP iX6_wrongAt [] [] 2 20 N Z S (wrg (thr S 0) nl).1 (wrg (thr S 0) nl).2 := by
  have en : Z.1 6 0 1 = nI nl := inv.s10.symm.trans sn
  intro l D b h ad hfl rr
  have hx0 := inv.st.n0
  have h6 := inv.st.n6
  have te : tEq (thr S 0) (wrg (thr S 0) nl).2 := (tEq_f 14 (-1) (by omega)).tr (wro_eq nl (nl + 1) 0 0 (fup (thr S 0).1 14 (-1), S.2))
  refine v_entry iX6_wrongAt pl6 mX6_wrongAt (by simp only [List.forall_mem_cons, List.not_mem_nil, false_implies, cat_o, cat_r, cat_i, cat_n, and_self, implies_true]) hfl ?_
  rintro ⟨⟨p, l9, e, R⟩, ⟨sz, mi, args, below⟩, ⟨meth, cx, D9, b9⟩, ⟨P, X, mc, ms⟩⟩ rfl rfl rfl hPX K
  injection hPX with hP hPX
  injection hPX with hX hPX
  injection hPX with hMC hMS
  subst hMC hMS
  have hPe := fun r h9 => congrFun (congrFun hP r) h9
  refine ry1_ok K FokX6 none noini [] 60 ?_
  simp only [ry1_s, ry_s, ry_0, hit, true_and, and_true, List.map_cons, List.map_nil, List.length_cons, List.length_nil, List.replicate, List.cons_append, List.nil_append, List.append_nil, List.length_append, List.set_cons_zero, List.set_cons_succ, lgt_0, lgt_s, lhas_0, lhas_s, isI_i, isRf_r, isRf_n, inc_i, of1, ofm1, rokI_i, rokI_0, rokI_1, rokI_b, okv_i, okv_z0, okv_z1, okv_or, okv_on, okv_ar, okv_b, isA_s, alen_s, cat_i, cat_r, cat_n, finC_s, hPe, rv, nar1, nar0,  b2i_0, oI_n, oI_s, d24, d168, d100, Int32.le_refl, vpT, nIc8, nIc12, nIc40, nIc200, hup_at, and_self, and_false, false_and, Nat.reduceEqDiff, Nat.reduceEqDiff, reduceCtorEq, ie_m1_0, il_m1_0, ie_m1_1, il_m1_1, ie_m1_2, il_m1_2, ie_m1_3, il_m1_3, ie_m1_4, ie_m1_5, ie_m1_6, ie_m1_7, ie_m1_8, ie_0_m1, il_0_0, ie_0_1, il_0_1, ie_0_2, il_0_2, ie_0_3, il_0_3, ie_0_4, ie_0_5, ie_0_6, ie_0_7, ie_0_8, ie_1_m1, ie_1_0, il_1_0, il_1_1, ie_1_2, il_1_2, ie_1_3, il_1_3, ie_1_4, ie_1_5, ie_1_6, ie_1_7, ie_1_8, ie_2_m1, ie_2_0, il_2_0, ie_2_1, il_2_1, il_2_2, ie_2_3, il_2_3, ie_2_4, ie_2_5, ie_2_6, ie_2_7, ie_2_8, ie_3_m1, ie_3_0, il_3_0, ie_3_1, il_3_1, ie_3_2, il_3_2, il_3_3, ie_3_4, ie_3_5, ie_3_6, ie_3_7, ie_3_8, ie_4_m1, ie_4_0, il_4_0, ie_4_1, il_4_1, ie_4_2, il_4_2, ie_4_3, il_4_3, ie_4_5, ie_4_6, ie_4_7, ie_4_8, ie_5_m1, ie_5_0, il_5_0, ie_5_1, il_5_1, ie_5_2, il_5_2, ie_5_3, il_5_3, ie_5_4, ie_5_6, ie_5_7, ie_5_8, ie_6_m1, ie_6_0, il_6_0, ie_6_1, il_6_1, ie_6_2, il_6_2, ie_6_3, il_6_3, ie_6_4, ie_6_5, ie_6_7, ie_6_8, ie_7_m1, ie_7_0, il_7_0, ie_7_1, il_7_1, ie_7_2, il_7_2, ie_7_3, il_7_3, ie_7_4, ie_7_5, ie_7_6, ie_7_8, ie_8_m1, ie_8_0, il_8_0, ie_8_1, il_8_1, ie_8_2, il_8_2, ie_8_3, il_8_3, ie_8_4, ie_8_5, ie_8_6, ie_8_7, Nat.reduceAdd, Nat.reduceSub, Nat.reduceLT, Nat.reduceLeDiff, Nat.reduceBEq, Bool.or_false, Bool.false_or, Bool.or_true, Bool.true_or, Bool.or_self, Bool.false_eq_true, ↓reduceIte, Nat.le_refl, Nat.zero_le, nI_p1, Option.toList, not_true_eq_false, not_false_eq_true, isRf_o, isR_o, isR_a, cat_o, okv_fo, okv_fa, orf_s, orf_n, both_t, both_f, rfn_n, rfn_s, eq_self, forall_const, qX6_wrongAt_0, qX6_wrongAt_1, qX6_wrongAt_4, qX6_wrongAt_7, rr.k0 hx0, rr.f0_0 hx0, rr.f0_1 hx0, rr.f0_2 hx0, rr.f0_3 hx0, rr.f0_4 hx0, rr.f0_5 hx0, rr.f0_6 hx0, rr.f0_7 hx0, rr.f0_8 hx0, rr.f0_9 hx0, rr.f0_10 hx0, rr.f0_11 hx0, inv.st.x (f := 6) (by decide)]
  refine v_callV K (u_parse (S := thr S 0) hfl rr inv.st en hl inv.ch inv.T) kX6_178 rfl (rr.k6 h6) rfl (by decide) rfl (Nat.le_of_ble_eq_true rfl) rfl dX6_wrongAt_4 ⟨by omega, by omega⟩ (fun _ _ z => z.elim) ?_; rintro _ h2 ⟨rfl, t2⟩
  obtain ⟨Z2, t2, m2, -⟩ := t2
  refine ry1_ok K FokX6 none noini [] 60 ?_
  simp only [ry1_s, ry_s, ry_0, hit, true_and, and_true, List.map_cons, List.map_nil, List.length_cons, List.length_nil, List.replicate, List.cons_append, List.nil_append, List.append_nil, List.length_append, List.set_cons_zero, List.set_cons_succ, lgt_0, lgt_s, lhas_0, lhas_s, isI_i, isRf_r, isRf_n, inc_i, of1, ofm1, rokI_i, rokI_0, rokI_1, rokI_b, okv_i, okv_z0, okv_z1, okv_or, okv_on, okv_ar, okv_b, isA_s, alen_s, cat_i, cat_r, cat_n, finC_s, hPe, rv, nar1, nar0,  b2i_0, oI_n, oI_s, d24, d168, d100, Int32.le_refl, vpT, nIc8, nIc12, nIc40, nIc200, hup_at, and_self, and_false, false_and, Nat.reduceEqDiff, Nat.reduceEqDiff, reduceCtorEq, ie_m1_0, il_m1_0, ie_m1_1, il_m1_1, ie_m1_2, il_m1_2, ie_m1_3, il_m1_3, ie_m1_4, ie_m1_5, ie_m1_6, ie_m1_7, ie_m1_8, ie_0_m1, il_0_0, ie_0_1, il_0_1, ie_0_2, il_0_2, ie_0_3, il_0_3, ie_0_4, ie_0_5, ie_0_6, ie_0_7, ie_0_8, ie_1_m1, ie_1_0, il_1_0, il_1_1, ie_1_2, il_1_2, ie_1_3, il_1_3, ie_1_4, ie_1_5, ie_1_6, ie_1_7, ie_1_8, ie_2_m1, ie_2_0, il_2_0, ie_2_1, il_2_1, il_2_2, ie_2_3, il_2_3, ie_2_4, ie_2_5, ie_2_6, ie_2_7, ie_2_8, ie_3_m1, ie_3_0, il_3_0, ie_3_1, il_3_1, ie_3_2, il_3_2, il_3_3, ie_3_4, ie_3_5, ie_3_6, ie_3_7, ie_3_8, ie_4_m1, ie_4_0, il_4_0, ie_4_1, il_4_1, ie_4_2, il_4_2, ie_4_3, il_4_3, ie_4_5, ie_4_6, ie_4_7, ie_4_8, ie_5_m1, ie_5_0, il_5_0, ie_5_1, il_5_1, ie_5_2, il_5_2, ie_5_3, il_5_3, ie_5_4, ie_5_6, ie_5_7, ie_5_8, ie_6_m1, ie_6_0, il_6_0, ie_6_1, il_6_1, ie_6_2, il_6_2, ie_6_3, il_6_3, ie_6_4, ie_6_5, ie_6_7, ie_6_8, ie_7_m1, ie_7_0, il_7_0, ie_7_1, il_7_1, ie_7_2, il_7_2, ie_7_3, il_7_3, ie_7_4, ie_7_5, ie_7_6, ie_7_8, ie_8_m1, ie_8_0, il_8_0, ie_8_1, il_8_1, ie_8_2, il_8_2, ie_8_3, il_8_3, ie_8_4, ie_8_5, ie_8_6, ie_8_7, Nat.reduceAdd, Nat.reduceSub, Nat.reduceLT, Nat.reduceLeDiff, Nat.reduceBEq, Bool.or_false, Bool.false_or, Bool.or_true, Bool.true_or, Bool.or_self, Bool.false_eq_true, ↓reduceIte, Nat.le_refl, Nat.zero_le, nI_p1, Option.toList, not_true_eq_false, not_false_eq_true, isRf_o, isR_o, isR_a, cat_o, okv_fo, okv_fa, orf_s, orf_n, both_t, both_f, rfn_n, rfn_s, eq_self, forall_const, qX6_wrongAt_0, qX6_wrongAt_1, qX6_wrongAt_4, qX6_wrongAt_7]
  exact PC.put t2 (inv_txu (inv.thr 0) m2 te) (by rw [te.2 34 (by omega)]; rfl)
end O9
