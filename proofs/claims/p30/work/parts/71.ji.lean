theorem lnk_cg {Z Z' : ZS} : ∀ (Ls : List Nat) (o : Option Nat), (∀ c, c ∈ Ls → Z'.2 4 c 3 = Z.2 4 c 3) → lnk Z o Ls → lnk Z' o Ls
  | [], _, _, h => h
  | c :: Ls, _, hc, h => ⟨h.1, by rw [hc c List.mem_cons_self]; exact lnk_cg Ls _ (fun d hd => hc d (List.mem_cons_of_mem _ hd)) h.2⟩
/-- the chains of claims -/
def Ich (N : Nat → Nat) (Z : ZS) : Prop := ∀ s, s < N 2 → ∃ Ls, lnk Z (Z.2 2 s 7) Ls ∧ ∀ c, c ∈ Ls ↔ c < N 4 ∧ Z.2 4 c 1 = some s
def Iun (N : Nat → Nat) (Z : ZS) : Prop := ∀ c c', c < N 4 → c' < N 4 → Z.2 4 c 0 = Z.2 4 c' 0 → Z.2 4 c 1 = Z.2 4 c' 1 → Z.2 4 c 2 = Z.2 4 c' 2 → c = c'
def Ist (N : Nat → Nat) (Z : ZS) : Prop := ∀ c, c < N 4 → Z.1 4 c 4 = 0 ∨ Z.1 4 c 4 = 1 ∨ Z.1 4 c 4 = 2 ∨ Z.1 4 c 4 = 3
/-- what holds while claims are judged -/
def JI (N : Nat → Nat) (Z : ZS) (S : MS) : Prop := St N Z ∧ (Rct N Z S ∧ Rwk Z S ∧ Rsh N Z S ∧ Rru N Z S ∧ Rcl N Z S ∧ Rof N Z S ∧ Rtx Z S) ∧ (Iord N Z ∧ Irg N Z ∧ Iru N Z) ∧ Ich N Z ∧ Iun N Z ∧ Ist N Z ∧ ∀ c w s r, c < N 4 → Z.2 4 c 0 = some w → Z.2 4 c 1 = some s → Z.2 4 c 2 = some r → w < 8 ∧ s < N 2 ∧ r < N 3
section JIL
variable {N : Nat → Nat} {Z : ZS} {S : MS}
theorem OrdL.cg {Z' : ZS} {w : Nat} {ls : List Nat} (o : OrdL N Z w ls) (h14 : ∀ j, Z'.2 14 w j = Z.2 14 w j) (h2 : ∀ s, s < N 2 → Z'.2 2 s 6 = Z.2 2 s 6) (h4 : ∀ s, Z'.1 2 s 4 = Z.1 2 s 4) {N' : Nat → Nat} (hN : N' 2 = N 2) : OrdL N' Z' w ls := by
  refine ⟨fun j hj => by rw [h14 j]; exact o.1 j hj, fun s => ?_, ?_⟩
  · rw [hN, o.2.1 s]
    exact ⟨fun ⟨a, c⟩ => ⟨a, by rw [h2 s a]; exact c⟩, fun ⟨a, c⟩ => ⟨a, by rw [← h2 s a]; exact c⟩⟩
  · have e : (fun t => (Z'.1 2 t 4).toInt) = (fun t => (Z.1 2 t 4).toInt) := by funext t; rw [h4]
    rw [e]
    exact o.2.2
theorem Iord.cg {Z' : ZS} (i : Iord N Z) (h14 : ∀ w j, w < 8 → Z'.2 14 w j = Z.2 14 w j) (h2 : ∀ s, s < N 2 → Z'.2 2 s 6 = Z.2 2 s 6) (h4 : ∀ s, Z'.1 2 s 4 = Z.1 2 s 4) {N' : Nat → Nat} (hN : N' 2 = N 2) : Iord N' Z' := by
  refine ⟨fun w hw => ?_, fun s w hs he => ?_⟩
  · obtain ⟨ls, o⟩ := i.1 w hw
    exact ⟨ls, o.cg (fun j => h14 w j hw) h2 h4 hN⟩
  · rw [hN] at hs
    rw [h2 s hs] at he
    exact i.2 s w hs he
/-- a claim's state changes -/
theorem JI.st (j : JI N Z S) {c : Nat} (hc : c < N 4) {x : Int32} (hx : x = 0 ∨ x = 1 ∨ x = 2 ∨ x = 3) (hp : (x = 1 ∨ x = 3) ↔ (S.2 26 c = 1 ∨ S.2 26 c = 3)) : JI N (zui Z.1 4 c 4 x, Z.2) (S.1, aup S.2 26 c x) := by
  obtain ⟨st, ⟨rct, rwk, rsh, rru, rcl, rof, rtx⟩, ⟨io, ir, iu⟩, ich, iun, ist, iex⟩ := j
  have h1 : ∀ k i f, k ≠ 4 → zui Z.1 4 c 4 x k i f = Z.1 k i f := fun k i f hk => by simp [zui, hk]
  have s1 : ∀ k i, k ≠ 26 → aup S.2 26 c x k i = S.2 k i := fun k i hk => by simp [aup, hk]
  refine ⟨st.cg (fun k i f hf => h1 k i f (fun e => by subst e; simp [stf1] at hf)) (fun _ _ _ _ => rfl), ⟨rct, ?_, ?_, ?_, ?_, ?_, ?_⟩, ⟨io.cg (fun _ _ _ => rfl) (fun _ _ => rfl) (fun s => h1 2 s 4 (by decide)) rfl, ir, iu⟩, ?_, iun, ?_, iex⟩
  · exact rwk
  · exact rsh
  · exact rru
  · intro d hd
    obtain ⟨a1, a2, a3, a4, a5⟩ := rcl d hd
    refine ⟨a1, a2, a3, ?_, ?_⟩
    · by_cases e : d = c
      · subst e; simp [zui, aup]
      · simp [zui, aup, e]; exact a4
    · by_cases e : d = c
      · subst e
        simp only [zui, aup]
        simp only [and_self, and_true, true_and, ↓reduceIte, Nat.reduceEqDiff, false_and]
        rw [a5]
        by_cases q : S.2 26 d = 1 ∨ S.2 26 d = 3
        · rw [if_pos q, if_pos (hp.mpr q)]
        · rw [if_neg q, if_neg (fun z => q (hp.mp z))]
      · simp [zui, aup, e]; exact a5
  · exact rof
  · exact rtx
  · intro s hs
    obtain ⟨Ls, l1, l2⟩ := ich s hs
    exact ⟨Ls, lnk_cg (Z := Z) Ls _ (fun _ _ => rfl) l1, l2⟩
  · intro d hd
    by_cases e : d = c
    · subst e; simp [zui]; exact hx
    · have := ist d hd
      simp [zui, e]; exact this
theorem cfo_find (j : JI N Z S) {s w r : Nat} (hs : s < N 2) (hw : w < 8) (hr : r < N 3) {Ls : List Nat} (l2 : ∀ c, c ∈ Ls ↔ c < N 4 ∧ Z.2 4 c 1 = some s) : cfo S (N 4) (nI w) (nI s) (nI r) = Ls.find? (fun c => decide (Z.2 4 c 0 = some w) && decide (Z.2 4 c 2 = some r)) := by
  obtain ⟨st, ⟨rct, rwk, rsh, rru, rcl, rof, rtx⟩, ⟨io, ir, iu⟩, ich, iun, ist, iex⟩ := j
  have hs40 := st.n2 hs
  have hr12 := st.n3 hr
  have key : ∀ c, c < N 4 → ((decide (S.2 23 c = nI w) && decide (S.2 24 c = nI s) && decide (S.2 25 c = nI r)) = true ↔ Z.2 4 c 0 = some w ∧ Z.2 4 c 1 = some s ∧ Z.2 4 c 2 = some r) := by
    intro c hc
    obtain ⟨a1, a2, a3, -, -⟩ := rcl c hc
    obtain ⟨w9, s9, r9, z1, z2, z3⟩ := st.cl hc
    obtain ⟨b1, b2, b3⟩ := iex c w9 s9 r9 hc z1 z2 z3
    have b4 := st.n2 b2
    have b5 := st.n3 b3
    rw [a1, a2, a3, z1, z2, z3]
    have q1 : (oI (some w9) = nI w) ↔ w9 = w := by rw [oI_s, nE40 (by omega) (by omega)]
    have q2 : (oI (some s9) = nI s) ↔ s9 = s := by rw [oI_s, nE40 (by omega) (by omega)]
    have q3 : (oI (some r9) = nI r) ↔ r9 = r := by rw [oI_s, nE40 (by omega) (by omega)]
    rw [Bool.and_eq_true, Bool.and_eq_true, decide_eq_true_iff, decide_eq_true_iff, decide_eq_true_iff, q1, q2, q3, Option.some.injEq, Option.some.injEq, Option.some.injEq]
    exact and_assoc
  cases hf : Ls.find? (fun c => decide (Z.2 4 c 0 = some w) && decide (Z.2 4 c 2 = some r)) with
  | none =>
    refine fnd_none (N 4) (fun c hc => ?_)
    cases hb : (decide (S.2 23 c = nI w) && decide (S.2 24 c = nI s) && decide (S.2 25 c = nI r)) with
    | false => rfl
    | true =>
      have h := (key c hc).mp hb
      have := List.find?_eq_none.mp hf c ((l2 c).mpr ⟨hc, h.2.1⟩)
      simp [h.1, h.2.2] at this
  | some c =>
    have h1 := List.find?_some hf
    have h2 := (l2 c).mp (List.mem_of_find?_eq_some hf)
    simp only [Bool.and_eq_true, decide_eq_true_eq] at h1
    refine fnd_some ((key c h2.1).mpr ⟨h1.1, h2.2, h1.2⟩) (fun d hd => ?_) (N 4) h2.1
    cases hb : (decide (S.2 23 d = nI w) && decide (S.2 24 d = nI s) && decide (S.2 25 d = nI r)) with
    | false => rfl
    | true =>
      have hd4 : d < N 4 := by omega
      have h := (key d hd4).mp hb
      have := iun d c hd4 h2.1 (by rw [h.1, h1.1]) (by rw [h.2.1, h2.2]) (by rw [h.2.2, h1.2])
      omega
/-- a claim is made -/
theorem JI_mk (j : JI N Z S) {w s r : Nat} {Z' : ZS} (hlt : N 4 < 200) (hw : w < 8) (hs : s < N 2) (hr : r < N 3) (hm : MKP N Z w s r Z') (hno : cfo S (N 4) (nI w) (nI s) (nI r) = none) : JI (nup N 4) Z' (mk S (N 4) (nI w) (nI s) (nI r)) := by
  have hcf := fun {Ls} l2 => cfo_find j hs hw hr (Ls := Ls) l2
  obtain ⟨st, ⟨rct, rwk, rsh, rru, rcl, rof, rtx⟩, ⟨io, ir, iu⟩, ich, iun, ist, iex⟩ := j
  obtain ⟨m1, m2, ⟨m3, m4⟩, ⟨m5, m6, m7, m8⟩, ⟨m9, m10⟩, m11⟩ := hm
  have n2 : nup N 4 2 = N 2 := rfl
  have n3 : nup N 4 3 = N 3 := rfl
  have n5 : nup N 4 5 = N 5 := rfl
  have n4 : nup N 4 4 = N 4 + 1 := rfl
  have em : mk S (N 4) (nI w) (nI s) (nI r) = (fup S.1 22 (nI (N 4 + 1)), aup (aup (aup (aup S.2 23 (N 4) (nI w)) 24 (N 4) (nI s)) 25 (N 4) (nI r)) 26 (N 4) 0) := by unfold mk; rw [if_pos hlt]
  have i1 : ∀ k i f, k ≠ 0 → k ≠ 4 → Z'.1 k i f = Z.1 k i f := fun k i f h0 h4 => m2 k i f (fun z => h0 z.1) (fun z => h4 z.1)
  have i0 : ∀ f, f ≠ 9 → Z'.1 0 0 f = Z.1 0 0 f := fun f hf => m2 0 0 f (fun z => hf z.2.2) (fun z => by simp at z)
  have i4 : ∀ c f, c ≠ N 4 → Z'.1 4 c f = Z.1 4 c f := fun c f hc => m2 4 c f (fun z => by simp at z) (fun z => hc z.2)
  have o1 : ∀ k i f, k ≠ 4 → k ≠ 2 → k ≠ 10 → Z'.2 k i f = Z.2 k i f := fun k i f h4 h2 h10 => m11 k i f (fun z => h4 z.1) (fun z => h2 z.1) (fun z => h10 z.1)
  have o4 : ∀ c f, c ≠ N 4 → Z'.2 4 c f = Z.2 4 c f := fun c f hc => m11 4 c f (fun z => hc z.2) (fun z => by simp at z) (fun z => by simp at z)
  have o2 : ∀ t f, f ≠ 7 → Z'.2 2 t f = Z.2 2 t f := fun t f hf => m11 2 t f (fun z => by simp at z) (fun z => hf z.2.2) (fun z => by simp at z)
  have o7 : ∀ t, t ≠ s → Z'.2 2 t 7 = Z.2 2 t 7 := fun t hf => m11 2 t 7 (fun z => by simp at z) (fun z => hf z.2.1) (fun z => by simp at z)
  have o10 : ∀ f, f ≠ N 4 → Z'.2 10 0 f = Z.2 10 0 f := fun f hf => m11 10 0 f (fun z => by simp at z) (fun z => by simp at z) (fun z => hf z.2.2)
  have f1 : ∀ k, k ≠ 22 → (mk S (N 4) (nI w) (nI s) (nI r)).1 k = S.1 k := fun k hk => by rw [em]; simp [fup, hk]
  have f0 : (mk S (N 4) (nI w) (nI s) (nI r)).1 22 = nI (N 4 + 1) := by rw [em]; rfl
  have f2 : ∀ k i, k ≠ 23 → k ≠ 24 → k ≠ 25 → k ≠ 26 → (mk S (N 4) (nI w) (nI s) (nI r)).2 k i = S.2 k i := fun k i a1 a2 a3 a4 => by rw [em]; simp [aup, a1, a2, a3, a4]
  have f3 : ∀ k i, i ≠ N 4 → (mk S (N 4) (nI w) (nI s) (nI r)).2 k i = S.2 k i := fun k i a1 => by rw [em]; simp [aup, a1]
  have f4 : (mk S (N 4) (nI w) (nI s) (nI r)).2 23 (N 4) = nI w ∧ (mk S (N 4) (nI w) (nI s) (nI r)).2 24 (N 4) = nI s ∧ (mk S (N 4) (nI w) (nI s) (nI r)).2 25 (N 4) = nI r ∧ (mk S (N 4) (nI w) (nI s) (nI r)).2 26 (N 4) = 0 := by rw [em]; simp [aup]
  generalize mk S (N 4) (nI w) (nI s) (nI r) = S' at f0 f1 f2 f3 f4 ⊢
  clear em
  refine ⟨?_, ⟨?_, ?_, ?_, ?_, ?_, ?_, ?_⟩, ⟨io.cg (fun w j _ => o1 14 w j (by decide) (by decide) (by decide)) (fun t _ => o2 t 6 (by decide)) (fun t => i1 2 t 4 (by decide) (by decide)) n2, ?_, ?_⟩, ?_, ?_, ?_, ?_⟩
  · obtain ⟨⟨a0, a1, a2, a3, a4, a5, a6, a7, a8⟩, b1, b2, b3, ⟨c1, c2, c3, c4, c5⟩, ⟨d1, d2, d3, d4⟩, e1, e2, e3, e4⟩ := st
    refine ⟨⟨a0, a1, a2, a3, by rw [n4]; omega, a5, a6, fun k h1 h2 => ?_, a8⟩, fun f hf => ?_, fun v hv => ?_, ?_, ⟨fun j hj => ?_, fun j hj => ?_, fun j hj => ?_, fun j hj => ?_, fun j hj => ?_⟩, ⟨?_, ?_, ?_, ?_⟩, fun t ht => ?_, fun t ht => ?_, fun c hc => ?_, fun c hc => ?_⟩
    · show (if k = 4 then N 4 + 1 else N k) = 1
      rw [if_neg (by omega)]; exact a7 k h1 h2
    · rw [o1 0 0 f (by decide) (by decide) (by decide)]; exact b1 f hf
    · rw [o1 1 v 1 (by decide) (by decide) (by decide), i1 1 v 0 (by decide) (by decide)]; exact b2 v hv
    · rw [o1 6 0 0 (by decide) (by decide) (by decide)]; exact b3
    · rw [o1 7 0 j (by decide) (by decide) (by decide)]; exact c1 j hj
    · rw [o1 8 0 j (by decide) (by decide) (by decide)]; exact c2 j hj
    · rw [o1 9 0 j (by decide) (by decide) (by decide)]; exact c3 j hj
    · rw [n4]
      by_cases e : j = N 4
      · subst e; rw [m10, if_pos (by omega)]
      · rw [o10 j e, c4 j hj]
        by_cases e2 : j < N 4
        · rw [if_pos e2, if_pos (by omega)]
        · rw [if_neg e2, if_neg (by omega)]
    · rw [o1 11 0 j (by decide) (by decide) (by decide)]; exact c5 j hj
    · rw [i0 7 (by decide)]; exact d1
    · rw [i0 8 (by decide)]; exact d2
    · rw [n4]; exact m1
    · rw [i0 10 (by decide)]; exact d4
    · rw [i1 2 t 0 (by decide) (by decide)]; exact e1 t ht
    · rw [i1 3 t 0 (by decide) (by decide)]; exact e2 t ht
    · by_cases e : c = N 4
      · subst e; exact ⟨w, s, r, m5, m6, m7⟩
      · rw [o4 c 0 e, o4 c 1 e, o4 c 2 e]; exact e3 c (by rw [n4] at hc; omega)
    · rw [o1 5 c 0 (by decide) (by decide) (by decide), o1 5 c 1 (by decide) (by decide) (by decide), o1 5 c 2 (by decide) (by decide) (by decide)]; exact e4 c hc
  · obtain ⟨a1, a2, a3, a4, a5, a6⟩ := rct
    refine ⟨?_, ?_, ?_, ?_, ?_, ?_⟩
    · rw [f1 3 (by decide)]; exact a1
    · rw [f1 16 (by decide)]; exact a2
    · exact f0
    · rw [f1 28 (by decide)]; exact a4
    · rw [f1 0 (by decide), i0 11 (by decide)]; exact a5
    · rw [f1 10 (by decide), i1 6 0 1 (by decide) (by decide)]; exact a6
  · intro v hv
    rw [f2 1 v (by decide) (by decide) (by decide) (by decide), f2 2 v (by decide) (by decide) (by decide) (by decide), i1 1 v 2 (by decide) (by decide), i1 1 v 3 (by decide) (by decide)]
    exact rwk v hv
  · intro t ht
    rw [f2 6 t (by decide) (by decide) (by decide) (by decide), f2 4 t (by decide) (by decide) (by decide) (by decide), f2 5 t (by decide) (by decide) (by decide) (by decide), f2 8 t (by decide) (by decide) (by decide) (by decide), f2 9 t (by decide) (by decide) (by decide) (by decide), f2 7 t (by decide) (by decide) (by decide) (by decide), i1 2 t 1 (by decide) (by decide), i1 2 t 2 (by decide) (by decide), i1 2 t 3 (by decide) (by decide), i1 2 t 4 (by decide) (by decide), i1 2 t 5 (by decide) (by decide), o2 t 6 (by decide)]
    exact rsh t ht
  · intro t ht
    rw [f2 17 t (by decide) (by decide) (by decide) (by decide), f2 18 t (by decide) (by decide) (by decide) (by decide), f2 19 t (by decide) (by decide) (by decide) (by decide), f2 20 t (by decide) (by decide) (by decide) (by decide), f2 21 t (by decide) (by decide) (by decide) (by decide), i1 3 t 1 (by decide) (by decide), i1 3 t 2 (by decide) (by decide), i1 3 t 3 (by decide) (by decide), i1 3 t 4 (by decide) (by decide), i1 3 t 5 (by decide) (by decide)]
    exact rru t ht
  · intro c hc
    by_cases e : c = N 4
    · subst e
      refine ⟨?_, ?_, ?_, ?_, ?_⟩
      · rw [m5]; exact f4.1
      · rw [m6]; exact f4.2.1
      · rw [m7]; exact f4.2.2.1
      · rw [m3]; exact f4.2.2.2
      · rw [m4, f4.2.2.2]; rfl
    · rw [f3 23 c e, f3 24 c e, f3 25 c e, f3 26 c e, f3 27 c e, o4 c 0 e, o4 c 1 e, o4 c 2 e, i4 c 4 e, i4 c 5 e]
      exact rcl c (by rw [n4] at hc; omega)
  · intro c hc
    rw [f2 29 c (by decide) (by decide) (by decide) (by decide), f2 30 c (by decide) (by decide) (by decide) (by decide), f2 31 c (by decide) (by decide) (by decide) (by decide), o1 5 c 1 (by decide) (by decide) (by decide), o1 5 c 2 (by decide) (by decide) (by decide), i1 5 c 3 (by decide) (by decide)]
    exact rof c hc
  · intro i hi
    rw [f2 11 i (by decide) (by decide) (by decide) (by decide), i1 13 0 i (by decide) (by decide)]
    exact rtx i hi
  · intro t ht
    rw [i1 2 t 4 (by decide) (by decide)]
    exact ir t ht
  · intro t ht
    rw [i1 3 t 1 (by decide) (by decide), i1 3 t 2 (by decide) (by decide)]
    exact iu t ht
  · intro t ht
    obtain ⟨Ls, l1, l2⟩ := ich t ht
    have lc : ∀ c, c ∈ Ls → Z'.2 4 c 3 = Z.2 4 c 3 := fun c hc => o4 c 3 (by have := ((l2 c).mp hc).1; omega)
    by_cases e : t = s
    · subst e
      refine ⟨N 4 :: Ls, ⟨m9, by rw [m8]; exact lnk_cg (Z := Z) Ls _ lc l1⟩, fun c => ?_⟩
      rw [List.mem_cons, l2 c, n4]
      refine ⟨fun h => ?_, fun ⟨h1, h2⟩ => ?_⟩
      · rcases h with h | h
        · subst h; exact ⟨by omega, m6⟩
        · exact ⟨by omega, by rw [o4 c 1 (by omega)]; exact h.2⟩
      · by_cases e : c = N 4
        · exact Or.inl e
        · exact Or.inr ⟨by omega, by rw [← o4 c 1 e]; exact h2⟩
    · refine ⟨Ls, by rw [o7 t e]; exact lnk_cg (Z := Z) Ls _ lc l1, fun c => ?_⟩
      rw [l2 c, n4]
      refine ⟨fun h => ⟨by omega, by rw [o4 c 1 (by omega)]; exact h.2⟩, fun ⟨h1, h2⟩ => ?_⟩
      by_cases e2 : c = N 4
      · subst e2
        rw [m6] at h2
        exact absurd (Option.some.inj h2).symm e
      · exact ⟨by omega, by rw [← o4 c 1 e2]; exact h2⟩
  · have hnew : ∀ c, c < N 4 → ¬ (Z.2 4 c 0 = some w ∧ Z.2 4 c 1 = some s ∧ Z.2 4 c 2 = some r) := by
      intro c hc ⟨h1, h2, h3⟩
      obtain ⟨Ls, l1, l2⟩ := ich s hs
      rw [hcf l2] at hno
      have := List.find?_eq_none.mp hno c ((l2 c).mpr ⟨hc, h2⟩)
      simp [h1, h3] at this
    intro c c' hc hc' e0 e1 e2
    rw [n4] at hc hc'
    by_cases a : c = N 4
    · by_cases a' : c' = N 4
      · rw [a, a']
      · subst a
        rw [m5, o4 c' 0 a'] at e0
        rw [m6, o4 c' 1 a'] at e1
        rw [m7, o4 c' 2 a'] at e2
        exact absurd ⟨e0.symm, e1.symm, e2.symm⟩ (hnew c' (by omega))
    · by_cases a' : c' = N 4
      · subst a'
        rw [m5, o4 c 0 a] at e0
        rw [m6, o4 c 1 a] at e1
        rw [m7, o4 c 2 a] at e2
        exact absurd ⟨e0, e1, e2⟩ (hnew c (by omega))
      · rw [o4 c 0 a, o4 c' 0 a'] at e0
        rw [o4 c 1 a, o4 c' 1 a'] at e1
        rw [o4 c 2 a, o4 c' 2 a'] at e2
        exact iun c c' (by omega) (by omega) e0 e1 e2
  · intro c hc
    by_cases e : c = N 4
    · subst e; exact Or.inl m3
    · rw [i4 c 4 e]; exact ist c (by rw [n4] at hc; omega)
  · intro c w9 s9 r9 hc z1 z2 z3
    by_cases e : c = N 4
    · subst e
      rw [m5] at z1
      rw [m6] at z2
      rw [m7] at z3
      cases z1; cases z2; cases z3
      exact ⟨hw, hs, hr⟩
    · rw [o4 c 0 e] at z1
      rw [o4 c 1 e] at z2
      rw [o4 c 2 e] at z3
      exact iex c w9 s9 r9 (by rw [n4] at hc; omega) z1 z2 z3
end JIL
