/-! THE CLASS: a typed store (numbers, and references by kind and index), and the heap that holds it -/
abbrev ZS : Type := (Nat → Nat → Nat → Int32) × (Nat → Nat → Nat → Option Nat)
def kap (k : Nat) : Nat ⊕ (Nat × Nat) := match k with
  | 0 => .inl 6
  | 1 => .inl 5
  | 2 => .inl 4
  | 3 => .inl 2
  | 4 => .inl 0
  | 5 => .inl 1
  | 6 => .inl 3
  | 7 => .inr (4, 8)
  | 8 => .inr (5, 40)
  | 9 => .inr (6, 12)
  | 10 => .inr (7, 200)
  | 11 => .inr (8, 40)
  | 12 => .inr (8, 8)
  | 13 => .inr (2, 40)
  | _ => .inr (5, 40)
/-- what a field refers to; none: it is a number -/
def tyf (k f : Nat) : Option Nat := match k, f with
  | 0, 0 => some 7
  | 0, 1 => some 8
  | 0, 2 => some 9
  | 0, 3 => some 10
  | 0, 4 => some 11
  | 0, 5 => some 12
  | 0, 6 => some 6
  | 1, 1 => some 14
  | 2, 6 => some 1
  | 2, 7 => some 4
  | 4, 0 => some 1
  | 4, 1 => some 2
  | 4, 2 => some 3
  | 4, 3 => some 4
  | 5, 0 => some 1
  | 5, 1 => some 2
  | 5, 2 => some 2
  | 6, 0 => some 13
  | 7, _ => some 1
  | 8, _ => some 2
  | 9, _ => some 3
  | 10, _ => some 4
  | 11, _ => some 5
  | 12, _ => some 5
  | 14, _ => some 2
  | _, _ => none
def orf (ad : Nat → Nat → Nat) (k : Nat) (r : Option Nat) : Value := match r with
  | none => .null
  | some j => .ref (ad k j)
theorem orf_n (ad : Nat → Nat → Nat) (k : Nat) : orf ad k none = .null := rfl
theorem orf_s (ad : Nat → Nat → Nat) (k j : Nat) : orf ad k (some j) = .ref (ad k j) := rfl
def zv (ad : Nat → Nat → Nat) (Z : ZS) (k i f : Nat) : Value := match tyf k f with
  | none => .int (Z.1 k i f)
  | some k' => orf ad k' (Z.2 k i f)
def RR (N : Nat → Nat) (ad : Nat → Nat → Nat) (Z : ZS) (h : Hp) : Prop :=
  (∀ k i, i < N k → h.1 (ad k i) = some (kap k)) ∧ (∀ k i f, i < N k → h.2 (ad k i) f = zv ad Z k i f) ∧ (∀ k i f k' j, i < N k → tyf k f = some k' → Z.2 k i f = some j → j < N k') ∧ ∀ k i k' i', i < N k → i' < N k' → ad k i = ad k' i' → k = k' ∧ i = i'
def zui (f : Nat → Nat → Nat → Int32) (k i j : Nat) (x : Int32) : Nat → Nat → Nat → Int32 := fun k' i' j' => if k' = k ∧ i' = i ∧ j' = j then x else f k' i' j'
def zuo (f : Nat → Nat → Nat → Option Nat) (k i j : Nat) (x : Option Nat) : Nat → Nat → Nat → Option Nat := fun k' i' j' => if k' = k ∧ i' = i ∧ j' = j then x else f k' i' j'
theorem zui_at (f : Nat → Nat → Nat → Int32) (k i j : Nat) (x : Int32) (k' i' j' : Nat) : zui f k i j x k' i' j' = if k' = k ∧ i' = i ∧ j' = j then x else f k' i' j' := rfl
theorem zuo_at (f : Nat → Nat → Nat → Option Nat) (k i j : Nat) (x : Option Nat) (k' i' j' : Nat) : zuo f k i j x k' i' j' = if k' = k ∧ i' = i ∧ j' = j then x else f k' i' j' := rfl
def cwn (N : Nat → Nat) (ad : Nat → Nat → Nat) (a : Nat) : Prop := ∃ k i, i < N k ∧ a = ad k i
def CTo (N : Nat → Nat) (ad : Nat → Nat → Nat) (Z : ZS) (h h' : Hp) : Prop := RR N ad Z h' ∧ h'.1 = h.1 ∧ ∀ a, ¬ cwn N ad a → h'.2 a = h.2 a
section CRR
variable {N : Nat → Nat} {ad : Nat → Nat → Nat} {Z Z' : ZS} {h h0 h' h'' : Hp}
theorem RR.aq (r : RR N ad Z h) {k i k' i' : Nat} (hi : i < N k) (hj : i' < N k') : (ad k i = ad k' i') = (k = k' ∧ i = i') := propext ⟨r.2.2.2 k i k' i' hi hj, fun ⟨a, c⟩ => by rw [a, c]⟩
theorem RR.a1 (r : RR N ad Z h) {k i i' : Nat} (hi : i < N k) (hj : i' < N k) : (ad k i = ad k i') = (i = i') := propext ⟨fun e => (r.2.2.2 k i k i' hi hj e).2, fun a => by rw [a]⟩
theorem CTo.rf (r : RR N ad Z h) : CTo N ad Z h h := ⟨r, rfl, fun _ _ => rfl⟩
theorem CTo.tr (a : CTo N ad Z h h') (c : CTo N ad Z' h' h'') : CTo N ad Z' h h'' := ⟨c.1, c.2.1.trans a.2.1, fun x hx => (c.2.2 x hx).trans (a.2.2 x hx)⟩
theorem CTo.puti (t : CTo N ad Z h0 h) {k i : Nat} (f : Nat) (x : Int32) (hi : i < N k) (ht : tyf k f = none) : CTo N ad (zui Z.1 k i f x, Z.2) h0 (h.1, hup h.2 (ad k i) f (.int x)) := by
  obtain ⟨⟨r1, r2, r3, r4⟩, t2, t3⟩ := t
  refine ⟨⟨r1, fun k' i' f' hi' => ?_, r3, r4⟩, t2, fun a ha => ?_⟩
  · show (if ad k' i' = ad k i ∧ f' = f then Value.int x else h.2 (ad k' i') f') = _
    by_cases e : ad k' i' = ad k i ∧ f' = f
    · obtain ⟨e1, e2⟩ := r4 _ _ _ _ hi' hi e.1
      obtain ⟨-, e3⟩ := e
      subst e1; subst e2; subst e3
      simp [zv, ht, zui]
    · rw [if_neg e, r2 _ _ _ hi']
      have e9 : ¬ (k' = k ∧ i' = i ∧ f' = f) := fun ⟨a, c, d⟩ => e ⟨by rw [a, c], d⟩
      simp [zv, zui, e9]
  · show (fun j => if a = ad k i ∧ j = f then Value.int x else h.2 a j) = h0.2 a
    have : ¬ a = ad k i := fun e => ha ⟨k, i, hi, e⟩
    rw [← t3 a ha]
    funext j
    simp [this]
theorem CTo.puto (t : CTo N ad Z h0 h) {k i k9 : Nat} (f : Nat) (x : Option Nat) (hi : i < N k) (ht : tyf k f = some k9) (hx : ∀ j, x = some j → j < N k9) : CTo N ad (Z.1, zuo Z.2 k i f x) h0 (h.1, hup h.2 (ad k i) f (orf ad k9 x)) := by
  obtain ⟨⟨r1, r2, r3, r4⟩, t2, t3⟩ := t
  refine ⟨⟨r1, fun k' i' f' hi' => ?_, fun k' i' f' k8 j hi' ht' hz => ?_, r4⟩, t2, fun a ha => ?_⟩
  · show (if ad k' i' = ad k i ∧ f' = f then orf ad k9 x else h.2 (ad k' i') f') = _
    by_cases e : ad k' i' = ad k i ∧ f' = f
    · obtain ⟨e1, e2⟩ := r4 _ _ _ _ hi' hi e.1
      obtain ⟨-, e3⟩ := e
      subst e1; subst e2; subst e3
      simp [zv, ht, zuo]
    · rw [if_neg e, r2 _ _ _ hi']
      have e9 : ¬ (k' = k ∧ i' = i ∧ f' = f) := fun ⟨a, c, d⟩ => e ⟨by rw [a, c], d⟩
      simp [zv, zuo, e9]
  · have hz : (if k' = k ∧ i' = i ∧ f' = f then x else Z.2 k' i' f') = some j := hz
    by_cases e : k' = k ∧ i' = i ∧ f' = f
    · rw [if_pos e] at hz
      rw [e.1, e.2.2, ht] at ht'
      cases ht'
      exact hx j hz
    · rw [if_neg e] at hz
      exact r3 _ _ _ _ _ hi' ht' hz
  · show (fun j => if a = ad k i ∧ j = f then orf ad k9 x else h.2 a j) = h0.2 a
    have : ¬ a = ad k i := fun e => ha ⟨k, i, hi, e⟩
    rw [← t3 a ha]
    funext j
    simp [this]
theorem RR.wf (r : RR N ad Z h) {k i f k' j : Nat} (hi : i < N k) (ht : tyf k f = some k') (hz : Z.2 k i f = some j) : j < N k' := r.2.2.1 _ _ _ _ _ hi ht hz
theorem RR.k0 (r : RR N ad Z h) {i : Nat} (hi : i < N 0) : h.1 (ad 0 i) = some (.inl 6) := r.1 0 i hi
theorem RR.f0_0 (r : RR N ad Z h) {i : Nat} (hi : i < N 0) : h.2 (ad 0 i) 0 = orf ad 7 (Z.2 0 i 0) := r.2.1 0 i 0 hi
theorem RR.f0_1 (r : RR N ad Z h) {i : Nat} (hi : i < N 0) : h.2 (ad 0 i) 1 = orf ad 8 (Z.2 0 i 1) := r.2.1 0 i 1 hi
theorem RR.f0_2 (r : RR N ad Z h) {i : Nat} (hi : i < N 0) : h.2 (ad 0 i) 2 = orf ad 9 (Z.2 0 i 2) := r.2.1 0 i 2 hi
theorem RR.f0_3 (r : RR N ad Z h) {i : Nat} (hi : i < N 0) : h.2 (ad 0 i) 3 = orf ad 10 (Z.2 0 i 3) := r.2.1 0 i 3 hi
theorem RR.f0_4 (r : RR N ad Z h) {i : Nat} (hi : i < N 0) : h.2 (ad 0 i) 4 = orf ad 11 (Z.2 0 i 4) := r.2.1 0 i 4 hi
theorem RR.f0_5 (r : RR N ad Z h) {i : Nat} (hi : i < N 0) : h.2 (ad 0 i) 5 = orf ad 12 (Z.2 0 i 5) := r.2.1 0 i 5 hi
theorem RR.f0_6 (r : RR N ad Z h) {i : Nat} (hi : i < N 0) : h.2 (ad 0 i) 6 = orf ad 6 (Z.2 0 i 6) := r.2.1 0 i 6 hi
theorem RR.f0_7 (r : RR N ad Z h) {i : Nat} (hi : i < N 0) : h.2 (ad 0 i) 7 = .int (Z.1 0 i 7) := r.2.1 0 i 7 hi
theorem RR.f0_8 (r : RR N ad Z h) {i : Nat} (hi : i < N 0) : h.2 (ad 0 i) 8 = .int (Z.1 0 i 8) := r.2.1 0 i 8 hi
theorem RR.f0_9 (r : RR N ad Z h) {i : Nat} (hi : i < N 0) : h.2 (ad 0 i) 9 = .int (Z.1 0 i 9) := r.2.1 0 i 9 hi
theorem RR.f0_10 (r : RR N ad Z h) {i : Nat} (hi : i < N 0) : h.2 (ad 0 i) 10 = .int (Z.1 0 i 10) := r.2.1 0 i 10 hi
theorem RR.f0_11 (r : RR N ad Z h) {i : Nat} (hi : i < N 0) : h.2 (ad 0 i) 11 = .int (Z.1 0 i 11) := r.2.1 0 i 11 hi
theorem RR.k1 (r : RR N ad Z h) {i : Nat} (hi : i < N 1) : h.1 (ad 1 i) = some (.inl 5) := r.1 1 i hi
theorem RR.f1_0 (r : RR N ad Z h) {i : Nat} (hi : i < N 1) : h.2 (ad 1 i) 0 = .int (Z.1 1 i 0) := r.2.1 1 i 0 hi
theorem RR.f1_1 (r : RR N ad Z h) {i : Nat} (hi : i < N 1) : h.2 (ad 1 i) 1 = orf ad 14 (Z.2 1 i 1) := r.2.1 1 i 1 hi
theorem RR.f1_2 (r : RR N ad Z h) {i : Nat} (hi : i < N 1) : h.2 (ad 1 i) 2 = .int (Z.1 1 i 2) := r.2.1 1 i 2 hi
theorem RR.f1_3 (r : RR N ad Z h) {i : Nat} (hi : i < N 1) : h.2 (ad 1 i) 3 = .int (Z.1 1 i 3) := r.2.1 1 i 3 hi
theorem RR.k2 (r : RR N ad Z h) {i : Nat} (hi : i < N 2) : h.1 (ad 2 i) = some (.inl 4) := r.1 2 i hi
theorem RR.f2_0 (r : RR N ad Z h) {i : Nat} (hi : i < N 2) : h.2 (ad 2 i) 0 = .int (Z.1 2 i 0) := r.2.1 2 i 0 hi
theorem RR.f2_1 (r : RR N ad Z h) {i : Nat} (hi : i < N 2) : h.2 (ad 2 i) 1 = .int (Z.1 2 i 1) := r.2.1 2 i 1 hi
theorem RR.f2_2 (r : RR N ad Z h) {i : Nat} (hi : i < N 2) : h.2 (ad 2 i) 2 = .int (Z.1 2 i 2) := r.2.1 2 i 2 hi
theorem RR.f2_3 (r : RR N ad Z h) {i : Nat} (hi : i < N 2) : h.2 (ad 2 i) 3 = .int (Z.1 2 i 3) := r.2.1 2 i 3 hi
theorem RR.f2_4 (r : RR N ad Z h) {i : Nat} (hi : i < N 2) : h.2 (ad 2 i) 4 = .int (Z.1 2 i 4) := r.2.1 2 i 4 hi
theorem RR.f2_5 (r : RR N ad Z h) {i : Nat} (hi : i < N 2) : h.2 (ad 2 i) 5 = .int (Z.1 2 i 5) := r.2.1 2 i 5 hi
theorem RR.f2_6 (r : RR N ad Z h) {i : Nat} (hi : i < N 2) : h.2 (ad 2 i) 6 = orf ad 1 (Z.2 2 i 6) := r.2.1 2 i 6 hi
theorem RR.f2_7 (r : RR N ad Z h) {i : Nat} (hi : i < N 2) : h.2 (ad 2 i) 7 = orf ad 4 (Z.2 2 i 7) := r.2.1 2 i 7 hi
theorem RR.k3 (r : RR N ad Z h) {i : Nat} (hi : i < N 3) : h.1 (ad 3 i) = some (.inl 2) := r.1 3 i hi
theorem RR.f3_0 (r : RR N ad Z h) {i : Nat} (hi : i < N 3) : h.2 (ad 3 i) 0 = .int (Z.1 3 i 0) := r.2.1 3 i 0 hi
theorem RR.f3_1 (r : RR N ad Z h) {i : Nat} (hi : i < N 3) : h.2 (ad 3 i) 1 = .int (Z.1 3 i 1) := r.2.1 3 i 1 hi
theorem RR.f3_2 (r : RR N ad Z h) {i : Nat} (hi : i < N 3) : h.2 (ad 3 i) 2 = .int (Z.1 3 i 2) := r.2.1 3 i 2 hi
theorem RR.f3_3 (r : RR N ad Z h) {i : Nat} (hi : i < N 3) : h.2 (ad 3 i) 3 = .int (Z.1 3 i 3) := r.2.1 3 i 3 hi
theorem RR.f3_4 (r : RR N ad Z h) {i : Nat} (hi : i < N 3) : h.2 (ad 3 i) 4 = .int (Z.1 3 i 4) := r.2.1 3 i 4 hi
theorem RR.f3_5 (r : RR N ad Z h) {i : Nat} (hi : i < N 3) : h.2 (ad 3 i) 5 = .int (Z.1 3 i 5) := r.2.1 3 i 5 hi
theorem RR.k4 (r : RR N ad Z h) {i : Nat} (hi : i < N 4) : h.1 (ad 4 i) = some (.inl 0) := r.1 4 i hi
theorem RR.f4_0 (r : RR N ad Z h) {i : Nat} (hi : i < N 4) : h.2 (ad 4 i) 0 = orf ad 1 (Z.2 4 i 0) := r.2.1 4 i 0 hi
theorem RR.f4_1 (r : RR N ad Z h) {i : Nat} (hi : i < N 4) : h.2 (ad 4 i) 1 = orf ad 2 (Z.2 4 i 1) := r.2.1 4 i 1 hi
theorem RR.f4_2 (r : RR N ad Z h) {i : Nat} (hi : i < N 4) : h.2 (ad 4 i) 2 = orf ad 3 (Z.2 4 i 2) := r.2.1 4 i 2 hi
theorem RR.f4_3 (r : RR N ad Z h) {i : Nat} (hi : i < N 4) : h.2 (ad 4 i) 3 = orf ad 4 (Z.2 4 i 3) := r.2.1 4 i 3 hi
theorem RR.f4_4 (r : RR N ad Z h) {i : Nat} (hi : i < N 4) : h.2 (ad 4 i) 4 = .int (Z.1 4 i 4) := r.2.1 4 i 4 hi
theorem RR.f4_5 (r : RR N ad Z h) {i : Nat} (hi : i < N 4) : h.2 (ad 4 i) 5 = .int (Z.1 4 i 5) := r.2.1 4 i 5 hi
theorem RR.k5 (r : RR N ad Z h) {i : Nat} (hi : i < N 5) : h.1 (ad 5 i) = some (.inl 1) := r.1 5 i hi
theorem RR.f5_0 (r : RR N ad Z h) {i : Nat} (hi : i < N 5) : h.2 (ad 5 i) 0 = orf ad 1 (Z.2 5 i 0) := r.2.1 5 i 0 hi
theorem RR.f5_1 (r : RR N ad Z h) {i : Nat} (hi : i < N 5) : h.2 (ad 5 i) 1 = orf ad 2 (Z.2 5 i 1) := r.2.1 5 i 1 hi
theorem RR.f5_2 (r : RR N ad Z h) {i : Nat} (hi : i < N 5) : h.2 (ad 5 i) 2 = orf ad 2 (Z.2 5 i 2) := r.2.1 5 i 2 hi
theorem RR.f5_3 (r : RR N ad Z h) {i : Nat} (hi : i < N 5) : h.2 (ad 5 i) 3 = .int (Z.1 5 i 3) := r.2.1 5 i 3 hi
theorem RR.k6 (r : RR N ad Z h) {i : Nat} (hi : i < N 6) : h.1 (ad 6 i) = some (.inl 3) := r.1 6 i hi
theorem RR.f6_0 (r : RR N ad Z h) {i : Nat} (hi : i < N 6) : h.2 (ad 6 i) 0 = orf ad 13 (Z.2 6 i 0) := r.2.1 6 i 0 hi
theorem RR.f6_1 (r : RR N ad Z h) {i : Nat} (hi : i < N 6) : h.2 (ad 6 i) 1 = .int (Z.1 6 i 1) := r.2.1 6 i 1 hi
theorem RR.f6_2 (r : RR N ad Z h) {i : Nat} (hi : i < N 6) : h.2 (ad 6 i) 2 = .int (Z.1 6 i 2) := r.2.1 6 i 2 hi
theorem RR.f6_3 (r : RR N ad Z h) {i : Nat} (hi : i < N 6) : h.2 (ad 6 i) 3 = .int (Z.1 6 i 3) := r.2.1 6 i 3 hi
theorem RR.f6_4 (r : RR N ad Z h) {i : Nat} (hi : i < N 6) : h.2 (ad 6 i) 4 = .int (Z.1 6 i 4) := r.2.1 6 i 4 hi
theorem RR.f6_5 (r : RR N ad Z h) {i : Nat} (hi : i < N 6) : h.2 (ad 6 i) 5 = .int (Z.1 6 i 5) := r.2.1 6 i 5 hi
theorem RR.f6_6 (r : RR N ad Z h) {i : Nat} (hi : i < N 6) : h.2 (ad 6 i) 6 = .int (Z.1 6 i 6) := r.2.1 6 i 6 hi
theorem RR.f6_7 (r : RR N ad Z h) {i : Nat} (hi : i < N 6) : h.2 (ad 6 i) 7 = .int (Z.1 6 i 7) := r.2.1 6 i 7 hi
theorem RR.k7 (r : RR N ad Z h) {i : Nat} (hi : i < N 7) : h.1 (ad 7 i) = some (.inr (4, 8)) := r.1 7 i hi
theorem RR.e7 (r : RR N ad Z h) {i : Nat} (j : Nat) (hi : i < N 7) : h.2 (ad 7 i) j = orf ad 1 (Z.2 7 i j) := r.2.1 7 i j hi
theorem RR.k8 (r : RR N ad Z h) {i : Nat} (hi : i < N 8) : h.1 (ad 8 i) = some (.inr (5, 40)) := r.1 8 i hi
theorem RR.e8 (r : RR N ad Z h) {i : Nat} (j : Nat) (hi : i < N 8) : h.2 (ad 8 i) j = orf ad 2 (Z.2 8 i j) := r.2.1 8 i j hi
theorem RR.k9 (r : RR N ad Z h) {i : Nat} (hi : i < N 9) : h.1 (ad 9 i) = some (.inr (6, 12)) := r.1 9 i hi
theorem RR.e9 (r : RR N ad Z h) {i : Nat} (j : Nat) (hi : i < N 9) : h.2 (ad 9 i) j = orf ad 3 (Z.2 9 i j) := r.2.1 9 i j hi
theorem RR.k10 (r : RR N ad Z h) {i : Nat} (hi : i < N 10) : h.1 (ad 10 i) = some (.inr (7, 200)) := r.1 10 i hi
theorem RR.e10 (r : RR N ad Z h) {i : Nat} (j : Nat) (hi : i < N 10) : h.2 (ad 10 i) j = orf ad 4 (Z.2 10 i j) := r.2.1 10 i j hi
theorem RR.k11 (r : RR N ad Z h) {i : Nat} (hi : i < N 11) : h.1 (ad 11 i) = some (.inr (8, 40)) := r.1 11 i hi
theorem RR.e11 (r : RR N ad Z h) {i : Nat} (j : Nat) (hi : i < N 11) : h.2 (ad 11 i) j = orf ad 5 (Z.2 11 i j) := r.2.1 11 i j hi
theorem RR.k12 (r : RR N ad Z h) {i : Nat} (hi : i < N 12) : h.1 (ad 12 i) = some (.inr (8, 8)) := r.1 12 i hi
theorem RR.e12 (r : RR N ad Z h) {i : Nat} (j : Nat) (hi : i < N 12) : h.2 (ad 12 i) j = orf ad 5 (Z.2 12 i j) := r.2.1 12 i j hi
theorem RR.k13 (r : RR N ad Z h) {i : Nat} (hi : i < N 13) : h.1 (ad 13 i) = some (.inr (2, 40)) := r.1 13 i hi
theorem RR.e13 (r : RR N ad Z h) {i : Nat} (j : Nat) (hi : i < N 13) : h.2 (ad 13 i) j = .int (Z.1 13 i j) := r.2.1 13 i j hi
theorem RR.k14 (r : RR N ad Z h) {i : Nat} (hi : i < N 14) : h.1 (ad 14 i) = some (.inr (5, 40)) := r.1 14 i hi
theorem RR.e14 (r : RR N ad Z h) {i : Nat} (j : Nat) (hi : i < N 14) : h.2 (ad 14 i) j = orf ad 2 (Z.2 14 i j) := r.2.1 14 i j hi
end CRR
theorem v_heap {C : Ctx} {N : Nat → Nat} {ad : Nat → Nat → Nat} {Z : ZS} {h0 h : Hp} {cs ss pc : Nat} {L : List (Option Value)} {st : List Value} (t : CTo N ad Z h0 h) (k : ∀ h', CTo N ad Z h0 h' → V C h' cs ss pc L st) : V C h cs ss pc L st := k h t
theorem v_widen {C : Ctx} {h : Hp} {cs ss cs' ss' pc : Nat} {L : List (Option Value)} {st : List Value} (h1 : cs ≤ cs') (h2 : ss ≤ ss') (k : V C h cs' ss' pc L st) : V C h cs ss pc L st := fun H locs ls hR hS hL => W.widen h1 h2 (k H locs ls hR hS hL)
theorem pl0 : plainName RX0 = true := by decide +kernel
theorem pl1 : plainName RX1 = true := by decide +kernel
theorem pl2 : plainName RX2 = true := by decide +kernel
theorem pl3 : plainName RX3 = true := by decide +kernel
theorem pl4 : plainName RX4 = true := by decide +kernel
theorem pl5 : plainName RX5 = true := by decide +kernel
theorem pl6 : plainName RX6 = true := by decide +kernel
