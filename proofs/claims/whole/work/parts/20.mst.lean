/-! THE REFERENCE: its state -/
abbrev MS : Type := (Nat → Int32) × (Nat → Nat → Int32)
def mlen (k : Nat) : Option (Nat × Nat) := match k with
  | 1 => some (0, 8)
  | 2 => some (0, 8)
  | 4 => some (0, 40)
  | 5 => some (0, 40)
  | 6 => some (0, 40)
  | 7 => some (0, 40)
  | 8 => some (0, 40)
  | 9 => some (0, 40)
  | 11 => some (2, 40)
  | 17 => some (0, 12)
  | 18 => some (0, 12)
  | 19 => some (0, 12)
  | 20 => some (0, 12)
  | 21 => some (1, 12)
  | 23 => some (0, 200)
  | 24 => some (0, 200)
  | 25 => some (0, 200)
  | 26 => some (0, 200)
  | 27 => some (0, 200)
  | 29 => some (0, 40)
  | 30 => some (0, 40)
  | 31 => some (1, 40)
  | 33 => some (0, 8)
  | _ => none
def MRel (o : Nat) (ad : Nat → Nat) (S : MS) (h : Hp) : Prop :=
  h.1 o = some (.inl 7) ∧ (∀ k, k < 35 → mlen k = none → h.2 o k = .int (S.1 k)) ∧ (∀ k q, mlen k = some q → h.2 o k = .ref (ad k) ∧ h.1 (ad k) = some (.inr q) ∧ ∀ i, i < q.2 → h.2 (ad k) i = .int (S.2 k i)) ∧
  ∀ k k', mlen k ≠ none → mlen k' ≠ none → ad k = ad k' → k = k'
section MF
variable {o : Nat} {ad : Nat → Nat} {S : MS} {h : Hp}
theorem MRel.ko (m : MRel o ad S h) : h.1 o = some (.inl 7) := m.1
theorem MRel.f0 (m : MRel o ad S h) : h.2 o 0 = .int (S.1 0) := m.2.1 0 (by decide) rfl
theorem MRel.a1 (m : MRel o ad S h) : h.2 o 1 = .ref (ad 1) := (m.2.2.1 1 (0, 8) rfl).1
theorem MRel.k1 (m : MRel o ad S h) : h.1 (ad 1) = some (.inr (0, 8)) := (m.2.2.1 1 (0, 8) rfl).2.1
theorem MRel.e1 (m : MRel o ad S h) (i : Nat) (hi : i < 8) : h.2 (ad 1) i = .int (S.2 1 i) := (m.2.2.1 1 (0, 8) rfl).2.2 i hi
theorem MRel.a2 (m : MRel o ad S h) : h.2 o 2 = .ref (ad 2) := (m.2.2.1 2 (0, 8) rfl).1
theorem MRel.k2 (m : MRel o ad S h) : h.1 (ad 2) = some (.inr (0, 8)) := (m.2.2.1 2 (0, 8) rfl).2.1
theorem MRel.e2 (m : MRel o ad S h) (i : Nat) (hi : i < 8) : h.2 (ad 2) i = .int (S.2 2 i) := (m.2.2.1 2 (0, 8) rfl).2.2 i hi
theorem MRel.f3 (m : MRel o ad S h) : h.2 o 3 = .int (S.1 3) := m.2.1 3 (by decide) rfl
theorem MRel.a4 (m : MRel o ad S h) : h.2 o 4 = .ref (ad 4) := (m.2.2.1 4 (0, 40) rfl).1
theorem MRel.k4 (m : MRel o ad S h) : h.1 (ad 4) = some (.inr (0, 40)) := (m.2.2.1 4 (0, 40) rfl).2.1
theorem MRel.e4 (m : MRel o ad S h) (i : Nat) (hi : i < 40) : h.2 (ad 4) i = .int (S.2 4 i) := (m.2.2.1 4 (0, 40) rfl).2.2 i hi
theorem MRel.a5 (m : MRel o ad S h) : h.2 o 5 = .ref (ad 5) := (m.2.2.1 5 (0, 40) rfl).1
theorem MRel.k5 (m : MRel o ad S h) : h.1 (ad 5) = some (.inr (0, 40)) := (m.2.2.1 5 (0, 40) rfl).2.1
theorem MRel.e5 (m : MRel o ad S h) (i : Nat) (hi : i < 40) : h.2 (ad 5) i = .int (S.2 5 i) := (m.2.2.1 5 (0, 40) rfl).2.2 i hi
theorem MRel.a6 (m : MRel o ad S h) : h.2 o 6 = .ref (ad 6) := (m.2.2.1 6 (0, 40) rfl).1
theorem MRel.k6 (m : MRel o ad S h) : h.1 (ad 6) = some (.inr (0, 40)) := (m.2.2.1 6 (0, 40) rfl).2.1
theorem MRel.e6 (m : MRel o ad S h) (i : Nat) (hi : i < 40) : h.2 (ad 6) i = .int (S.2 6 i) := (m.2.2.1 6 (0, 40) rfl).2.2 i hi
theorem MRel.a7 (m : MRel o ad S h) : h.2 o 7 = .ref (ad 7) := (m.2.2.1 7 (0, 40) rfl).1
theorem MRel.k7 (m : MRel o ad S h) : h.1 (ad 7) = some (.inr (0, 40)) := (m.2.2.1 7 (0, 40) rfl).2.1
theorem MRel.e7 (m : MRel o ad S h) (i : Nat) (hi : i < 40) : h.2 (ad 7) i = .int (S.2 7 i) := (m.2.2.1 7 (0, 40) rfl).2.2 i hi
theorem MRel.a8 (m : MRel o ad S h) : h.2 o 8 = .ref (ad 8) := (m.2.2.1 8 (0, 40) rfl).1
theorem MRel.k8 (m : MRel o ad S h) : h.1 (ad 8) = some (.inr (0, 40)) := (m.2.2.1 8 (0, 40) rfl).2.1
theorem MRel.e8 (m : MRel o ad S h) (i : Nat) (hi : i < 40) : h.2 (ad 8) i = .int (S.2 8 i) := (m.2.2.1 8 (0, 40) rfl).2.2 i hi
theorem MRel.a9 (m : MRel o ad S h) : h.2 o 9 = .ref (ad 9) := (m.2.2.1 9 (0, 40) rfl).1
theorem MRel.k9 (m : MRel o ad S h) : h.1 (ad 9) = some (.inr (0, 40)) := (m.2.2.1 9 (0, 40) rfl).2.1
theorem MRel.e9 (m : MRel o ad S h) (i : Nat) (hi : i < 40) : h.2 (ad 9) i = .int (S.2 9 i) := (m.2.2.1 9 (0, 40) rfl).2.2 i hi
theorem MRel.f10 (m : MRel o ad S h) : h.2 o 10 = .int (S.1 10) := m.2.1 10 (by decide) rfl
theorem MRel.a11 (m : MRel o ad S h) : h.2 o 11 = .ref (ad 11) := (m.2.2.1 11 (2, 40) rfl).1
theorem MRel.k11 (m : MRel o ad S h) : h.1 (ad 11) = some (.inr (2, 40)) := (m.2.2.1 11 (2, 40) rfl).2.1
theorem MRel.e11 (m : MRel o ad S h) (i : Nat) (hi : i < 40) : h.2 (ad 11) i = .int (S.2 11 i) := (m.2.2.1 11 (2, 40) rfl).2.2 i hi
theorem MRel.f12 (m : MRel o ad S h) : h.2 o 12 = .int (S.1 12) := m.2.1 12 (by decide) rfl
theorem MRel.f13 (m : MRel o ad S h) : h.2 o 13 = .int (S.1 13) := m.2.1 13 (by decide) rfl
theorem MRel.f14 (m : MRel o ad S h) : h.2 o 14 = .int (S.1 14) := m.2.1 14 (by decide) rfl
theorem MRel.f15 (m : MRel o ad S h) : h.2 o 15 = .int (S.1 15) := m.2.1 15 (by decide) rfl
theorem MRel.f16 (m : MRel o ad S h) : h.2 o 16 = .int (S.1 16) := m.2.1 16 (by decide) rfl
theorem MRel.a17 (m : MRel o ad S h) : h.2 o 17 = .ref (ad 17) := (m.2.2.1 17 (0, 12) rfl).1
theorem MRel.k17 (m : MRel o ad S h) : h.1 (ad 17) = some (.inr (0, 12)) := (m.2.2.1 17 (0, 12) rfl).2.1
theorem MRel.e17 (m : MRel o ad S h) (i : Nat) (hi : i < 12) : h.2 (ad 17) i = .int (S.2 17 i) := (m.2.2.1 17 (0, 12) rfl).2.2 i hi
theorem MRel.a18 (m : MRel o ad S h) : h.2 o 18 = .ref (ad 18) := (m.2.2.1 18 (0, 12) rfl).1
theorem MRel.k18 (m : MRel o ad S h) : h.1 (ad 18) = some (.inr (0, 12)) := (m.2.2.1 18 (0, 12) rfl).2.1
theorem MRel.e18 (m : MRel o ad S h) (i : Nat) (hi : i < 12) : h.2 (ad 18) i = .int (S.2 18 i) := (m.2.2.1 18 (0, 12) rfl).2.2 i hi
theorem MRel.a19 (m : MRel o ad S h) : h.2 o 19 = .ref (ad 19) := (m.2.2.1 19 (0, 12) rfl).1
theorem MRel.k19 (m : MRel o ad S h) : h.1 (ad 19) = some (.inr (0, 12)) := (m.2.2.1 19 (0, 12) rfl).2.1
theorem MRel.e19 (m : MRel o ad S h) (i : Nat) (hi : i < 12) : h.2 (ad 19) i = .int (S.2 19 i) := (m.2.2.1 19 (0, 12) rfl).2.2 i hi
theorem MRel.a20 (m : MRel o ad S h) : h.2 o 20 = .ref (ad 20) := (m.2.2.1 20 (0, 12) rfl).1
theorem MRel.k20 (m : MRel o ad S h) : h.1 (ad 20) = some (.inr (0, 12)) := (m.2.2.1 20 (0, 12) rfl).2.1
theorem MRel.e20 (m : MRel o ad S h) (i : Nat) (hi : i < 12) : h.2 (ad 20) i = .int (S.2 20 i) := (m.2.2.1 20 (0, 12) rfl).2.2 i hi
theorem MRel.a21 (m : MRel o ad S h) : h.2 o 21 = .ref (ad 21) := (m.2.2.1 21 (1, 12) rfl).1
theorem MRel.k21 (m : MRel o ad S h) : h.1 (ad 21) = some (.inr (1, 12)) := (m.2.2.1 21 (1, 12) rfl).2.1
theorem MRel.e21 (m : MRel o ad S h) (i : Nat) (hi : i < 12) : h.2 (ad 21) i = .int (S.2 21 i) := (m.2.2.1 21 (1, 12) rfl).2.2 i hi
theorem MRel.f22 (m : MRel o ad S h) : h.2 o 22 = .int (S.1 22) := m.2.1 22 (by decide) rfl
theorem MRel.a23 (m : MRel o ad S h) : h.2 o 23 = .ref (ad 23) := (m.2.2.1 23 (0, 200) rfl).1
theorem MRel.k23 (m : MRel o ad S h) : h.1 (ad 23) = some (.inr (0, 200)) := (m.2.2.1 23 (0, 200) rfl).2.1
theorem MRel.e23 (m : MRel o ad S h) (i : Nat) (hi : i < 200) : h.2 (ad 23) i = .int (S.2 23 i) := (m.2.2.1 23 (0, 200) rfl).2.2 i hi
theorem MRel.a24 (m : MRel o ad S h) : h.2 o 24 = .ref (ad 24) := (m.2.2.1 24 (0, 200) rfl).1
theorem MRel.k24 (m : MRel o ad S h) : h.1 (ad 24) = some (.inr (0, 200)) := (m.2.2.1 24 (0, 200) rfl).2.1
theorem MRel.e24 (m : MRel o ad S h) (i : Nat) (hi : i < 200) : h.2 (ad 24) i = .int (S.2 24 i) := (m.2.2.1 24 (0, 200) rfl).2.2 i hi
theorem MRel.a25 (m : MRel o ad S h) : h.2 o 25 = .ref (ad 25) := (m.2.2.1 25 (0, 200) rfl).1
theorem MRel.k25 (m : MRel o ad S h) : h.1 (ad 25) = some (.inr (0, 200)) := (m.2.2.1 25 (0, 200) rfl).2.1
theorem MRel.e25 (m : MRel o ad S h) (i : Nat) (hi : i < 200) : h.2 (ad 25) i = .int (S.2 25 i) := (m.2.2.1 25 (0, 200) rfl).2.2 i hi
theorem MRel.a26 (m : MRel o ad S h) : h.2 o 26 = .ref (ad 26) := (m.2.2.1 26 (0, 200) rfl).1
theorem MRel.k26 (m : MRel o ad S h) : h.1 (ad 26) = some (.inr (0, 200)) := (m.2.2.1 26 (0, 200) rfl).2.1
theorem MRel.e26 (m : MRel o ad S h) (i : Nat) (hi : i < 200) : h.2 (ad 26) i = .int (S.2 26 i) := (m.2.2.1 26 (0, 200) rfl).2.2 i hi
theorem MRel.a27 (m : MRel o ad S h) : h.2 o 27 = .ref (ad 27) := (m.2.2.1 27 (0, 200) rfl).1
theorem MRel.k27 (m : MRel o ad S h) : h.1 (ad 27) = some (.inr (0, 200)) := (m.2.2.1 27 (0, 200) rfl).2.1
theorem MRel.e27 (m : MRel o ad S h) (i : Nat) (hi : i < 200) : h.2 (ad 27) i = .int (S.2 27 i) := (m.2.2.1 27 (0, 200) rfl).2.2 i hi
theorem MRel.f28 (m : MRel o ad S h) : h.2 o 28 = .int (S.1 28) := m.2.1 28 (by decide) rfl
theorem MRel.a29 (m : MRel o ad S h) : h.2 o 29 = .ref (ad 29) := (m.2.2.1 29 (0, 40) rfl).1
theorem MRel.k29 (m : MRel o ad S h) : h.1 (ad 29) = some (.inr (0, 40)) := (m.2.2.1 29 (0, 40) rfl).2.1
theorem MRel.e29 (m : MRel o ad S h) (i : Nat) (hi : i < 40) : h.2 (ad 29) i = .int (S.2 29 i) := (m.2.2.1 29 (0, 40) rfl).2.2 i hi
theorem MRel.a30 (m : MRel o ad S h) : h.2 o 30 = .ref (ad 30) := (m.2.2.1 30 (0, 40) rfl).1
theorem MRel.k30 (m : MRel o ad S h) : h.1 (ad 30) = some (.inr (0, 40)) := (m.2.2.1 30 (0, 40) rfl).2.1
theorem MRel.e30 (m : MRel o ad S h) (i : Nat) (hi : i < 40) : h.2 (ad 30) i = .int (S.2 30 i) := (m.2.2.1 30 (0, 40) rfl).2.2 i hi
theorem MRel.a31 (m : MRel o ad S h) : h.2 o 31 = .ref (ad 31) := (m.2.2.1 31 (1, 40) rfl).1
theorem MRel.k31 (m : MRel o ad S h) : h.1 (ad 31) = some (.inr (1, 40)) := (m.2.2.1 31 (1, 40) rfl).2.1
theorem MRel.e31 (m : MRel o ad S h) (i : Nat) (hi : i < 40) : h.2 (ad 31) i = .int (S.2 31 i) := (m.2.2.1 31 (1, 40) rfl).2.2 i hi
theorem MRel.f32 (m : MRel o ad S h) : h.2 o 32 = .int (S.1 32) := m.2.1 32 (by decide) rfl
theorem MRel.a33 (m : MRel o ad S h) : h.2 o 33 = .ref (ad 33) := (m.2.2.1 33 (0, 8) rfl).1
theorem MRel.k33 (m : MRel o ad S h) : h.1 (ad 33) = some (.inr (0, 8)) := (m.2.2.1 33 (0, 8) rfl).2.1
theorem MRel.e33 (m : MRel o ad S h) (i : Nat) (hi : i < 8) : h.2 (ad 33) i = .int (S.2 33 i) := (m.2.2.1 33 (0, 8) rfl).2.2 i hi
theorem MRel.f34 (m : MRel o ad S h) : h.2 o 34 = .int (S.1 34) := m.2.1 34 (by decide) rfl
end MF
