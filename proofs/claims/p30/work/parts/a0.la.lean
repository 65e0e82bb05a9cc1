/-! THE LAW: its seven arrays (c k p r q z g), and what they say of S -/
def lln (k : Nat) : Nat := match k with
  | 0 => 5
  | 1 => 8
  | 2 => 60
  | 3 => 20
  | 4 => 64
  | 5 => 64
  | _ => 36
def LA (A : Nat → Nat) (W : Nat → Nat → Int32) (h : Hp) : Prop := (∀ k, k < 7 → h.1 (A k) = some (.inr (0, lln k)) ∧ ∀ i, i < lln k → h.2 (A k) i = .int (W k i)) ∧ ∀ j k, j < 7 → k < 7 → A j = A k → j = k
def LTo (A : Nat → Nat) (W : Nat → Nat → Int32) (h h' : Hp) : Prop := LA A W h' ∧ h'.1 = h.1 ∧ ∀ a, (∀ k, k < 7 → a ≠ A k) → h'.2 a = h.2 a
/-- a number between 0 and B -/
def nn (x : Int32) (B : Nat) : Prop := ∃ m, m ≤ B ∧ x = nI m
/-- what was paid and not taken back -/
def pdo (S : MS) (c : Nat) : Int32 := if S.2 26 c = 1 ∨ S.2 26 c = 3 then S.2 27 c else 0
def LR (W : Nat → Nat → Int32) (n nr nc no : Nat) (S : MS) : Prop :=
  (W 0 0 = S.1 0 ∧ W 0 1 = nI n ∧ W 0 2 = nI nr ∧ W 0 3 = nI nc ∧ W 0 4 = nI no) ∧ (n ≤ 10 ∧ nr ≤ 4 ∧ nc ≤ 63 ∧ no ≤ 12 ∧ S.1 10 = 0) ∧
  (∀ s, s < n → W 2 (0 + s) = S.2 4 s ∧ W 2 (10 + s) = S.2 5 s ∧ W 2 (20 + s) = S.2 6 s ∧ W 2 (30 + s) = S.2 7 s ∧ W 2 (40 + s) = S.2 8 s ∧ W 2 (50 + s) = S.2 9 s) ∧
  (∀ r, r < nr → W 3 (0 + r) = S.2 17 r ∧ W 3 (4 + r) = S.2 18 r ∧ W 3 (8 + r) = S.2 19 r ∧ W 3 (12 + r) = S.2 20 r ∧ W 3 (16 + r) = S.2 21 r) ∧
  (∀ c, c < nc → W 4 c = 10000 * S.2 23 c + 100 * S.2 24 c + S.2 25 c ∧ W 5 c = S.2 26 c + 4 * pdo S c) ∧
  (∀ f, f < no → W 6 (0 + f) = S.2 29 f ∧ W 6 (12 + f) = S.2 30 f ∧ W 6 (24 + f) = S.2 31 f) ∧
  ∀ w, w < 4 → W 1 (0 + w) = S.2 1 w ∧ W 1 (4 + w) = S.2 2 w
/-- the numbers of S are small -/
def SW (n nr nc no : Nat) (S : MS) : Prop :=
  (nn (S.1 0) 2000 ∧ S.1 3 = nI n ∧ S.1 16 = nI nr ∧ S.1 22 = nI nc ∧ S.1 28 = nI no ∧ ∀ c, nn (S.2 27 c) 48000) ∧
  (∀ s, s < n → nn (S.2 4 s) 2000 ∧ nn (S.2 5 s) 2016 ∧ nn (S.2 6 s) 3 ∧ (∃ u, S.2 7 s = oI u ∧ ∀ w, u = some w → w < 4) ∧ nn (S.2 8 s) 2000 ∧ nn (S.2 9 s) 2024 ∧ nn (S.2 9 s - S.2 8 s) 24 ∧ nn (S.2 5 s - S.2 4 s) 16) ∧
  (∀ r, r < nr → nn (S.2 17 r) 3 ∧ (∃ m, 1 ≤ m ∧ m ≤ 200 ∧ S.2 18 r = nI m) ∧ (S.2 19 r = -1 ∨ nn (S.2 19 r) 3) ∧ nn (S.2 20 r) 200 ∧ nn (S.2 21 r) 1) ∧
  (∀ c, c < nc → (∃ w s r, w < 4 ∧ s < n ∧ r < nr ∧ S.2 23 c = nI w ∧ S.2 24 c = nI s ∧ S.2 25 c = nI r) ∧ nn (S.2 26 c) 3) ∧
  (∀ c d, c < nc → d < nc → S.2 23 c = S.2 23 d → S.2 24 c = S.2 24 d → S.2 25 c = S.2 25 d → c = d) ∧
  (∀ f, f < no → (∃ g t, g < n ∧ t < n ∧ S.2 29 f = nI g ∧ S.2 30 f = nI t) ∧ nn (S.2 31 f) 1) ∧
  ∀ w, w < 4 → nn (S.2 1 w) 15 ∧ nn (S.2 2 w) 1000
section LAA
variable {A : Nat → Nat} {W : Nat → Nat → Int32} {h h0 h' h'' : Hp} {n nr nc no : Nat} {S : MS}
theorem LTo.rf (m : LA A W h) : LTo A W h h := ⟨m, rfl, fun _ _ => rfl⟩
theorem LTo.tr {W' : Nat → Nat → Int32} (a : LTo A W h h') (c : LTo A W' h' h'') : LTo A W' h h'' := ⟨c.1, c.2.1.trans a.2.1, fun x hx => (c.2.2 x hx).trans (a.2.2 x hx)⟩
theorem LTo.set (t : LTo A W h0 h) (k i : Nat) (x : Int32) (hk : k < 7) : LTo A (aup W k i x) h0 (h.1, hup h.2 (A k) i (.int x)) := by
  have m := t.1
  refine ⟨⟨fun j hj => ⟨(m.1 j hj).1, fun z hz => ?_⟩, m.2⟩, t.2.1, fun a ha => ?_⟩
  · show (if A j = A k ∧ z = i then Value.int x else h.2 (A j) z) = .int (if j = k ∧ z = i then x else W j z)
    by_cases e : j = k
    · subst e
      by_cases e2 : z = i
      · rw [if_pos ⟨rfl, e2⟩, if_pos ⟨rfl, e2⟩]
      · rw [if_neg (fun w => e2 w.2), if_neg (fun w => e2 w.2)]
        exact (m.1 j hj).2 z hz
    · rw [if_neg (fun w => e (m.2 j k hj hk w.1)), if_neg (fun w => e w.1)]
      exact (m.1 j hj).2 z hz
  · show hup h.2 (A k) i (.int x) a = h0.2 a
    rw [hup_ne _ _ (ha k hk)]
    exact t.2.2 a ha
theorem LA.aa (m : LA A W h) (j k : Nat) (hj : j < 7) (hk : k < 7) : (A j = A k) = (j = k) := propext ⟨m.2 j k hj hk, fun e => by rw [e]⟩
theorem LA.k0 (m : LA A W h) : h.1 (A 0) = some (.inr (0, 5)) := (m.1 0 (by decide)).1
theorem LA.e0 (m : LA A W h) {i : Nat} (hi : i < 5) : h.2 (A 0) i = .int (W 0 i) := (m.1 0 (by decide)).2 i hi
theorem LA.k1 (m : LA A W h) : h.1 (A 1) = some (.inr (0, 8)) := (m.1 1 (by decide)).1
theorem LA.e1 (m : LA A W h) {i : Nat} (hi : i < 8) : h.2 (A 1) i = .int (W 1 i) := (m.1 1 (by decide)).2 i hi
theorem LA.k2 (m : LA A W h) : h.1 (A 2) = some (.inr (0, 60)) := (m.1 2 (by decide)).1
theorem LA.e2 (m : LA A W h) {i : Nat} (hi : i < 60) : h.2 (A 2) i = .int (W 2 i) := (m.1 2 (by decide)).2 i hi
theorem LA.k3 (m : LA A W h) : h.1 (A 3) = some (.inr (0, 20)) := (m.1 3 (by decide)).1
theorem LA.e3 (m : LA A W h) {i : Nat} (hi : i < 20) : h.2 (A 3) i = .int (W 3 i) := (m.1 3 (by decide)).2 i hi
theorem LA.k4 (m : LA A W h) : h.1 (A 4) = some (.inr (0, 64)) := (m.1 4 (by decide)).1
theorem LA.e4 (m : LA A W h) {i : Nat} (hi : i < 64) : h.2 (A 4) i = .int (W 4 i) := (m.1 4 (by decide)).2 i hi
theorem LA.k5 (m : LA A W h) : h.1 (A 5) = some (.inr (0, 64)) := (m.1 5 (by decide)).1
theorem LA.e5 (m : LA A W h) {i : Nat} (hi : i < 64) : h.2 (A 5) i = .int (W 5 i) := (m.1 5 (by decide)).2 i hi
theorem LA.k6 (m : LA A W h) : h.1 (A 6) = some (.inr (0, 36)) := (m.1 6 (by decide)).1
theorem LA.e6 (m : LA A W h) {i : Nat} (hi : i < 36) : h.2 (A 6) i = .int (W 6 i) := (m.1 6 (by decide)).2 i hi
theorem LR.h10 (lr : LR W n nr nc no S) : n ≤ 10 := lr.2.1.1
theorem LR.h4 (lr : LR W n nr nc no S) : nr ≤ 4 := lr.2.1.2.1
theorem LR.h63 (lr : LR W n nr nc no S) : nc ≤ 63 := lr.2.1.2.2.1
theorem LR.h12 (lr : LR W n nr nc no S) : no ≤ 12 := lr.2.1.2.2.2.1
theorem LR.x10 (lr : LR W n nr nc no S) : S.1 10 = 0 := lr.2.1.2.2.2.2
theorem LR.s10 (lr : LR W n nr nc no S) {s : Nat} (hs : s < n) : s < 10 := Nat.lt_of_lt_of_le hs lr.h10
theorem LR.r4 (lr : LR W n nr nc no S) {s : Nat} (hs : s < nr) : s < 4 := Nat.lt_of_lt_of_le hs lr.h4
theorem LR.c63 (lr : LR W n nr nc no S) {s : Nat} (hs : s < nc) : s < 63 := Nat.lt_of_lt_of_le hs lr.h63
theorem LR.f12 (lr : LR W n nr nc no S) {s : Nat} (hs : s < no) : s < 12 := Nat.lt_of_lt_of_le hs lr.h12
theorem ap0 (la : LA A W h) (lr : LR W n nr nc no S) {s : Nat} (hs : s < n) : h.2 (A 2) (0 + s) = .int (S.2 4 s) := by rw [la.e2 (by have := lr.s10 hs; omega), (lr.2.2.1 s hs).1]
theorem ap10 (la : LA A W h) (lr : LR W n nr nc no S) {s : Nat} (hs : s < n) : h.2 (A 2) (10 + s) = .int (S.2 5 s) := by rw [la.e2 (by have := lr.s10 hs; omega), (lr.2.2.1 s hs).2.1]
theorem ap20 (la : LA A W h) (lr : LR W n nr nc no S) {s : Nat} (hs : s < n) : h.2 (A 2) (20 + s) = .int (S.2 6 s) := by rw [la.e2 (by have := lr.s10 hs; omega), (lr.2.2.1 s hs).2.2.1]
theorem ap30 (la : LA A W h) (lr : LR W n nr nc no S) {s : Nat} (hs : s < n) : h.2 (A 2) (30 + s) = .int (S.2 7 s) := by rw [la.e2 (by have := lr.s10 hs; omega), (lr.2.2.1 s hs).2.2.2.1]
theorem ap40 (la : LA A W h) (lr : LR W n nr nc no S) {s : Nat} (hs : s < n) : h.2 (A 2) (40 + s) = .int (S.2 8 s) := by rw [la.e2 (by have := lr.s10 hs; omega), (lr.2.2.1 s hs).2.2.2.2.1]
theorem ap50 (la : LA A W h) (lr : LR W n nr nc no S) {s : Nat} (hs : s < n) : h.2 (A 2) (50 + s) = .int (S.2 9 s) := by rw [la.e2 (by have := lr.s10 hs; omega), (lr.2.2.1 s hs).2.2.2.2.2]
theorem ap00 (la : LA A W h) (lr : LR W n nr nc no S) {s : Nat} (hs : s < n) : h.2 (A 2) s = .int (S.2 4 s) := by have := ap0 la lr hs; rwa [Nat.zero_add] at this
theorem ar0 (la : LA A W h) (lr : LR W n nr nc no S) {s : Nat} (hs : s < nr) : h.2 (A 3) (0 + s) = .int (S.2 17 s) := by rw [la.e3 (by have := lr.r4 hs; omega), (lr.2.2.2.1 s hs).1]
theorem ar4 (la : LA A W h) (lr : LR W n nr nc no S) {s : Nat} (hs : s < nr) : h.2 (A 3) (4 + s) = .int (S.2 18 s) := by rw [la.e3 (by have := lr.r4 hs; omega), (lr.2.2.2.1 s hs).2.1]
theorem ar8 (la : LA A W h) (lr : LR W n nr nc no S) {s : Nat} (hs : s < nr) : h.2 (A 3) (8 + s) = .int (S.2 19 s) := by rw [la.e3 (by have := lr.r4 hs; omega), (lr.2.2.2.1 s hs).2.2.1]
theorem ar12 (la : LA A W h) (lr : LR W n nr nc no S) {s : Nat} (hs : s < nr) : h.2 (A 3) (12 + s) = .int (S.2 20 s) := by rw [la.e3 (by have := lr.r4 hs; omega), (lr.2.2.2.1 s hs).2.2.2.1]
theorem ar16 (la : LA A W h) (lr : LR W n nr nc no S) {s : Nat} (hs : s < nr) : h.2 (A 3) (16 + s) = .int (S.2 21 s) := by rw [la.e3 (by have := lr.r4 hs; omega), (lr.2.2.2.1 s hs).2.2.2.2]
theorem ar00 (la : LA A W h) (lr : LR W n nr nc no S) {s : Nat} (hs : s < nr) : h.2 (A 3) s = .int (S.2 17 s) := by have := ar0 la lr hs; rwa [Nat.zero_add] at this
theorem aq (la : LA A W h) (lr : LR W n nr nc no S) {s : Nat} (hs : s < nc) : h.2 (A 4) s = .int (10000 * S.2 23 s + 100 * S.2 24 s + S.2 25 s) := by rw [la.e4 (by have := lr.c63 hs; omega), (lr.2.2.2.2.1 s hs).1]
theorem az (la : LA A W h) (lr : LR W n nr nc no S) {s : Nat} (hs : s < nc) : h.2 (A 5) s = .int (S.2 26 s + 4 * pdo S s) := by rw [la.e5 (by have := lr.c63 hs; omega), (lr.2.2.2.2.1 s hs).2]
theorem ag0 (la : LA A W h) (lr : LR W n nr nc no S) {s : Nat} (hs : s < no) : h.2 (A 6) (0 + s) = .int (S.2 29 s) := by rw [la.e6 (by have := lr.f12 hs; omega), (lr.2.2.2.2.2.1 s hs).1]
theorem ag12 (la : LA A W h) (lr : LR W n nr nc no S) {s : Nat} (hs : s < no) : h.2 (A 6) (12 + s) = .int (S.2 30 s) := by rw [la.e6 (by have := lr.f12 hs; omega), (lr.2.2.2.2.2.1 s hs).2.1]
theorem ag24 (la : LA A W h) (lr : LR W n nr nc no S) {s : Nat} (hs : s < no) : h.2 (A 6) (24 + s) = .int (S.2 31 s) := by rw [la.e6 (by have := lr.f12 hs; omega), (lr.2.2.2.2.2.1 s hs).2.2]
theorem ag00 (la : LA A W h) (lr : LR W n nr nc no S) {s : Nat} (hs : s < no) : h.2 (A 6) s = .int (S.2 29 s) := by have := ag0 la lr hs; rwa [Nat.zero_add] at this
theorem ak0 (la : LA A W h) (lr : LR W n nr nc no S) {s : Nat} (hs : s < 4) : h.2 (A 1) (0 + s) = .int (S.2 1 s) := by rw [la.e1 (by omega), (lr.2.2.2.2.2.2 s hs).1]
theorem ak4 (la : LA A W h) (lr : LR W n nr nc no S) {s : Nat} (hs : s < 4) : h.2 (A 1) (4 + s) = .int (S.2 2 s) := by rw [la.e1 (by omega), (lr.2.2.2.2.2.2 s hs).2]
theorem ak00 (la : LA A W h) (lr : LR W n nr nc no S) {s : Nat} (hs : s < 4) : h.2 (A 1) s = .int (S.2 1 s) := by have := ak0 la lr hs; rwa [Nat.zero_add] at this
theorem ac0 (la : LA A W h) (lr : LR W n nr nc no S) : h.2 (A 0) 0 = .int (S.1 0) := by rw [la.e0 (by decide), lr.1.1]
theorem ac1 (la : LA A W h) (lr : LR W n nr nc no S) : h.2 (A 0) 1 = .int (nI n) := by rw [la.e0 (by decide), lr.1.2.1]
theorem ac2 (la : LA A W h) (lr : LR W n nr nc no S) : h.2 (A 0) 2 = .int (nI nr) := by rw [la.e0 (by decide), lr.1.2.2.1]
theorem ac3 (la : LA A W h) (lr : LR W n nr nc no S) : h.2 (A 0) 3 = .int (nI nc) := by rw [la.e0 (by decide), lr.1.2.2.2.1]
theorem ac4 (la : LA A W h) (lr : LR W n nr nc no S) : h.2 (A 0) 4 = .int (nI no) := by rw [la.e0 (by decide), lr.1.2.2.2.2]
end LAA
/-! places in the arrays -/
theorem xk4 (s : Nat) : (4 : Int32) + nI s = nI (4 + s) := nJ_add 4 s
theorem xk8 (s : Nat) : (8 : Int32) + nI s = nI (8 + s) := nJ_add 8 s
theorem xk10 (s : Nat) : (10 : Int32) + nI s = nI (10 + s) := nJ_add 10 s
theorem xk12 (s : Nat) : (12 : Int32) + nI s = nI (12 + s) := nJ_add 12 s
theorem xk16 (s : Nat) : (16 : Int32) + nI s = nI (16 + s) := nJ_add 16 s
theorem xk20 (s : Nat) : (20 : Int32) + nI s = nI (20 + s) := nJ_add 20 s
theorem xk24 (s : Nat) : (24 : Int32) + nI s = nI (24 + s) := nJ_add 24 s
theorem xk30 (s : Nat) : (30 : Int32) + nI s = nI (30 + s) := nJ_add 30 s
theorem xk40 (s : Nat) : (40 : Int32) + nI s = nI (40 + s) := nJ_add 40 s
theorem xk50 (s : Nat) : (50 : Int32) + nI s = nI (50 + s) := nJ_add 50 s
theorem vk10_10_60 {s : Nat} (h : s < 10) : vp_in (nI (10 + s)) 60 = True := eq_true (vpin (by omega) (by decide))
theorem tk10_10 {s : Nat} (h : s < 10) : (nI (10 + s)).toNatClampNeg = 10 + s := nIc (by omega)
theorem vk20_10_60 {s : Nat} (h : s < 10) : vp_in (nI (20 + s)) 60 = True := eq_true (vpin (by omega) (by decide))
theorem tk20_10 {s : Nat} (h : s < 10) : (nI (20 + s)).toNatClampNeg = 20 + s := nIc (by omega)
theorem vk30_10_60 {s : Nat} (h : s < 10) : vp_in (nI (30 + s)) 60 = True := eq_true (vpin (by omega) (by decide))
theorem tk30_10 {s : Nat} (h : s < 10) : (nI (30 + s)).toNatClampNeg = 30 + s := nIc (by omega)
theorem vk40_10_60 {s : Nat} (h : s < 10) : vp_in (nI (40 + s)) 60 = True := eq_true (vpin (by omega) (by decide))
theorem tk40_10 {s : Nat} (h : s < 10) : (nI (40 + s)).toNatClampNeg = 40 + s := nIc (by omega)
theorem vk50_10_60 {s : Nat} (h : s < 10) : vp_in (nI (50 + s)) 60 = True := eq_true (vpin (by omega) (by decide))
theorem tk50_10 {s : Nat} (h : s < 10) : (nI (50 + s)).toNatClampNeg = 50 + s := nIc (by omega)
theorem vk4_4_20 {s : Nat} (h : s < 4) : vp_in (nI (4 + s)) 20 = True := eq_true (vpin (by omega) (by decide))
theorem vk4_4_8 {s : Nat} (h : s < 4) : vp_in (nI (4 + s)) 8 = True := eq_true (vpin (by omega) (by decide))
theorem tk4_4 {s : Nat} (h : s < 4) : (nI (4 + s)).toNatClampNeg = 4 + s := nIc (by omega)
theorem vk8_4_20 {s : Nat} (h : s < 4) : vp_in (nI (8 + s)) 20 = True := eq_true (vpin (by omega) (by decide))
theorem tk8_4 {s : Nat} (h : s < 4) : (nI (8 + s)).toNatClampNeg = 8 + s := nIc (by omega)
theorem vk12_4_20 {s : Nat} (h : s < 4) : vp_in (nI (12 + s)) 20 = True := eq_true (vpin (by omega) (by decide))
theorem vk12_12_36 {s : Nat} (h : s < 12) : vp_in (nI (12 + s)) 36 = True := eq_true (vpin (by omega) (by decide))
theorem tk12_4 {s : Nat} (h : s < 4) : (nI (12 + s)).toNatClampNeg = 12 + s := nIc (by omega)
theorem tk12_12 {s : Nat} (h : s < 12) : (nI (12 + s)).toNatClampNeg = 12 + s := nIc (by omega)
theorem vk16_4_20 {s : Nat} (h : s < 4) : vp_in (nI (16 + s)) 20 = True := eq_true (vpin (by omega) (by decide))
theorem tk16_4 {s : Nat} (h : s < 4) : (nI (16 + s)).toNatClampNeg = 16 + s := nIc (by omega)
theorem vk24_12_36 {s : Nat} (h : s < 12) : vp_in (nI (24 + s)) 36 = True := eq_true (vpin (by omega) (by decide))
theorem tk24_12 {s : Nat} (h : s < 12) : (nI (24 + s)).toNatClampNeg = 24 + s := nIc (by omega)
theorem vk0_10_60 {s : Nat} (h : s < 10) : vp_in (nI s) 60 = True := eq_true (vpin (by omega) (by decide))
theorem vk0_4_20 {s : Nat} (h : s < 4) : vp_in (nI s) 20 = True := eq_true (vpin (by omega) (by decide))
theorem vk0_4_8 {s : Nat} (h : s < 4) : vp_in (nI s) 8 = True := eq_true (vpin (by omega) (by decide))
theorem vk0_63_64 {s : Nat} (h : s < 63) : vp_in (nI s) 64 = True := eq_true (vpin (by omega) (by decide))
theorem vk0_12_36 {s : Nat} (h : s < 12) : vp_in (nI s) 36 = True := eq_true (vpin (by omega) (by decide))
theorem vk0_8_8 {s : Nat} (h : s < 8) : vp_in (nI s) 8 = True := eq_true (vpin (by omega) (by decide))
theorem tk0_4 {s : Nat} (h : s < 4) : (nI s).toNatClampNeg = s := nIc (by omega)
theorem tk0_8 {s : Nat} (h : s < 8) : (nI s).toNatClampNeg = s := nIc (by omega)
theorem tk0_10 {s : Nat} (h : s < 10) : (nI s).toNatClampNeg = s := nIc (by omega)
theorem tk0_12 {s : Nat} (h : s < 12) : (nI s).toNatClampNeg = s := nIc (by omega)
theorem tk0_63 {s : Nat} (h : s < 63) : (nI s).toNatClampNeg = s := nIc (by omega)
theorem vc0 : vp_in (0 : Int32) 5 = True := eq_true (vpin (s := 0) (n := 5) (by decide) (by decide))
theorem tc0 : (0 : Int32).toNatClampNeg = 0 := by decide
theorem vc1 : vp_in (1 : Int32) 5 = True := eq_true (vpin (s := 1) (n := 5) (by decide) (by decide))
theorem tc1 : (1 : Int32).toNatClampNeg = 1 := by decide
theorem vc2 : vp_in (2 : Int32) 5 = True := eq_true (vpin (s := 2) (n := 5) (by decide) (by decide))
theorem tc2 : (2 : Int32).toNatClampNeg = 2 := by decide
theorem vc3 : vp_in (3 : Int32) 5 = True := eq_true (vpin (s := 3) (n := 5) (by decide) (by decide))
theorem tc3 : (3 : Int32).toNatClampNeg = 3 := by decide
theorem vc4 : vp_in (4 : Int32) 5 = True := eq_true (vpin (s := 4) (n := 5) (by decide) (by decide))
theorem tc4 : (4 : Int32).toNatClampNeg = 4 := by decide
