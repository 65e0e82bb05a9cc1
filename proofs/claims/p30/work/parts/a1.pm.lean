/-! the law's questions, in numbers -/
section PM
variable {S : MS} {n nr nc no : Nat}
theorem ahd_int (S : MS) (s t : Nat) : ahd S s t = true ↔ S.2 7 s = S.2 7 t ∧ ((S.2 8 s).toInt < (S.2 8 t).toInt ∨ (S.2 8 s).toInt = (S.2 8 t).toInt ∧ s < t) := by
  have e : (S.2 8 s = S.2 8 t) ↔ (S.2 8 s).toInt = (S.2 8 t).toInt := ⟨fun h => by rw [h], fun h => Int32.toInt_inj.mp h⟩
  unfold ahd
  simp only [Bool.and_eq_true, Bool.or_eq_true, decide_eq_true_eq]
  rw [e, Int32.lt_iff_toInt_lt]
theorem ahd_tr {a c d : Nat} (h : ahd S a c = true) (h2 : ahd S c d = true) : ahd S a d = true := by
  rw [ahd_int] at h h2 ⊢
  exact ⟨h.1.trans h2.1, by omega⟩
theorem ahd_ir (a : Nat) : ahd S a a = false := by
  cases e : ahd S a a with
  | false => rfl
  | true => rw [ahd_int] at e; omega
theorem ahd_tot {a c : Nat} (e : S.2 7 a = S.2 7 c) (ne : a ≠ c) : ahd S a c = true ∨ ahd S c a = true := by
  rw [ahd_int, ahd_int]
  rcases Int.lt_trichotomy (S.2 8 a).toInt (S.2 8 c).toInt with h | h | h
  · exact Or.inl ⟨e, Or.inl h⟩
  · rcases Nat.lt_or_gt_of_ne ne with h2 | h2
    · exact Or.inl ⟨e, Or.inr ⟨h, h2⟩⟩
    · exact Or.inr ⟨e.symm, Or.inr ⟨h.symm, h2⟩⟩
  · exact Or.inr ⟨e.symm, Or.inl h⟩
theorem jst_sp (t : Nat) : ∀ n, (lp (jstep S t) none n = none → ∀ s, s < n → ahd S s t = false) ∧ ∀ a, lp (jstep S t) none n = some a → a < n ∧ ahd S a t = true ∧ ∀ s, s < n → ahd S s t = true → s = a ∨ ahd S s a = true
  | 0 => ⟨fun _ s h => absurd h (by omega), fun a h => nomatch h⟩
  | n + 1 => by
    obtain ⟨i1, i2⟩ := jst_sp t n
    have e : lp (jstep S t) none (n + 1) = jstep S t n (lp (jstep S t) none n) := rfl
    rw [e]
    generalize hp0 : lp (jstep S t) none n = p at i1 i2 ⊢
    unfold jstep
    cases hb : ahd S n t with
    | false =>
      rw [if_neg (by decide)]
      refine ⟨fun h s hs => ?_, fun a h => ?_⟩
      · by_cases q : s = n
        · rw [q]; exact hb
        · exact i1 h s (by omega)
      · obtain ⟨h1, h2, h3⟩ := i2 a h
        refine ⟨by omega, h2, fun s hs ha => ?_⟩
        by_cases q : s = n
        · rw [q, hb] at ha; cases ha
        · exact h3 s (by omega) ha
    | true =>
      rw [if_pos rfl]
      cases p with
      | none =>
        refine ⟨fun h => (nomatch h), fun a h => ?_⟩
        cases h
        refine ⟨by omega, hb, fun s hs ha => ?_⟩
        by_cases q : s = n
        · exact Or.inl q
        · have := i1 rfl s (by omega)
          rw [ha] at this; cases this
      | some c =>
        obtain ⟨h1, h2, h3⟩ := i2 c rfl
        dsimp only
        cases hc : ahd S c n with
        | true =>
          rw [if_pos rfl]
          refine ⟨fun h => (nomatch h), fun a h => ?_⟩
          cases h
          refine ⟨by omega, hb, fun s hs ha => ?_⟩
          by_cases q : s = n
          · exact Or.inl q
          · rcases h3 s (by omega) ha with z | z
            · rw [z]; exact Or.inr hc
            · exact Or.inr (ahd_tr z hc)
        | false =>
          rw [if_neg (by decide)]
          refine ⟨fun h => (nomatch h), fun a h => ?_⟩
          cases h
          refine ⟨by omega, h2, fun s hs ha => ?_⟩
          by_cases q : s = n
          · rw [q]
            have e7 : S.2 7 n = S.2 7 c := by
              have a1 := ((ahd_int S n t).mp hb).1
              have a2 := ((ahd_int S c t).mp h2).1
              rw [a1, a2]
            rcases ahd_tot e7 (by omega : n ≠ c) with z | z
            · exact Or.inr z
            · rw [z] at hc; cases hc
          · exact h3 s (by omega) ha
theorem jst_none {t : Nat} (h : jst S n t = none) : ∀ s, s < n → ahd S s t = false := (jst_sp t n).1 h
theorem jst_some {t a : Nat} (h : jst S n t = some a) : a < n ∧ ahd S a t = true ∧ ∀ s, s < n → ahd S s t = true → s = a ∨ ahd S s a = true := (jst_sp t n).2 a h
theorem lp_add (F : Nat → Int32) (c : Int32) : ∀ n, lp (fun t z => z + F t) c n = c + lp (fun t z => z + F t) 0 n
  | 0 => (Int32.add_zero c).symm
  | n + 1 => by
    show lp (fun t z => z + F t) c n + F n = c + (lp (fun t z => z + F t) 0 n + F n)
    rw [lp_add F c n, Int32.add_assoc]
theorem lp_zero {F : Nat → Int32} : ∀ n, (∀ t, t < n → F t = 0) → lp (fun t z => z + F t) 0 n = 0
  | 0, _ => rfl
  | n + 1, h => by
    show lp (fun t z => z + F t) 0 n + F n = 0
    rw [lp_zero n (fun t ht => h t (by omega)), h n (by omega)]; rfl
theorem sm_split {P Q : Nat → Bool} {g : Nat → Int32} {a : Nat} (ha : Q a = false) : ∀ m, (∀ t, t < m → (P t = true ↔ t = a ∨ Q t = true)) → lp (fun t z => z + (if P t = true then g t else 0)) 0 m = (if a < m then g a else 0) + lp (fun t z => z + (if Q t = true then g t else 0)) 0 m
  | 0, _ => rfl
  | m + 1, h => by
    show lp (fun t z => z + (if P t = true then g t else 0)) 0 m + (if P m = true then g m else 0) = (if a < m + 1 then g a else 0) + (lp (fun t z => z + (if Q t = true then g t else 0)) 0 m + (if Q m = true then g m else 0))
    rw [sm_split ha m (fun t ht => h t (by omega))]
    have hm := h m (by omega)
    by_cases e : m = a
    · subst e
      rw [if_pos (hm.mpr (Or.inl rfl)), if_neg (by omega), if_pos (by omega), ha, if_neg (by decide), Int32.zero_add, Int32.add_zero, Int32.add_comm]
    · have e2 : (P m = true) ↔ (Q m = true) := hm.trans ⟨fun z => z.resolve_left e, Or.inr⟩
      have e3 : (a < m + 1) ↔ (a < m) := by omega
      simp only [e2, e3]
      rw [Int32.add_assoc]
/-- the hours of s, if its week is that of t -/
def wg (S : MS) (t s : Nat) : Int32 := if S.2 8 s / 168 = S.2 8 t / 168 then S.2 9 s - S.2 8 s else 0
def wsm (S : MS) (n t x : Nat) : Int32 := lp (fun s z => z + (if ahd S s x = true then wg S t s else 0)) 0 n
theorem wkh_eq (S : MS) (n t : Nat) : wkh S n t = (S.2 9 t - S.2 8 t) + wsm S n t t := by
  unfold wkh wsm
  rw [← lp_add]
  refine lp_cg _ (fun s _ a => ?_)
  congr 1
  unfold wg
  by_cases q1 : ahd S s t = true
  · by_cases q2 : S.2 8 s / 168 = S.2 8 t / 168
    · simp [q1, q2]
    · simp [q1, q2]
  · simp [q1]
theorem wsm_n {t x : Nat} (h : jst S n x = none) : wsm S n t x = 0 := lp_zero n (fun s hs => by rw [jst_none h s hs]; rfl)
theorem wsm_s {t x a : Nat} (h : jst S n x = some a) : wsm S n t x = wg S t a + wsm S n t a := by
  obtain ⟨h1, h2, h3⟩ := jst_some h
  unfold wsm
  rw [sm_split (P := fun s => ahd S s x) (Q := fun s => ahd S s a) (ahd_ir a) n (fun s hs => ⟨h3 s hs, fun z => ?_⟩), if_pos h1]
  rcases z with z | z
  · rw [z]; exact h2
  · exact ahd_tr z h2
theorem SW.b8 (sw : SW n nr nc no S) {s : Nat} (hs : s < n) : ∃ m, m ≤ 2000 ∧ S.2 8 s = nI m := (sw.2.1 s hs).2.2.2.2.1
/-- what falls along the way back -/
def msr (S : MS) (x : Nat) : Nat := 64 * (S.2 8 x).toNatClampNeg + x
theorem msr_lt (sw : SW n nr nc no S) (h10 : n ≤ 10) {a x : Nat} (ha : a < n) (hx : x < n) (h : ahd S a x = true) : msr S a < msr S x := by
  obtain ⟨m, m1, m2⟩ := sw.b8 ha
  obtain ⟨u, u1, u2⟩ := sw.b8 hx
  rw [ahd_int, m2, u2, nI_toInt (by omega), nI_toInt (by omega)] at h
  unfold msr
  rw [m2, u2, nIc (by omega), nIc (by omega)]
  omega
/-- the law's order of shifts, one number each -/
theorem key_le (sw : SW n nr nc no S) (h10 : n ≤ 10) {a x : Nat} (ha : a < n) (hx : x < n) (e7 : S.2 7 a = S.2 7 x) : (64 * S.2 8 x + nI x ≤ 64 * S.2 8 a + nI a) = (ahd S a x = false) := by
  obtain ⟨m, m1, m2⟩ := sw.b8 ha
  obtain ⟨u, u1, u2⟩ := sw.b8 hx
  have e : (64 : Int32) = nI 64 := rfl
  have h := ahd_int S a x
  rw [m2, u2, nI_toInt (by omega), nI_toInt (by omega)] at h
  rw [m2, u2, e, pk_mul, pk_mul, nJ_add, nJ_add]
  apply propext
  rw [Int32.le_iff_toInt_le, nI_toInt (by omega), nI_toInt (by omega)]
  cases hb : ahd S a x with
  | true => rw [hb] at h; have := h.mp rfl; exact ⟨fun z => by omega, fun z => nomatch z⟩
  | false =>
    refine ⟨fun _ => rfl, fun _ => ?_⟩
    have h9 : ¬ (S.2 7 a = S.2 7 x ∧ ((m : Int) < u ∨ (m : Int) = u ∧ a < x)) := fun z => by rw [h.mpr z] at hb; cases hb
    have : ¬ ((m : Int) < u ∨ (m : Int) = u ∧ a < x) := fun z => h9 ⟨e7, z⟩
    omega
theorem jst_lt {t a : Nat} (h : jst S n t = some a) : a < n := (jst_some h).1
theorem lp_anT {g : Nat → Bool} : ∀ n, lp (fun i z => z && g i) true n = true ↔ ∀ i, i < n → g i = true
  | 0 => ⟨fun _ i h => absurd h (by omega), fun _ => rfl⟩
  | n + 1 => by
    show (lp (fun i z => z && g i) true n && g n) = true ↔ _
    rw [Bool.and_eq_true, lp_anT n]
    refine ⟨fun h i hi => ?_, fun h => ⟨fun i hi => h i (by omega), h n (by omega)⟩⟩
    by_cases e : i = n
    · rw [e]; exact h.2
    · exact h.1 i (by omega)
theorem hsh_ex {w dd : Int32} : ∀ m, lp (fun s a => a || (decide (S.2 7 s = w) && decide (S.2 8 s / 24 = dd))) false m = true → ∃ s, s < m ∧ S.2 8 s / 24 = dd
  | 0, h => nomatch h
  | m + 1, h => by
    have h : (lp (fun s a => a || (decide (S.2 7 s = w) && decide (S.2 8 s / 24 = dd))) false m || (decide (S.2 7 m = w) && decide (S.2 8 m / 24 = dd))) = true := h
    rw [Bool.or_eq_true, Bool.and_eq_true, decide_eq_true_eq, decide_eq_true_eq] at h
    rcases h with h | h
    · obtain ⟨s, h1, h2⟩ := hsh_ex m h
      exact ⟨s, by omega, h2⟩
    · exact ⟨m, by omega, h.2⟩
theorem b24 {m : Nat} (h : m ≤ 2048) : nI m / 24 = nI (m / 24) := pk_div (d := 24) (by omega) (by decide) (by decide)
theorem hsh_day (sw : SW n nr nc no S) {t i : Nat} (ht : t < n) (hi : i < 300) {w : Int32} (h : hsh S n w (S.2 8 t / 24 - nI (i + 1)) = true) : nI (i + 1) ≤ S.2 8 t / 24 := by
  obtain ⟨s, hs, e⟩ := hsh_ex n h
  obtain ⟨m, m1, m2⟩ := sw.b8 hs
  obtain ⟨u, u1, u2⟩ := sw.b8 ht
  rw [m2, u2, b24 (by omega), b24 (by omega)] at e
  rw [u2, b24 (by omega), Int32.le_iff_toInt_le, nI_toInt (by omega), nI_toInt (by omega)]
  have e2 : nI (u / 24) = nI (m / 24 + (i + 1)) := by rw [← nJ_add, e, Int32.sub_add_cancel]
  have e3 := congrArg Int32.toInt e2
  rw [nI_toInt (by omega), nI_toInt (by omega)] at e3
  omega
theorem inr_iff (sw : SW n nr nc no S) {t m : Nat} (ht : t < n) (hm : m ≤ 200) : inr S n t m = true ↔ ∀ i, i < m → hsh S n (S.2 7 t) (S.2 8 t / 24 - nI (i + 1)) = true := by
  unfold inr
  rw [lp_anT]
  refine ⟨fun h i hi => ?_, fun h i hi => ?_⟩
  · have := h i hi
    rw [Bool.and_eq_true] at this
    exact this.2
  · rw [Bool.and_eq_true, decide_eq_true_eq]
    exact ⟨hsh_day sw ht (by omega) (h i hi), h i hi⟩
theorem inr_f (sw : SW n nr nc no S) {t m d : Nat} (ht : t < n) (hm : m ≤ 200) (hd : d < m) (h : hsh S n (S.2 7 t) (S.2 8 t / 24 - nI (d + 1)) = false) : inr S n t m = false := by
  cases e : inr S n t m with
  | false => rfl
  | true => rw [(inr_iff sw ht hm).mp e d hd] at h; cases h
end PM
