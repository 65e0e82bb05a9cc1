/-! orders as lists, and the reference's own words for them -/
def LTk (K : Nat → Int) (a c : Nat) : Prop := K a < K c ∨ (K a = K c ∧ a < c)
theorem pw_lt {K : Nat → Int} {ls : List Nat} (hs : ls.Pairwise (LTk K)) {i j a c : Nat} (hi : ls[i]? = some a) (hj : ls[j]? = some c) : LTk K a c ↔ i < j := by
  have key : ∀ {i j a c : Nat}, ls[i]? = some a → ls[j]? = some c → i < j → LTk K a c := by
    intro i j a c hi hj hij
    obtain ⟨h1, h2⟩ := List.getElem?_eq_some_iff.mp hi
    obtain ⟨h3, h4⟩ := List.getElem?_eq_some_iff.mp hj
    rw [← h2, ← h4]
    exact List.pairwise_iff_getElem.mp hs i j h1 h3 hij
  refine ⟨fun h => ?_, key hi hj⟩
  rcases Nat.lt_trichotomy i j with h1 | h1 | h1
  · exact h1
  · subst h1
    rw [hi] at hj
    cases hj
    unfold LTk at h
    omega
  · have h2 := key hj hi h1
    unfold LTk at h h2
    omega
theorem pw_nodup {K : Nat → Int} {ls : List Nat} (hs : ls.Pairwise (LTk K)) : ls.Nodup := by
  refine List.Pairwise.imp (fun {a c} h => ?_) hs
  unfold LTk at h
  intro e
  subst e
  omega
theorem ahd_iff (S : MS) (a c : Nat) : ahd S a c = true ↔ S.2 7 a = S.2 7 c ∧ LTk (fun t => (S.2 8 t).toInt) a c := by
  unfold ahd LTk
  simp only [Bool.and_eq_true, Bool.or_eq_true, decide_eq_true_eq, Int32.lt_iff_toInt_lt, ← Int32.toInt_inj (x := S.2 8 a)]
theorem jst_char (S : MS) (s : Nat) : ∀ n, (∀ c, lp (jstep S s) none n = some c → c < n ∧ ahd S c s = true ∧ ∀ t, t < n → ahd S t s = true → t = c ∨ ahd S t c = true) ∧ (lp (jstep S s) none n = none → ∀ t, t < n → ahd S t s = false) := by
  intro n
  induction n with
  | zero => exact ⟨fun c h => by simp [lp] at h, fun _ t ht => absurd ht (by omega)⟩
  | succ n ih =>
    obtain ⟨ih1, ih2⟩ := ih
    have e0 : lp (jstep S s) none (n + 1) = jstep S s n (lp (jstep S s) none n) := rfl
    rw [e0]
    generalize lp (jstep S s) none n = B at ih1 ih2 ⊢
    unfold jstep
    cases hn : ahd S n s with
    | false =>
      simp only [Bool.false_eq_true, ↓reduceIte]
      refine ⟨fun c hc => ?_, fun h t ht => ?_⟩
      · obtain ⟨a1, a2, a3⟩ := ih1 c hc
        refine ⟨by omega, a2, fun t ht h => ?_⟩
        by_cases e : t = n
        · subst e; rw [hn] at h; cases h
        · exact a3 t (by omega) h
      · by_cases e : t = n
        · subst e; exact hn
        · exact ih2 h t (by omega)
    | true =>
      simp only [↓reduceIte]
      have hn1 := (ahd_iff S n s).mp hn
      cases B with
      | none =>
        refine ⟨fun c hc => ?_, fun h => by simp at h⟩
        cases hc
        refine ⟨by omega, hn, fun t ht h => ?_⟩
        by_cases e : t = n
        · exact Or.inl e
        · rw [ih2 rfl t (by omega)] at h; cases h
      | some c0 =>
        obtain ⟨a1, a2, a3⟩ := ih1 c0 rfl
        have a21 := (ahd_iff S c0 s).mp a2
        refine ⟨fun c hc => ?_, fun h => by revert h; dsimp only; split <;> intro h <;> cases h⟩
        dsimp only at hc
        split at hc
        · rename_i q
          cases hc
          have q1 := (ahd_iff S c0 n).mp q
          refine ⟨by omega, hn, fun t ht h => ?_⟩
          by_cases e : t = n
          · exact Or.inl e
          · rcases a3 t (by omega) h with h1 | h1
            · subst h1; exact Or.inr q
            · refine Or.inr ((ahd_iff S t n).mpr ⟨((ahd_iff S t c0).mp h1).1.trans q1.1, ?_⟩)
              have h2 := ((ahd_iff S t c0).mp h1).2
              have h3 := q1.2
              unfold LTk at h2 h3 ⊢
              omega
        · rename_i q
          cases hc
          refine ⟨by omega, a2, fun t ht h => ?_⟩
          by_cases e : t = n
          · subst e
            refine Or.inr ((ahd_iff S t c0).mpr ⟨hn1.1.trans a21.1.symm, ?_⟩)
            have q1 : ¬ LTk (fun t => (S.2 8 t).toInt) c0 t := fun z => q ((ahd_iff S c0 t).mpr ⟨a21.1.trans hn1.1.symm, z⟩)
            unfold LTk at q1 ⊢
            omega
          · exact a3 t (by omega) h
theorem foldl_sh {f : Nat → Int32} : ∀ (ls : List Nat) (a x : Int32), ls.foldl (fun z t => z + f t) (a + x) = ls.foldl (fun z t => z + f t) a + x
  | [], a, x => rfl
  | t :: ls, a, x => by
    show ls.foldl (fun z t => z + f t) (a + x + f t) = _
    rw [show a + x + f t = a + f t + x by rw [Int32.add_assoc, Int32.add_comm x, ← Int32.add_assoc], foldl_sh ls]
    rfl
theorem sum_ls {f : Nat → Int32} {P : Nat → Bool} : ∀ (n : Nat) (ls : List Nat), ls.Nodup → (∀ t, t ∈ ls ↔ t < n ∧ P t = true) → ∀ a, lp (fun t z => z + (if P t = true then f t else 0)) a n = ls.foldl (fun z t => z + f t) a := by
  intro n
  induction n with
  | zero =>
    intro ls _ hm a
    have : ls = [] := List.eq_nil_iff_forall_not_mem.mpr (fun t ht => absurd ((hm t).mp ht).1 (by omega))
    subst this
    rfl
  | succ n ih =>
    intro ls hnd hm a
    have e0 : lp (fun t z => z + (if P t = true then f t else 0)) a (n + 1) = lp (fun t z => z + (if P t = true then f t else 0)) a n + (if P n = true then f n else 0) := rfl
    rw [e0]
    by_cases hp : P n = true
    · have hin : n ∈ ls := (hm n).mpr ⟨by omega, hp⟩
      obtain ⟨u, v, rfl⟩ := List.append_of_mem hin
      have hnd2 : (u ++ v).Nodup := by
        rw [List.nodup_append] at hnd ⊢
        obtain ⟨a1, a2, a3⟩ := hnd
        exact ⟨a1, (List.nodup_cons.mp a2).2, fun x hx y hy => a3 x hx y (List.mem_cons_of_mem _ hy)⟩
      have hnn : n ∉ u ++ v := by
        rw [List.nodup_append] at hnd
        obtain ⟨a1, a2, a3⟩ := hnd
        intro hx
        rcases List.mem_append.mp hx with hx | hx
        · exact a3 n hx n List.mem_cons_self rfl
        · exact (List.nodup_cons.mp a2).1 hx
      rw [ih (u ++ v) hnd2 (fun t => ?_) a, if_pos hp, List.foldl_append, List.foldl_append]
      · show _ = v.foldl (fun z t => z + f t) (u.foldl (fun z t => z + f t) a + f n)
        rw [foldl_sh]
      · refine ⟨fun h => ?_, fun h => ?_⟩
        · have h1 : t ∈ u ++ n :: v := by
            rcases List.mem_append.mp h with h | h
            · exact List.mem_append_left _ h
            · exact List.mem_append_right _ (List.mem_cons_of_mem _ h)
          have h2 := (hm t).mp h1
          have h3 : t ≠ n := fun e => hnn (by rw [← e]; exact h)
          exact ⟨by omega, h2.2⟩
        · have h1 := (hm t).mpr ⟨by omega, h.2⟩
          rcases List.mem_append.mp h1 with h1 | h1
          · exact List.mem_append_left _ h1
          · rcases List.mem_cons.mp h1 with h1 | h1
            · omega
            · exact List.mem_append_right _ h1
    · rw [if_neg hp, Int32.add_zero]
      refine ih ls hnd (fun t => ?_) a
      rw [hm t]
      refine ⟨fun h => ⟨?_, h.2⟩, fun h => ⟨by omega, h.2⟩⟩
      by_cases e : t = n
      · subst e; exact absurd h.2 hp
      · omega
/-- a loop over the places of a row that holds a list -/
theorem lp_row {α : Type} {g : α → Nat → α} {ls : List Nat} : ∀ m, ls.length ≤ m → ∀ a, lp (fun j z => match ls[j]? with
    | none => z
    | some t => g z t) a m = ls.foldl g a := by
  have key : ∀ k, k ≤ ls.length → ∀ a, lp (fun j z => match ls[j]? with
    | none => z
    | some t => g z t) a k = (ls.take k).foldl g a := by
    intro k
    induction k with
    | zero => intro _ a; rfl
    | succ k ih =>
      intro hk a
      have hlt : k < ls.length := by omega
      have e : ls.take (k + 1) = ls.take k ++ [ls[k]] := by rw [List.take_succ_eq_append_getElem hlt]
      rw [e, List.foldl_append, ← ih (by omega) a]
      show (match ls[k]? with
        | none => _
        | some t => g _ t) = _
      rw [List.getElem?_eq_getElem hlt]
      rfl
  intro m
  induction m with
  | zero => intro h a; have : ls = [] := List.eq_nil_of_length_eq_zero (by omega); subst this; rfl
  | succ m ih =>
    intro h a
    by_cases e : ls.length = m + 1
    · rw [← e, key _ (Nat.le_refl _) a, List.take_length]
    · show (match ls[m]? with
        | none => _
        | some t => g _ t) = _
      rw [List.getElem?_eq_none (by omega)]
      exact ih (by omega) a
