theorem lp_and {g : Nat → Bool} : ∀ m, lp (fun i z => z && g i) true m = true ↔ ∀ i, i < m → g i = true := by
  intro m
  induction m with
  | zero => exact ⟨fun _ i hi => absurd hi (by omega), fun _ => rfl⟩
  | succ m ih =>
    show (lp (fun i z => z && g i) true m && g m) = true ↔ _
    rw [Bool.and_eq_true, ih]
    refine ⟨fun ⟨h1, h2⟩ i hi => ?_, fun h => ⟨fun i hi => h i (by omega), h m (by omega)⟩⟩
    by_cases e : i = m
    · rw [e]; exact h2
    · exact h1 i (by omega)
theorem lp_or {g : Nat → Bool} : ∀ m, lp (fun i z => z || g i) false m = true ↔ ∃ i, i < m ∧ g i = true := by
  intro m
  induction m with
  | zero => exact ⟨fun h => by simp [lp] at h, fun ⟨i, hi, _⟩ => absurd hi (by omega)⟩
  | succ m ih =>
    show (lp (fun i z => z || g i) false m || g m) = true ↔ _
    rw [Bool.or_eq_true, ih]
    refine ⟨fun h => ?_, fun ⟨i, hi, h⟩ => ?_⟩
    · rcases h with ⟨i, h1, h2⟩ | h
      · exact ⟨i, by omega, h2⟩
      · exact ⟨m, by omega, h⟩
    · by_cases e : i = m
      · rw [e] at h; exact Or.inr h
      · exact Or.inl ⟨i, by omega, h⟩
/-- the day of a shift, as a number -/
def dyn (Z : ZS) (t : Nat) : Nat := (Z.1 2 t 4).toNatClampNeg / 24
theorem nI_lm {d f : Nat} (hd : d ≤ 300) (hf : f ≤ 300) : (nI d < nI f - 1) = (d + 1 < f) := by
  cases f with
  | zero =>
    refine propext ⟨fun h => ?_, fun h => absurd h (by omega)⟩
    have h1 := Int32.lt_iff_toInt_lt.mp h
    rw [nI_toInt (by omega)] at h1
    have : (nI 0 - 1).toInt = -1 := by decide
    omega
  | succ f =>
    rw [nI_pre, nJ_lt (by omega) (by omega)]
    exact propext ⟨fun h => by omega, fun h => by omega⟩
section MC
variable {N : Nat → Nat} {Z : ZS} {S : MS}
theorem dyn_ok (ir : Irg N Z) {t : Nat} (ht : t < N 2) : Z.1 2 t 4 / 24 = nI (dyn Z t) ∧ dyn Z t ≤ 100 := by
  obtain ⟨m, h1, h2⟩ := ir t ht
  unfold dyn
  rw [h2, nI_d24 _ (by omega), nIc (by omega)]
  exact ⟨rfl, by omega⟩
theorem dyn_le (ir : Irg N Z) {w : Nat} {ls : List Nat} (o : OrdL N Z w ls) {i j a c : Nat} (hi : ls[i]? = some a) (hj : ls[j]? = some c) (hij : i ≤ j) : dyn Z a ≤ dyn Z c := by
  obtain ⟨m1, a1, a2⟩ := ir a ((o.2.1 _).mp (List.mem_of_getElem? hi)).1
  obtain ⟨m2, b1, b2⟩ := ir c ((o.2.1 _).mp (List.mem_of_getElem? hj)).1
  have l1 := bg_le ir o hi hj hij a2 b2 a1 b1
  unfold dyn
  rw [a2, b2, nIc (by omega), nIc (by omega)]
  exact Nat.div_le_div_right l1
theorem dyd_ls (hn : N 2 ≤ 40) (ir : Irg N Z) {w q s : Nat} {ls : List Nat} (o : OrdL N Z w ls) (hq : ls[q]? = some s) : ∀ i, i ≤ q → ∀ f, f ≤ dyn Z s → (∀ e, f ≤ e → e ≤ dyn Z s → ∃ j t, i ≤ j ∧ j ≤ q ∧ ls[j]? = some t ∧ dyn Z t = e) → (∀ j t, i ≤ j → j ≤ q → ls[j]? = some t → f ≤ dyn Z t) →
    ∃ F, dyd Z w i (nI f) = nI F ∧ F ≤ dyn Z s ∧ (∀ e, F ≤ e → e ≤ dyn Z s → ∃ t, t ∈ ls ∧ dyn Z t = e) ∧ ∀ t, t ∈ ls → ¬ dyn Z t + 1 = F := by
  have hl := o.len hn
  have hq9 : q < ls.length := (List.getElem?_eq_some_iff.mp hq).1
  have hs := ((o.2.1 s).mp (List.mem_of_getElem? hq)).1
  have hD := (dyn_ok ir hs).2
  intro i
  induction i with
  | zero =>
    intro _ f hf hA hB
    refine ⟨f, rfl, hf, fun e h1 h2 => ?_, fun t ht he => ?_⟩
    · obtain ⟨j, t, -, -, h3, h4⟩ := hA e h1 h2
      exact ⟨t, List.mem_of_getElem? h3, h4⟩
    · obtain ⟨j, hj⟩ := List.mem_iff_getElem?.mp ht
      by_cases h : j ≤ q
      · have := hB j t (by omega) h hj
        omega
      · have := dyn_le ir o hq hj (by omega)
        omega
  | succ i ih =>
    intro hi f hf hA hB
    have hlt : i < ls.length := by omega
    have hg : ls[i]? = some ls[i] := List.getElem?_eq_getElem hlt
    have hgm := ((o.2.1 _).mp (List.mem_of_getElem? hg)).1
    have ez : Z.2 14 w i = some ls[i] := by rw [o.1 i (by omega), hg]
    obtain ⟨d1, d2⟩ := dyn_ok ir hgm
    have ew : dyd Z w (i + 1) (nI f) = if dyn Z ls[i] + 1 < f then nI f else dyd Z w i (nI (dyn Z ls[i])) := by
      show (match Z.2 14 w i with
        | none => nI f
        | some t => _) = _
      rw [ez]
      show (if Z.1 2 ls[i] 4 / 24 < nI f - 1 then nI f else dyd Z w i (Z.1 2 ls[i] 4 / 24)) = _
      rw [d1]
      simp only [nI_lm (d := dyn Z ls[i]) (f := f) (by omega) (by omega)]
    have hdf : dyn Z ls[i] ≤ f := by
      obtain ⟨j, t, h1, h2, h3, h4⟩ := hA f (Nat.le_refl _) hf
      rw [← h4]
      exact dyn_le ir o hg h3 (by omega)
    rw [ew]
    by_cases hc : dyn Z ls[i] + 1 < f
    · rw [if_pos hc]
      refine ⟨f, rfl, hf, fun e h1 h2 => ?_, fun t ht he => ?_⟩
      · obtain ⟨j, t, -, -, h3, h4⟩ := hA e h1 h2
        exact ⟨t, List.mem_of_getElem? h3, h4⟩
      · obtain ⟨j, hj⟩ := List.mem_iff_getElem?.mp ht
        by_cases h : j ≤ q
        · by_cases h9 : j ≤ i
          · have := dyn_le ir o hj hg h9
            omega
          · have := hB j t (by omega) h hj
            omega
        · have := dyn_le ir o hq hj (by omega)
          omega
    · rw [if_neg hc]
      refine ih (by omega) (dyn Z ls[i]) (by omega) (fun e h1 h2 => ?_) (fun j t h1 h2 h3 => ?_)
      · by_cases h : f ≤ e
        · obtain ⟨j, t, a1, a2, a3, a4⟩ := hA e h h2
          exact ⟨j, t, by omega, a2, a3, a4⟩
        · exact ⟨i, _, Nat.le_refl _, by omega, hg, by omega⟩
      · by_cases h : j = i
        · subst h
          rw [hg] at h3
          cases h3
          exact Nat.le_refl _
        · have := hB j t (by omega) h2 h3
          omega
theorem inr_ls (hn : N 2 ≤ 40) (rs : Rsh N Z S) (io : Iord N Z) (ir : Irg N Z) {w q s m : Nat} {ls : List Nat} (o : OrdL N Z w ls) (hq : ls[q]? = some s) (hm : m ≤ 200) : inr S (N 2) s m = decide (nI m ≤ Z.1 2 s 4 / 24 - dyd Z w q (Z.1 2 s 4 / 24)) := by
  have hs := (o.2.1 s).mp (List.mem_of_getElem? hq)
  obtain ⟨d1, d2⟩ := dyn_ok ir hs.1
  obtain ⟨F, f1, f2, f3, f4⟩ := dyd_ls hn ir o hq q (Nat.le_refl _) (dyn Z s) (Nat.le_refl _) (fun e h1 h2 => ⟨q, s, Nat.le_refl _, Nat.le_refl _, hq, by omega⟩) (fun j t h1 h2 h3 => by
    have : j = q := by omega
    subst this
    rw [hq] at h3
    cases h3
    exact Nat.le_refl _)
  rw [d1, f1, nJ_sb f2]
  simp only [nJ_le (a := m) (c := dyn Z s - F) (by omega) (by omega)]
  have hw8 := io.2 s w hs.1 hs.2
  have hh : ∀ e, e ≤ 100 → (hsh S (N 2) (S.2 7 s) (nI e) = true ↔ ∃ t, t ∈ ls ∧ dyn Z t = e) := by
    intro e he
    unfold hsh
    rw [lp_or]
    refine ⟨fun ⟨t, h1, h2⟩ => ?_, fun ⟨t, h1, h2⟩ => ?_⟩
    · rw [Bool.and_eq_true, decide_eq_true_eq, decide_eq_true_eq, (rs t h1).2.2.2.2.2, (rs s hs.1).2.2.2.2.2, hs.2, oI_inj (fun v hv => by have := io.2 t v h1 hv; omega) (fun v hv => by cases hv; omega), (rs t h1).2.2.2.1, (dyn_ok ir h1).1, nJ_eq (by have := (dyn_ok ir h1).2; omega) (by omega)] at h2
      exact ⟨t, (o.2.1 t).mpr ⟨h1, h2.1⟩, h2.2⟩
    · have h3 := (o.2.1 t).mp h1
      refine ⟨t, h3.1, ?_⟩
      rw [Bool.and_eq_true, decide_eq_true_eq, decide_eq_true_eq, (rs t h3.1).2.2.2.2.2, (rs s hs.1).2.2.2.2.2, hs.2, h3.2, (rs t h3.1).2.2.2.1, (dyn_ok ir h3.1).1, h2]
      exact ⟨rfl, rfl⟩
  have e8 : S.2 8 s / 24 = nI (dyn Z s) := by rw [(rs s hs.1).2.2.2.1, d1]
  have key : inr S (N 2) s m = true ↔ m ≤ dyn Z s - F := by
    unfold inr
    rw [lp_and]
    refine ⟨fun h => ?_, fun h i hi => ?_⟩
    · by_cases hc : m ≤ dyn Z s - F
      · exact hc
      · have h1 := h (dyn Z s - F) (by omega)
        rw [Bool.and_eq_true, decide_eq_true_eq, e8, nJ_le (by omega) (by omega)] at h1
        have h2 := h1.2
        rw [nJ_sb h1.1, hh _ (by omega)] at h2
        obtain ⟨t, h3, h4⟩ := h2
        exact absurd (by omega : dyn Z t + 1 = F) (f4 t h3)
    · rw [Bool.and_eq_true, decide_eq_true_eq, e8, nJ_le (by omega) (by omega)]
      refine ⟨by omega, ?_⟩
      rw [nJ_sb (by omega), hh _ (by omega)]
      exact f3 _ (by omega) (by omega)
  cases hb : inr S (N 2) s m with
  | true => rw [decide_eq_true (key.mp hb)]
  | false =>
    rw [decide_eq_false]
    intro h
    rw [key.mpr h] at hb
    cases hb
/-- the class and the reference find the same shifts broken -/
theorem brk_bkz (hn : N 2 ≤ 40) (rs : Rsh N Z S) (ru : Rru N Z S) (io : Iord N Z) (ir : Irg N Z) (iu : Iru N Z) {s r : Nat} (hs : s < N 2) (hr : r < N 3) : brk S (N 2) s r = bkz Z s r := by
  obtain ⟨r1, r2, r3, r4, r5⟩ := ru r hr
  obtain ⟨a1, a2, a3, a4, a5, a6⟩ := rs s hs
  unfold brk bkz
  rw [a6, r1, r2, r3, r5, a1]
  cases ez : Z.2 2 s 6 with
  | none => rw [if_pos (Or.inl (show oI none = -1 from rfl))]
  | some w =>
    have hw8 := io.2 s w hs ez
    have e0 : ¬ oI (some w) = -1 := by show ¬ nI w = -1; rw [nI_m1 (by omega)]; exact fun z => z
    by_cases hb : ¬ Z.1 3 r 5 = 0 ∨ (¬ Z.1 3 r 3 = -1 ∧ ¬ Z.1 3 r 3 = Z.1 2 s 1)
    · rw [if_pos (Or.inr hb)]
      show _ = if ¬ Z.1 3 r 5 = 0 ∨ (¬ Z.1 3 r 3 = -1 ∧ ¬ Z.1 3 r 3 = Z.1 2 s 1) then false else bkw Z s r w
      rw [if_pos hb]
    · rw [if_neg (fun h => h.elim e0 hb)]
      show _ = if ¬ Z.1 3 r 5 = 0 ∨ (¬ Z.1 3 r 3 = -1 ∧ ¬ Z.1 3 r 3 = Z.1 2 s 1) then false else bkw Z s r w
      rw [if_neg hb]
      obtain ⟨⟨k, hk, ek⟩, m, hm, em⟩ := iu r hr
      obtain ⟨ls, o⟩ := io.1 w hw8
      obtain ⟨q, hq⟩ := List.mem_iff_getElem?.mp ((o.2.1 s).mpr ⟨hs, ez⟩)
      have hpl := o.plc hn hq
      have hl := o.len hn
      have hq9 : q < ls.length := (List.getElem?_eq_some_iff.mp hq).1
      unfold bkw
      rw [hpl, Option.getD_some]
      split
      · rw [jst_ls rs io o hq]
        unfold rst
        rw [hpl]
        by_cases h0 : q = 0
        · subst h0
          rw [if_pos rfl]
          have : sat Z w (oI (some 0) - 1) = none := by
            unfold sat
            rw [if_neg]
            rintro ⟨z, -⟩
            exact absurd z (by decide)
          rw [this, em]
          rw [eq_comm, decide_eq_false_iff_not]
          show ¬ (10000 : Int32) < nI m
          intro h
          have h1 := Int32.lt_iff_toInt_lt.mp h
          rw [nI_toInt (by omega)] at h1
          have : (10000 : Int32).toInt = 10000 := by decide
          omega
        · rw [if_neg h0]
          obtain ⟨q1, rfl⟩ : ∃ q1, q = q1 + 1 := ⟨q - 1, by omega⟩
          have e9 : oI (some (q1 + 1)) - 1 = nI q1 := nI_pre q1
          rw [e9, sat_in Z w (by omega), o.1 q1 (by omega)]
          rw [Nat.add_sub_cancel]
          have hlt : q1 < ls.length := by omega
          have hc : ls[q1]? = some ls[q1] := List.getElem?_eq_getElem hlt
          rw [hc]
          have hc2 := ((o.2.1 _).mp (List.mem_of_getElem? hc)).1
          show decide (S.2 8 s - S.2 9 ls[q1] < Z.1 3 r 2) = decide (Z.1 2 s 4 - Z.1 2 ls[q1] 5 < Z.1 3 r 2)
          rw [a4, (rs _ hc2).2.2.2.2.1]
      · split
        · rw [wkh_ls hn rs io ir o hq]
        · split
          · rw [em, nIc (by omega)]
            exact inr_ls hn rs io ir o hq hm
          · rw [a4, a5]
end MC
