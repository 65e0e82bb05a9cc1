/-- what a ring's offers are to each other -/
def Ring (S : MS) (f : Nat) (ls : List Nat) : Prop := ls.Pairwise (fun c d => ¬ S.2 7 (gn S c) = S.2 7 (gn S d)) ∧ (∀ i c d, ls[i]? = some c → ls[i + 1]? = some d → S.2 30 c = S.2 29 d) ∧ (∀ i c, i + 1 = ls.length → ls[i]? = some c → S.2 30 c = S.2 29 f) ∧ ls[0]? = some f
theorem rgo_ring {S : MS} {no f : Nat} : ∀ (k a : Nat) (acc ls : List Nat), acc.Pairwise (fun c d => ¬ S.2 7 (gn S c) = S.2 7 (gn S d)) → (∀ i c d, acc[i]? = some c → acc[i + 1]? = some d → S.2 30 c = S.2 29 d) → (∀ i c, i + 1 = acc.length → acc[i]? = some c → S.2 30 c = S.2 29 a) → ((acc = [] ∧ a = f) ∨ acc[0]? = some f) → rgo S no f k (some a) acc = some ls → Ring S f ls := by
  intro k
  induction k with
  | zero => intro a acc ls _ _ _ _ h; cases h
  | succ k ih =>
    intro a acc ls h1 h2 h3 h4 h
    unfold rgo at h
    cases hany : acc.any (fun c => decide (S.2 7 (gn S c) = S.2 7 (gn S a))) with
    | true => rw [hany, if_pos rfl] at h; cases h
    | false =>
      rw [hany, if_neg (by decide)] at h
      have hd := List.any_eq_false.mp hany
      have p1 : (acc ++ [a]).Pairwise (fun c d => ¬ S.2 7 (gn S c) = S.2 7 (gn S d)) := by
        rw [List.pairwise_append]
        refine ⟨h1, List.pairwise_singleton _ _, fun c hc d hd2 => ?_⟩
        rw [List.mem_singleton] at hd2
        rw [hd2]
        have := hd c hc
        rw [decide_eq_true_iff] at this
        exact this
      have p2 : ∀ i c d, (acc ++ [a])[i]? = some c → (acc ++ [a])[i + 1]? = some d → S.2 30 c = S.2 29 d := by
        intro i c d hc hd2
        rw [app_end] at hc hd2
        by_cases e : i + 1 = acc.length
        · rw [if_pos e] at hd2
          rw [if_neg (by omega)] at hc
          cases hd2
          exact h3 i c e hc
        · rw [if_neg e] at hd2
          have : i + 1 < acc.length := (List.getElem?_eq_some_iff.mp hd2).1
          rw [if_neg (by omega)] at hc
          exact h2 i c d hc hd2
      have p4 : (acc ++ [a])[0]? = some f := by
        rw [app_end]
        rcases h4 with ⟨e1, e2⟩ | e
        · subst e1; rw [e2]; rfl
        · have : 0 < acc.length := (List.getElem?_eq_some_iff.mp e).1
          rw [if_neg (by omega)]
          exact e
      split at h
      · rename_i hq
        cases h
        refine ⟨p1, p2, fun i c hi hc => ?_, p4⟩
        rw [List.length_append, List.length_singleton] at hi
        rw [app_end, if_pos (by omega)] at hc
        cases hc
        exact hq
      · cases hg : gvr S no (S.2 30 a) with
        | none =>
          rw [hg] at h
          cases k <;> cases h
        | some a2 =>
          rw [hg] at h
          refine ih a2 (acc ++ [a]) ls p1 p2 (fun i c hi hc => ?_) (Or.inr p4) h
          rw [List.length_append, List.length_singleton] at hi
          rw [app_end, if_pos (by omega)] at hc
          cases hc
          have := (fnd_spec _ _ hg).2.1
          rw [Bool.and_eq_true, decide_eq_true_iff] at this
          exact this.2.symm
theorem fnr_ring {S : MS} {no f : Nat} {ls : List Nat} (h : fnr S no f = some ls) : Ring S f ls := by
  unfold fnr at h
  split at h
  · cases h
  · exact rgo_ring 8 f [] ls List.Pairwise.nil (fun i c d h => by simp at h) (fun i c h => by simp at h) (Or.inl ⟨rfl, rfl⟩) h
section O6A
variable {S : MS} {f : Nat} {ls : List Nat}
theorem Ring.gd (r : Ring S f ls) {i j c d : Nat} (hi : ls[i]? = some c) (hj : ls[j]? = some d) (h : S.2 29 c = S.2 29 d) : i = j := by
  have key : ∀ {i j c d : Nat}, ls[i]? = some c → ls[j]? = some d → i < j → ¬ S.2 29 c = S.2 29 d := by
    intro i j c d hi hj hij h
    obtain ⟨h1, h2⟩ := List.getElem?_eq_some_iff.mp hi
    obtain ⟨h3, h4⟩ := List.getElem?_eq_some_iff.mp hj
    have := List.pairwise_iff_getElem.mp r.1 i j h1 h3 hij
    rw [h2, h4] at this
    refine this ?_
    unfold gn
    rw [h]
  rcases Nat.lt_trichotomy i j with a | a | a
  · exact absurd h (key hi hj a)
  · exact a
  · exact absurd h.symm (key hj hi a)
/-- what the i-th wants is what the next one gives -/
theorem Ring.wn (r : Ring S f ls) {i c : Nat} (hi : ls[i]? = some c) : ∃ j d, ls[j]? = some d ∧ S.2 30 c = S.2 29 d ∧ ((i + 1 < ls.length ∧ j = i + 1) ∨ (i + 1 = ls.length ∧ j = 0)) := by
  have hlt : i < ls.length := (List.getElem?_eq_some_iff.mp hi).1
  by_cases e : i + 1 < ls.length
  · have hg : ls[i + 1]? = some ls[i + 1] := List.getElem?_eq_getElem e
    exact ⟨i + 1, _, hg, r.2.1 i c _ hi hg, Or.inl ⟨e, rfl⟩⟩
  · exact ⟨0, f, r.2.2.2, r.2.2.1 i c (by omega) hi, Or.inr ⟨by omega, rfl⟩⟩
theorem Ring.wd (r : Ring S f ls) {i j c d : Nat} (hi : ls[i]? = some c) (hj : ls[j]? = some d) (h : S.2 30 c = S.2 30 d) : i = j := by
  obtain ⟨i', c', h1, h2, h3⟩ := r.wn hi
  obtain ⟨j', d', h4, h5, h6⟩ := r.wn hj
  have := r.gd h1 h4 (by rw [← h2, ← h5, h])
  omega
theorem Ring.wg (r : Ring S f ls) {i j c d : Nat} (hi : ls[i]? = some c) (hj : ls[j + 1]? = some d) (hij : i < j) : ¬ S.2 30 c = S.2 29 d := by
  intro h
  obtain ⟨i', c', h1, h2, h3⟩ := r.wn hi
  have hj9 : j + 1 < ls.length := (List.getElem?_eq_some_iff.mp hj).1
  have := r.gd h1 hj (by rw [← h2, h])
  omega
theorem Ring.all (r : Ring S f ls) (P : Int32 → Prop) : (∀ c, c ∈ ls → P (S.2 29 c)) ↔ ∀ c, c ∈ ls → P (S.2 30 c) := by
  refine ⟨fun h c hc => ?_, fun h c hc => ?_⟩
  · obtain ⟨i, hi⟩ := List.mem_iff_getElem?.mp hc
    obtain ⟨j, d, h1, h2, -⟩ := r.wn hi
    rw [h2]
    exact h d (List.mem_of_getElem? h1)
  · obtain ⟨i, hi⟩ := List.mem_iff_getElem?.mp hc
    have hlt : i < ls.length := (List.getElem?_eq_some_iff.mp hi).1
    cases i with
    | zero =>
      have hl : ls[ls.length - 1]? = some ls[ls.length - 1] := List.getElem?_eq_getElem (by omega)
      have := r.2.2.1 (ls.length - 1) _ (by omega) hl
      rw [r.2.2.2] at hi
      cases hi
      rw [← this]
      exact h _ (List.mem_of_getElem? hl)
    | succ i =>
      have hl : ls[i]? = some ls[i] := List.getElem?_eq_getElem (by omega)
      rw [← r.2.1 i _ c hl hi]
      exact h _ (List.mem_of_getElem? hl)
end O6A
section O6B
variable {N : Nat → Nat} {Z : ZS} {S : MS}
/-- class and reference judge alike whether a ring can swap -/
theorem csw_eq (j : JI N Z S) (oi : OI N Z) {f : Nat} {ls : List Nat} (r : Ring S f ls) (hl : ls.length ≤ 8) (hne : ls ≠ []) (hm : ∀ c, c ∈ ls → c < N 5 ∧ Z.1 5 c 3 = 1) (hr : ∀ i, i < 8 → Z.2 12 0 i = ls[i]?) : csw S (N 2) ls = (fnd (rcb Z) 8).isNone := by
  have hfacts : ∀ c, c ∈ ls → ∃ w g t, Z.2 5 c 0 = some w ∧ Z.2 5 c 1 = some g ∧ Z.2 5 c 2 = some t ∧ w < 8 ∧ g < N 2 ∧ t < N 2 ∧ gn S c = g ∧ wn S c = t ∧ S.2 29 c = nI g ∧ S.2 30 c = nI t ∧ hn S g = w := by
    intro c hc
    obtain ⟨h1, h2⟩ := hm c hc
    obtain ⟨-, w, g, t, b1, b2, b3, b4, b5, b6, b7⟩ := oi c h1
    obtain ⟨b8, -⟩ := b7 h2
    obtain ⟨e1, e2⟩ := gn_eq j h1 b2 b5
    obtain ⟨e3, e4⟩ := wn_eq j h1 b3 b6
    refine ⟨w, g, t, b1, b2, b3, b4, b5, b6, e1, e3, e2, e4, ?_⟩
    unfold hn
    rw [j.h7 b5, b8, oI_s]
    exact nIc (by omega)
  have key : csw S (N 2) ls = true ↔ (fnd (rcb Z) 8).isNone = true := by
    rw [fnd_isN]
    unfold csw
    rw [Bool.and_eq_true, decide_eq_true_iff, List.all_eq_true]
    have hl0 : 0 < ls.length := by
      cases ls with
      | nil => exact absurd rfl hne
      | cons a l => simp
    have now := j.2.1.1.2.2.2.2.1
    have eA : (∀ c, c ∈ ls → csp S (N 2) c = true) ↔ ((∀ c, c ∈ ls → S.1 0 < S.2 4 (S.2 29 c).toNatClampNeg) ∧ ∀ c, c ∈ ls → chld S (N 2) (hn S (gn S c)) (wn S c) (nI (gn S c)) = true) := by
      refine ⟨fun h => ⟨fun c hc => ?_, fun c hc => ?_⟩, fun h c hc => ?_⟩
      · have := h c hc
        unfold csp at this
        rw [Bool.and_eq_true, decide_eq_true_iff] at this
        exact this.1
      · have := h c hc
        unfold csp at this
        rw [Bool.and_eq_true, decide_eq_true_iff] at this
        exact this.2
      · unfold csp
        rw [Bool.and_eq_true, decide_eq_true_iff]
        exact ⟨h.1 c hc, h.2 c hc⟩
    have eB := r.all (fun x => S.1 0 < S.2 4 x.toNatClampNeg)
    rw [eA, eB]
    have eC : ∀ i, i < 8 → (rcb Z i = false ↔ ∀ c, ls[i]? = some c → (S.1 0 < S.2 4 (S.2 30 c).toNatClampNeg ∧ chld S (N 2) (hn S (gn S c)) (wn S c) (nI (gn S c)) = true)) := by
      intro i hi
      unfold rcb
      rw [hr i hi]
      cases hc : ls[i]? with
      | none => exact ⟨fun _ c h => (nomatch h), fun _ => rfl⟩
      | some c =>
        obtain ⟨w, g, t, c1, c2, c3, c4, c5, c6, c7, c8, c9, c10, c11⟩ := hfacts c (List.mem_of_getElem? hc)
        dsimp only
        rw [c1, c2, c3, Option.getD_some, Option.getD_some, Bool.not_eq_false', Bool.and_eq_true, decide_eq_true_iff]
        have t40 := j.1.n2 c6
        have g40 := j.1.n2 c5
        have e1 : (S.1 0 < S.2 4 (S.2 30 c).toNatClampNeg) = (Z.1 0 0 11 < Z.1 2 t 2) := by
          rw [c10, nIc (by omega), now, (j.2.1.2.2.1 t c6).2.1]
        have e2 : chld S (N 2) (hn S (gn S c)) (wn S c) (nI (gn S c)) = ctk Z w t (some g) := by
          rw [c7, c8, c11]
          exact ctk_eq j c4 c6 (g := some g) (fun i hi => by cases hi; exact g40)
        refine ⟨fun h d hd => ?_, fun h => ?_⟩
        · cases hd
          rw [e1, e2]
          exact h
        · have := h c rfl
          rw [e1, e2] at this
          exact this
    refine ⟨fun ⟨_, h1, h2⟩ i hi => (eC i hi).mpr (fun c hc => ⟨h1 c (List.mem_of_getElem? hc), h2 c (List.mem_of_getElem? hc)⟩), fun h => ⟨hl0, fun c hc => ?_, fun c hc => ?_⟩⟩
    · obtain ⟨i, hi⟩ := List.mem_iff_getElem?.mp hc
      have hi9 : i < ls.length := (List.getElem?_eq_some_iff.mp hi).1
      exact ((eC i (by omega)).mp (h i (by omega)) c hi).1
    · obtain ⟨i, hi⟩ := List.mem_iff_getElem?.mp hc
      have hi9 : i < ls.length := (List.getElem?_eq_some_iff.mp hi).1
      exact ((eC i (by omega)).mp (h i (by omega)) c hi).2
  cases ha : csw S (N 2) ls with
  | true => exact (key.mp ha).symm
  | false =>
    cases hb : (fnd (rcb Z) 8).isNone with
    | false => rfl
    | true => rw [key.mpr hb] at ha; cases ha
end O6B
section O6
variable {N : Nat → Nat} {Z : ZS} {S : MS}
theorem o_swap_ok (inv : INV N Z S) {k : Nat} (hk : k < N 5) : OP iX6_swap [.int (nI k)] [eIO, eIS] 490 2950 N Z S (m_swp S (N 2) (N 3) (N 4) (N 5) k).1 (m_swp S (N 2) (N 3) (N 4) (N 5) k).2 := by
  have hx0 := inv.st.n0
  have hA := inv.st.nA 12 (by decide)
  intro l D b h ad hfl rr
  refine v_entry iX6_swap pl6 mX6_swap (by simp only [List.forall_mem_cons, List.not_mem_nil, false_implies, cat_o, cat_r, cat_i, cat_n, and_self, implies_true]) hfl ?_
  rintro ⟨⟨p, l9, e, R⟩, ⟨sz, mi, args, below⟩, ⟨meth, cx, D9, b9⟩, ⟨P, X, mc, ms⟩⟩ rfl rfl rfl hPX K
  injection hPX with hP hPX
  injection hPX with hX hPX
  injection hPX with hMC hMS
  subst hMC hMS
  have hPe := fun r h9 => congrFun (congrFun hP r) h9
  refine ry1_ok K FokX6 none noini [] 60 ?_
  simp only [ry1_s, ry_s, ry_0, hit, true_and, and_true, List.map_cons, List.map_nil, List.length_cons, List.length_nil, List.replicate, List.cons_append, List.nil_append, List.append_nil, List.length_append, List.set_cons_zero, List.set_cons_succ, lgt_0, lgt_s, lhas_0, lhas_s, isI_i, isRf_r, isRf_n, inc_i, of1, ofm1, rokI_i, rokI_0, rokI_1, rokI_b, okv_i, okv_z0, okv_z1, okv_or, okv_on, okv_ar, okv_b, isA_s, alen_s, cat_i, cat_r, cat_n, finC_s, hPe, rv, nar1, nar0,  b2i_0, oI_n, oI_s, d24, d168, d100, Int32.le_refl, vpT, nIc8, nIc12, nIc40, nIc200, hup_at, and_self, and_false, false_and, Nat.reduceEqDiff, Nat.reduceEqDiff, reduceCtorEq, ie_m1_0, il_m1_0, ie_m1_1, il_m1_1, ie_m1_2, il_m1_2, ie_m1_3, il_m1_3, ie_m1_4, ie_m1_5, ie_m1_6, ie_m1_7, ie_m1_8, ie_0_m1, il_0_0, ie_0_1, il_0_1, ie_0_2, il_0_2, ie_0_3, il_0_3, ie_0_4, ie_0_5, ie_0_6, ie_0_7, ie_0_8, ie_1_m1, ie_1_0, il_1_0, il_1_1, ie_1_2, il_1_2, ie_1_3, il_1_3, ie_1_4, ie_1_5, ie_1_6, ie_1_7, ie_1_8, ie_2_m1, ie_2_0, il_2_0, ie_2_1, il_2_1, il_2_2, ie_2_3, il_2_3, ie_2_4, ie_2_5, ie_2_6, ie_2_7, ie_2_8, ie_3_m1, ie_3_0, il_3_0, ie_3_1, il_3_1, ie_3_2, il_3_2, il_3_3, ie_3_4, ie_3_5, ie_3_6, ie_3_7, ie_3_8, ie_4_m1, ie_4_0, il_4_0, ie_4_1, il_4_1, ie_4_2, il_4_2, ie_4_3, il_4_3, ie_4_5, ie_4_6, ie_4_7, ie_4_8, ie_5_m1, ie_5_0, il_5_0, ie_5_1, il_5_1, ie_5_2, il_5_2, ie_5_3, il_5_3, ie_5_4, ie_5_6, ie_5_7, ie_5_8, ie_6_m1, ie_6_0, il_6_0, ie_6_1, il_6_1, ie_6_2, il_6_2, ie_6_3, il_6_3, ie_6_4, ie_6_5, ie_6_7, ie_6_8, ie_7_m1, ie_7_0, il_7_0, ie_7_1, il_7_1, ie_7_2, il_7_2, ie_7_3, il_7_3, ie_7_4, ie_7_5, ie_7_6, ie_7_8, ie_8_m1, ie_8_0, il_8_0, ie_8_1, il_8_1, ie_8_2, il_8_2, ie_8_3, il_8_3, ie_8_4, ie_8_5, ie_8_6, ie_8_7, Nat.reduceAdd, Nat.reduceSub, Nat.reduceLT, Nat.reduceLeDiff, Nat.reduceBEq, Bool.or_false, Bool.false_or, Bool.or_true, Bool.true_or, Bool.or_self, Bool.false_eq_true, ↓reduceIte, Nat.le_refl, Nat.zero_le, nI_p1, Option.toList, not_true_eq_false, not_false_eq_true, isRf_o, isR_o, isR_a, cat_o, okv_fo, okv_fa, orf_s, orf_n, both_t, both_f, rfn_n, rfn_s, eq_self, forall_const, qX6_swap_0, qX6_swap_1, qX6_swap_2, qX6_swap_3, qX6_swap_6, qX6_swap_9, qX6_swap_12, qX6_swap_13, qX6_swap_16, qX6_swap_19, qX6_swap_22, qX6_swap_26, qX6_swap_29, qX6_swap_30, qX6_swap_31, qX6_swap_34, qX6_swap_35, qX6_swap_36, qX6_swap_39r, qX6_swap_39n, qX6_swap_40, qX6_swap_41, qX6_swap_42, qX6_swap_44, qX6_swap_45, qX6_swap_47, qX6_swap_49, qX6_swap_51, qX6_swap_54, qX6_swap_55, qX6_swap_57, qX6_swap_58r, qX6_swap_58n, qX6_swap_60, qX6_swap_62n, qX6_swap_62r, qX6_swap_65, qX6_swap_66, qX6_swap_68, qX6_swap_71, qX6_swap_73, qX6_swap_76, qX6_swap_79, qX6_swap_82, qX6_swap_85, qX6_swap_86, qX6_swap_89, qX6_swap_90, qX6_swap_91, qX6_swap_94, qX6_swap_95, qX6_swap_96, qX6_swap_39_o, qX6_swap_58_o, qX6_swap_62_o]
  refine v_callV K (u_theOffer_ok hfl rr inv.st hk) kX6_266 rfl (rr.k0 inv.st.n0) rfl (by decide) rfl (Nat.le_of_ble_eq_true rfl) rfl dX6_swap_3 ⟨by omega, by omega⟩ (fun _ _ z => z.elim) ?_; rintro _ h9 ⟨rfl, e9⟩; have e9 := e9.symm; subst e9
  refine ry1_ok K FokX6 none noini [] 60 ?_
  simp only [ry1_s, ry_s, ry_0, hit, true_and, and_true, List.map_cons, List.map_nil, List.length_cons, List.length_nil, List.replicate, List.cons_append, List.nil_append, List.append_nil, List.length_append, List.set_cons_zero, List.set_cons_succ, lgt_0, lgt_s, lhas_0, lhas_s, isI_i, isRf_r, isRf_n, inc_i, of1, ofm1, rokI_i, rokI_0, rokI_1, rokI_b, okv_i, okv_z0, okv_z1, okv_or, okv_on, okv_ar, okv_b, isA_s, alen_s, cat_i, cat_r, cat_n, finC_s, hPe, rv, nar1, nar0,  b2i_0, oI_n, oI_s, d24, d168, d100, Int32.le_refl, vpT, nIc8, nIc12, nIc40, nIc200, hup_at, and_self, and_false, false_and, Nat.reduceEqDiff, Nat.reduceEqDiff, reduceCtorEq, ie_m1_0, il_m1_0, ie_m1_1, il_m1_1, ie_m1_2, il_m1_2, ie_m1_3, il_m1_3, ie_m1_4, ie_m1_5, ie_m1_6, ie_m1_7, ie_m1_8, ie_0_m1, il_0_0, ie_0_1, il_0_1, ie_0_2, il_0_2, ie_0_3, il_0_3, ie_0_4, ie_0_5, ie_0_6, ie_0_7, ie_0_8, ie_1_m1, ie_1_0, il_1_0, il_1_1, ie_1_2, il_1_2, ie_1_3, il_1_3, ie_1_4, ie_1_5, ie_1_6, ie_1_7, ie_1_8, ie_2_m1, ie_2_0, il_2_0, ie_2_1, il_2_1, il_2_2, ie_2_3, il_2_3, ie_2_4, ie_2_5, ie_2_6, ie_2_7, ie_2_8, ie_3_m1, ie_3_0, il_3_0, ie_3_1, il_3_1, ie_3_2, il_3_2, il_3_3, ie_3_4, ie_3_5, ie_3_6, ie_3_7, ie_3_8, ie_4_m1, ie_4_0, il_4_0, ie_4_1, il_4_1, ie_4_2, il_4_2, ie_4_3, il_4_3, ie_4_5, ie_4_6, ie_4_7, ie_4_8, ie_5_m1, ie_5_0, il_5_0, ie_5_1, il_5_1, ie_5_2, il_5_2, ie_5_3, il_5_3, ie_5_4, ie_5_6, ie_5_7, ie_5_8, ie_6_m1, ie_6_0, il_6_0, ie_6_1, il_6_1, ie_6_2, il_6_2, ie_6_3, il_6_3, ie_6_4, ie_6_5, ie_6_7, ie_6_8, ie_7_m1, ie_7_0, il_7_0, ie_7_1, il_7_1, ie_7_2, il_7_2, ie_7_3, il_7_3, ie_7_4, ie_7_5, ie_7_6, ie_7_8, ie_8_m1, ie_8_0, il_8_0, ie_8_1, il_8_1, ie_8_2, il_8_2, ie_8_3, il_8_3, ie_8_4, ie_8_5, ie_8_6, ie_8_7, Nat.reduceAdd, Nat.reduceSub, Nat.reduceLT, Nat.reduceLeDiff, Nat.reduceBEq, Bool.or_false, Bool.false_or, Bool.or_true, Bool.true_or, Bool.or_self, Bool.false_eq_true, ↓reduceIte, Nat.le_refl, Nat.zero_le, nI_p1, Option.toList, not_true_eq_false, not_false_eq_true, isRf_o, isR_o, isR_a, cat_o, okv_fo, okv_fa, orf_s, orf_n, both_t, both_f, rfn_n, rfn_s, eq_self, forall_const, qX6_swap_0, qX6_swap_1, qX6_swap_2, qX6_swap_3, qX6_swap_6, qX6_swap_9, qX6_swap_12, qX6_swap_13, qX6_swap_16, qX6_swap_19, qX6_swap_22, qX6_swap_26, qX6_swap_29, qX6_swap_30, qX6_swap_31, qX6_swap_34, qX6_swap_35, qX6_swap_36, qX6_swap_39r, qX6_swap_39n, qX6_swap_40, qX6_swap_41, qX6_swap_42, qX6_swap_44, qX6_swap_45, qX6_swap_47, qX6_swap_49, qX6_swap_51, qX6_swap_54, qX6_swap_55, qX6_swap_57, qX6_swap_58r, qX6_swap_58n, qX6_swap_60, qX6_swap_62n, qX6_swap_62r, qX6_swap_65, qX6_swap_66, qX6_swap_68, qX6_swap_71, qX6_swap_73, qX6_swap_76, qX6_swap_79, qX6_swap_82, qX6_swap_85, qX6_swap_86, qX6_swap_89, qX6_swap_90, qX6_swap_91, qX6_swap_94, qX6_swap_95, qX6_swap_96, qX6_swap_39_o, qX6_swap_58_o, qX6_swap_62_o]
  refine v_callV K (u_gatherRing hfl rr inv.1 inv.2.2.1 hk) kX6_278 rfl (rr.k0 inv.st.n0) rfl (by decide) rfl (Nat.le_of_ble_eq_true rfl) rfl dX6_swap_6 ⟨by omega, by omega⟩ (fun _ _ z => z.elim) ?_; rintro _ h2 ⟨rfl, t2⟩
  obtain ⟨Z2, m2, t2, q2⟩ := t2
  have inv2 := inv.rg m2
  have rr2 := t2.1
  have no : m_swp S (N 2) (N 3) (N 4) (N 5) k = (0, thr S 2) → V ((p, l9, e, R), (sz, mi, args, below), (meth, cx, D9, b9), (P, X, 490, 2950)) h2 0 0 19 [some (.ref (ad 0 0)), some (.int (nI k)), none, none, none, none, none] [] := by
    intro em
    rw [em] at hX
    refine v_thrW K (RX6, 285, "there is no ring, or it cannot swap", 20) (List.mem_of_getElem? (i := 20) rfl) ⟨rfl, rfl⟩ (by decide) (by decide) gIS dX6_swap_19 dX6_swap_22 dX6_swap_23 dX6_swap_26 dX6_swap_29 rfl (by decide) (by decide) ⟨by decide, by decide⟩ ?_
    rw [hX]
    exact ⟨⟨1, rfl, rfl⟩, N, ad, Z2, CNw.of t2, inv2.thr 2⟩
  cases hf : fnr S (N 5) k with
  | none =>
    have em : m_swp S (N 2) (N 3) (N 4) (N 5) k = (0, thr S 2) := by unfold m_swp; rw [hf]
    refine ry1_ok K FokX6 none noini [19] 60 ?_
    simp only [ry1_s, ry_s, ry_0, hit, true_and, and_true, List.map_cons, List.map_nil, List.length_cons, List.length_nil, List.replicate, List.cons_append, List.nil_append, List.append_nil, List.length_append, List.set_cons_zero, List.set_cons_succ, lgt_0, lgt_s, lhas_0, lhas_s, isI_i, isRf_r, isRf_n, inc_i, of1, ofm1, rokI_i, rokI_0, rokI_1, rokI_b, okv_i, okv_z0, okv_z1, okv_or, okv_on, okv_ar, okv_b, isA_s, alen_s, cat_i, cat_r, cat_n, finC_s, hPe, rv, nar1, nar0,  b2i_0, oI_n, oI_s, d24, d168, d100, Int32.le_refl, vpT, nIc8, nIc12, nIc40, nIc200, hup_at, and_self, and_false, false_and, Nat.reduceEqDiff, Nat.reduceEqDiff, reduceCtorEq, ie_m1_0, il_m1_0, ie_m1_1, il_m1_1, ie_m1_2, il_m1_2, ie_m1_3, il_m1_3, ie_m1_4, ie_m1_5, ie_m1_6, ie_m1_7, ie_m1_8, ie_0_m1, il_0_0, ie_0_1, il_0_1, ie_0_2, il_0_2, ie_0_3, il_0_3, ie_0_4, ie_0_5, ie_0_6, ie_0_7, ie_0_8, ie_1_m1, ie_1_0, il_1_0, il_1_1, ie_1_2, il_1_2, ie_1_3, il_1_3, ie_1_4, ie_1_5, ie_1_6, ie_1_7, ie_1_8, ie_2_m1, ie_2_0, il_2_0, ie_2_1, il_2_1, il_2_2, ie_2_3, il_2_3, ie_2_4, ie_2_5, ie_2_6, ie_2_7, ie_2_8, ie_3_m1, ie_3_0, il_3_0, ie_3_1, il_3_1, ie_3_2, il_3_2, il_3_3, ie_3_4, ie_3_5, ie_3_6, ie_3_7, ie_3_8, ie_4_m1, ie_4_0, il_4_0, ie_4_1, il_4_1, ie_4_2, il_4_2, ie_4_3, il_4_3, ie_4_5, ie_4_6, ie_4_7, ie_4_8, ie_5_m1, ie_5_0, il_5_0, ie_5_1, il_5_1, ie_5_2, il_5_2, ie_5_3, il_5_3, ie_5_4, ie_5_6, ie_5_7, ie_5_8, ie_6_m1, ie_6_0, il_6_0, ie_6_1, il_6_1, ie_6_2, il_6_2, ie_6_3, il_6_3, ie_6_4, ie_6_5, ie_6_7, ie_6_8, ie_7_m1, ie_7_0, il_7_0, ie_7_1, il_7_1, ie_7_2, il_7_2, ie_7_3, il_7_3, ie_7_4, ie_7_5, ie_7_6, ie_7_8, ie_8_m1, ie_8_0, il_8_0, ie_8_1, il_8_1, ie_8_2, il_8_2, ie_8_3, il_8_3, ie_8_4, ie_8_5, ie_8_6, ie_8_7, Nat.reduceAdd, Nat.reduceSub, Nat.reduceLT, Nat.reduceLeDiff, Nat.reduceBEq, Bool.or_false, Bool.false_or, Bool.or_true, Bool.true_or, Bool.or_self, Bool.false_eq_true, ↓reduceIte, Nat.le_refl, Nat.zero_le, nI_p1, Option.toList, not_true_eq_false, not_false_eq_true, isRf_o, isR_o, isR_a, cat_o, okv_fo, okv_fa, orf_s, orf_n, both_t, both_f, rfn_n, rfn_s, eq_self, forall_const, qX6_swap_0, qX6_swap_1, qX6_swap_2, qX6_swap_3, qX6_swap_6, qX6_swap_9, qX6_swap_12, qX6_swap_13, qX6_swap_16, qX6_swap_19, qX6_swap_22, qX6_swap_26, qX6_swap_29, qX6_swap_30, qX6_swap_31, qX6_swap_34, qX6_swap_35, qX6_swap_36, qX6_swap_39r, qX6_swap_39n, qX6_swap_40, qX6_swap_41, qX6_swap_42, qX6_swap_44, qX6_swap_45, qX6_swap_47, qX6_swap_49, qX6_swap_51, qX6_swap_54, qX6_swap_55, qX6_swap_57, qX6_swap_58r, qX6_swap_58n, qX6_swap_60, qX6_swap_62n, qX6_swap_62r, qX6_swap_65, qX6_swap_66, qX6_swap_68, qX6_swap_71, qX6_swap_73, qX6_swap_76, qX6_swap_79, qX6_swap_82, qX6_swap_85, qX6_swap_86, qX6_swap_89, qX6_swap_90, qX6_swap_91, qX6_swap_94, qX6_swap_95, qX6_swap_96, qX6_swap_39_o, qX6_swap_58_o, qX6_swap_62_o, rlen]
    exact no em
  | some ls =>
    obtain ⟨z1, z2, z3⟩ := fnr_ok hf hk
    have rg := fnr_ring hf
    have hrow := q2 ls hf
    have hl0 : 0 < ls.length := by
      cases ls with
      | nil => exact absurd rfl z2
      | cons a l => simp
    have hz : (nI ls.length = 0) = False := by
      rw [show (0 : Int32) = nI 0 from rfl, nJ_eq (by omega) (by omega)]
      exact eq_false (by omega)
    have hm : ∀ c, c ∈ ls → c < N 5 ∧ Z2.1 5 c 3 = 1 := fun c hc => by
      obtain ⟨h1, h2⟩ := z3 c hc
      rw [(inv.rof c h1).2.2] at h2
      rw [m2.1]
      exact ⟨h1, (inv.2.2.1 c h1).1.resolve_left h2⟩
    have ecs := csw_eq inv2.1 inv2.2.2.1 rg z1 z2 hm hrow
    refine ry1_ok K FokX6 none noini [19, 30] 60 ?_
    simp only [ry1_s, ry_s, ry_0, hit, true_and, and_true, List.map_cons, List.map_nil, List.length_cons, List.length_nil, List.replicate, List.cons_append, List.nil_append, List.append_nil, List.length_append, List.set_cons_zero, List.set_cons_succ, lgt_0, lgt_s, lhas_0, lhas_s, isI_i, isRf_r, isRf_n, inc_i, of1, ofm1, rokI_i, rokI_0, rokI_1, rokI_b, okv_i, okv_z0, okv_z1, okv_or, okv_on, okv_ar, okv_b, isA_s, alen_s, cat_i, cat_r, cat_n, finC_s, hPe, rv, nar1, nar0,  b2i_0, oI_n, oI_s, d24, d168, d100, Int32.le_refl, vpT, nIc8, nIc12, nIc40, nIc200, hup_at, and_self, and_false, false_and, Nat.reduceEqDiff, Nat.reduceEqDiff, reduceCtorEq, ie_m1_0, il_m1_0, ie_m1_1, il_m1_1, ie_m1_2, il_m1_2, ie_m1_3, il_m1_3, ie_m1_4, ie_m1_5, ie_m1_6, ie_m1_7, ie_m1_8, ie_0_m1, il_0_0, ie_0_1, il_0_1, ie_0_2, il_0_2, ie_0_3, il_0_3, ie_0_4, ie_0_5, ie_0_6, ie_0_7, ie_0_8, ie_1_m1, ie_1_0, il_1_0, il_1_1, ie_1_2, il_1_2, ie_1_3, il_1_3, ie_1_4, ie_1_5, ie_1_6, ie_1_7, ie_1_8, ie_2_m1, ie_2_0, il_2_0, ie_2_1, il_2_1, il_2_2, ie_2_3, il_2_3, ie_2_4, ie_2_5, ie_2_6, ie_2_7, ie_2_8, ie_3_m1, ie_3_0, il_3_0, ie_3_1, il_3_1, ie_3_2, il_3_2, il_3_3, ie_3_4, ie_3_5, ie_3_6, ie_3_7, ie_3_8, ie_4_m1, ie_4_0, il_4_0, ie_4_1, il_4_1, ie_4_2, il_4_2, ie_4_3, il_4_3, ie_4_5, ie_4_6, ie_4_7, ie_4_8, ie_5_m1, ie_5_0, il_5_0, ie_5_1, il_5_1, ie_5_2, il_5_2, ie_5_3, il_5_3, ie_5_4, ie_5_6, ie_5_7, ie_5_8, ie_6_m1, ie_6_0, il_6_0, ie_6_1, il_6_1, ie_6_2, il_6_2, ie_6_3, il_6_3, ie_6_4, ie_6_5, ie_6_7, ie_6_8, ie_7_m1, ie_7_0, il_7_0, ie_7_1, il_7_1, ie_7_2, il_7_2, ie_7_3, il_7_3, ie_7_4, ie_7_5, ie_7_6, ie_7_8, ie_8_m1, ie_8_0, il_8_0, ie_8_1, il_8_1, ie_8_2, il_8_2, ie_8_3, il_8_3, ie_8_4, ie_8_5, ie_8_6, ie_8_7, Nat.reduceAdd, Nat.reduceSub, Nat.reduceLT, Nat.reduceLeDiff, Nat.reduceBEq, Bool.or_false, Bool.false_or, Bool.or_true, Bool.true_or, Bool.or_self, Bool.false_eq_true, ↓reduceIte, Nat.le_refl, Nat.zero_le, nI_p1, Option.toList, not_true_eq_false, not_false_eq_true, isRf_o, isR_o, isR_a, cat_o, okv_fo, okv_fa, orf_s, orf_n, both_t, both_f, rfn_n, rfn_s, eq_self, forall_const, qX6_swap_0, qX6_swap_1, qX6_swap_2, qX6_swap_3, qX6_swap_6, qX6_swap_9, qX6_swap_12, qX6_swap_13, qX6_swap_16, qX6_swap_19, qX6_swap_22, qX6_swap_26, qX6_swap_29, qX6_swap_30, qX6_swap_31, qX6_swap_34, qX6_swap_35, qX6_swap_36, qX6_swap_39r, qX6_swap_39n, qX6_swap_40, qX6_swap_41, qX6_swap_42, qX6_swap_44, qX6_swap_45, qX6_swap_47, qX6_swap_49, qX6_swap_51, qX6_swap_54, qX6_swap_55, qX6_swap_57, qX6_swap_58r, qX6_swap_58n, qX6_swap_60, qX6_swap_62n, qX6_swap_62r, qX6_swap_65, qX6_swap_66, qX6_swap_68, qX6_swap_71, qX6_swap_73, qX6_swap_76, qX6_swap_79, qX6_swap_82, qX6_swap_85, qX6_swap_86, qX6_swap_89, qX6_swap_90, qX6_swap_91, qX6_swap_94, qX6_swap_95, qX6_swap_96, qX6_swap_39_o, qX6_swap_58_o, qX6_swap_62_o, rlen, hz]
    refine v_callV K (u_ringCanSwap hfl rr2 inv2.st) kX6_282 rfl (rr2.k0 inv.st.n0) rfl (by decide) rfl (Nat.le_of_ble_eq_true rfl) rfl dX6_swap_13 ⟨by omega, by omega⟩ (fun _ _ z => z.elim) ?_; rintro _ h9 ⟨rfl, e9⟩; have e9 := e9.symm; subst e9
    rw [← ecs]
    cases hcs : csw S (N 2) ls with
    | false =>
      have em : m_swp S (N 2) (N 3) (N 4) (N 5) k = (0, thr S 2) := by
        unfold m_swp
        rw [hf]
        cases ls with
        | nil => rfl
        | cons a l => simp only [hcs]; rfl
      refine ry1_ok K FokX6 none noini [19, 30] 60 ?_
      simp only [ry1_s, ry_s, ry_0, hit, true_and, and_true, List.map_cons, List.map_nil, List.length_cons, List.length_nil, List.replicate, List.cons_append, List.nil_append, List.append_nil, List.length_append, List.set_cons_zero, List.set_cons_succ, lgt_0, lgt_s, lhas_0, lhas_s, isI_i, isRf_r, isRf_n, inc_i, of1, ofm1, rokI_i, rokI_0, rokI_1, rokI_b, okv_i, okv_z0, okv_z1, okv_or, okv_on, okv_ar, okv_b, isA_s, alen_s, cat_i, cat_r, cat_n, finC_s, hPe, rv, nar1, nar0,  b2i_0, oI_n, oI_s, d24, d168, d100, Int32.le_refl, vpT, nIc8, nIc12, nIc40, nIc200, hup_at, and_self, and_false, false_and, Nat.reduceEqDiff, Nat.reduceEqDiff, reduceCtorEq, ie_m1_0, il_m1_0, ie_m1_1, il_m1_1, ie_m1_2, il_m1_2, ie_m1_3, il_m1_3, ie_m1_4, ie_m1_5, ie_m1_6, ie_m1_7, ie_m1_8, ie_0_m1, il_0_0, ie_0_1, il_0_1, ie_0_2, il_0_2, ie_0_3, il_0_3, ie_0_4, ie_0_5, ie_0_6, ie_0_7, ie_0_8, ie_1_m1, ie_1_0, il_1_0, il_1_1, ie_1_2, il_1_2, ie_1_3, il_1_3, ie_1_4, ie_1_5, ie_1_6, ie_1_7, ie_1_8, ie_2_m1, ie_2_0, il_2_0, ie_2_1, il_2_1, il_2_2, ie_2_3, il_2_3, ie_2_4, ie_2_5, ie_2_6, ie_2_7, ie_2_8, ie_3_m1, ie_3_0, il_3_0, ie_3_1, il_3_1, ie_3_2, il_3_2, il_3_3, ie_3_4, ie_3_5, ie_3_6, ie_3_7, ie_3_8, ie_4_m1, ie_4_0, il_4_0, ie_4_1, il_4_1, ie_4_2, il_4_2, ie_4_3, il_4_3, ie_4_5, ie_4_6, ie_4_7, ie_4_8, ie_5_m1, ie_5_0, il_5_0, ie_5_1, il_5_1, ie_5_2, il_5_2, ie_5_3, il_5_3, ie_5_4, ie_5_6, ie_5_7, ie_5_8, ie_6_m1, ie_6_0, il_6_0, ie_6_1, il_6_1, ie_6_2, il_6_2, ie_6_3, il_6_3, ie_6_4, ie_6_5, ie_6_7, ie_6_8, ie_7_m1, ie_7_0, il_7_0, ie_7_1, il_7_1, ie_7_2, il_7_2, ie_7_3, il_7_3, ie_7_4, ie_7_5, ie_7_6, ie_7_8, ie_8_m1, ie_8_0, il_8_0, ie_8_1, il_8_1, ie_8_2, il_8_2, ie_8_3, il_8_3, ie_8_4, ie_8_5, ie_8_6, ie_8_7, Nat.reduceAdd, Nat.reduceSub, Nat.reduceLT, Nat.reduceLeDiff, Nat.reduceBEq, Bool.or_false, Bool.false_or, Bool.or_true, Bool.true_or, Bool.or_self, Bool.false_eq_true, ↓reduceIte, Nat.le_refl, Nat.zero_le, nI_p1, Option.toList, not_true_eq_false, not_false_eq_true, isRf_o, isR_o, isR_a, cat_o, okv_fo, okv_fa, orf_s, orf_n, both_t, both_f, rfn_n, rfn_s, eq_self, forall_const, qX6_swap_0, qX6_swap_1, qX6_swap_2, qX6_swap_3, qX6_swap_6, qX6_swap_9, qX6_swap_12, qX6_swap_13, qX6_swap_16, qX6_swap_19, qX6_swap_22, qX6_swap_26, qX6_swap_29, qX6_swap_30, qX6_swap_31, qX6_swap_34, qX6_swap_35, qX6_swap_36, qX6_swap_39r, qX6_swap_39n, qX6_swap_40, qX6_swap_41, qX6_swap_42, qX6_swap_44, qX6_swap_45, qX6_swap_47, qX6_swap_49, qX6_swap_51, qX6_swap_54, qX6_swap_55, qX6_swap_57, qX6_swap_58r, qX6_swap_58n, qX6_swap_60, qX6_swap_62n, qX6_swap_62r, qX6_swap_65, qX6_swap_66, qX6_swap_68, qX6_swap_71, qX6_swap_73, qX6_swap_76, qX6_swap_79, qX6_swap_82, qX6_swap_85, qX6_swap_86, qX6_swap_89, qX6_swap_90, qX6_swap_91, qX6_swap_94, qX6_swap_95, qX6_swap_96, qX6_swap_39_o, qX6_swap_58_o, qX6_swap_62_o, b2i_f]
      exact no em
    | true =>
      cases ls with
      | nil => exact absurd rfl z2
      | cons c0 rest0 =>
        have em : m_swp S (N 2) (N 3) (N 4) (N 5) k = ((jdg (swl (thr S 0) (N 5) (wn S c0) (S.2 7 (gn S c0)) rest0) (N 2) (N 3) (N 4)).1.1 22 - S.1 22, (jdg (swl (thr S 0) (N 5) (wn S c0) (S.2 7 (gn S c0)) rest0) (N 2) (N 3) (N 4)).1) := by unfold m_swp; rw [hf]; simp only [hcs, ↓reduceIte]
        rw [em] at hPe
        have c9 := inv2.st.c9
        have x5 : Z2.2 0 0 5 = some 0 := inv2.st.x (by decide)
        refine ry1_ok K FokX6 none noini [47] 60 ?_
        simp only [ry1_s, ry_s, ry_0, hit, true_and, and_true, List.map_cons, List.map_nil, List.length_cons, List.length_nil, List.replicate, List.cons_append, List.nil_append, List.append_nil, List.length_append, List.set_cons_zero, List.set_cons_succ, lgt_0, lgt_s, lhas_0, lhas_s, isI_i, isRf_r, isRf_n, inc_i, of1, ofm1, rokI_i, rokI_0, rokI_1, rokI_b, okv_i, okv_z0, okv_z1, okv_or, okv_on, okv_ar, okv_b, isA_s, alen_s, cat_i, cat_r, cat_n, finC_s, hPe, rv, nar1, nar0,  b2i_0, oI_n, oI_s, d24, d168, d100, Int32.le_refl, vpT, nIc8, nIc12, nIc40, nIc200, hup_at, and_self, and_false, false_and, Nat.reduceEqDiff, Nat.reduceEqDiff, reduceCtorEq, ie_m1_0, il_m1_0, ie_m1_1, il_m1_1, ie_m1_2, il_m1_2, ie_m1_3, il_m1_3, ie_m1_4, ie_m1_5, ie_m1_6, ie_m1_7, ie_m1_8, ie_0_m1, il_0_0, ie_0_1, il_0_1, ie_0_2, il_0_2, ie_0_3, il_0_3, ie_0_4, ie_0_5, ie_0_6, ie_0_7, ie_0_8, ie_1_m1, ie_1_0, il_1_0, il_1_1, ie_1_2, il_1_2, ie_1_3, il_1_3, ie_1_4, ie_1_5, ie_1_6, ie_1_7, ie_1_8, ie_2_m1, ie_2_0, il_2_0, ie_2_1, il_2_1, il_2_2, ie_2_3, il_2_3, ie_2_4, ie_2_5, ie_2_6, ie_2_7, ie_2_8, ie_3_m1, ie_3_0, il_3_0, ie_3_1, il_3_1, ie_3_2, il_3_2, il_3_3, ie_3_4, ie_3_5, ie_3_6, ie_3_7, ie_3_8, ie_4_m1, ie_4_0, il_4_0, ie_4_1, il_4_1, ie_4_2, il_4_2, ie_4_3, il_4_3, ie_4_5, ie_4_6, ie_4_7, ie_4_8, ie_5_m1, ie_5_0, il_5_0, ie_5_1, il_5_1, ie_5_2, il_5_2, ie_5_3, il_5_3, ie_5_4, ie_5_6, ie_5_7, ie_5_8, ie_6_m1, ie_6_0, il_6_0, ie_6_1, il_6_1, ie_6_2, il_6_2, ie_6_3, il_6_3, ie_6_4, ie_6_5, ie_6_7, ie_6_8, ie_7_m1, ie_7_0, il_7_0, ie_7_1, il_7_1, ie_7_2, il_7_2, ie_7_3, il_7_3, ie_7_4, ie_7_5, ie_7_6, ie_7_8, ie_8_m1, ie_8_0, il_8_0, ie_8_1, il_8_1, ie_8_2, il_8_2, ie_8_3, il_8_3, ie_8_4, ie_8_5, ie_8_6, ie_8_7, Nat.reduceAdd, Nat.reduceSub, Nat.reduceLT, Nat.reduceLeDiff, Nat.reduceBEq, Bool.or_false, Bool.false_or, Bool.or_true, Bool.true_or, Bool.or_self, Bool.false_eq_true, ↓reduceIte, Nat.le_refl, Nat.zero_le, nI_p1, Option.toList, not_true_eq_false, not_false_eq_true, isRf_o, isR_o, isR_a, cat_o, okv_fo, okv_fa, orf_s, orf_n, both_t, both_f, rfn_n, rfn_s, eq_self, forall_const, qX6_swap_0, qX6_swap_1, qX6_swap_2, qX6_swap_3, qX6_swap_6, qX6_swap_9, qX6_swap_12, qX6_swap_13, qX6_swap_16, qX6_swap_19, qX6_swap_22, qX6_swap_26, qX6_swap_29, qX6_swap_30, qX6_swap_31, qX6_swap_34, qX6_swap_35, qX6_swap_36, qX6_swap_39r, qX6_swap_39n, qX6_swap_40, qX6_swap_41, qX6_swap_42, qX6_swap_44, qX6_swap_45, qX6_swap_47, qX6_swap_49, qX6_swap_51, qX6_swap_54, qX6_swap_55, qX6_swap_57, qX6_swap_58r, qX6_swap_58n, qX6_swap_60, qX6_swap_62n, qX6_swap_62r, qX6_swap_65, qX6_swap_66, qX6_swap_68, qX6_swap_71, qX6_swap_73, qX6_swap_76, qX6_swap_79, qX6_swap_82, qX6_swap_85, qX6_swap_86, qX6_swap_89, qX6_swap_90, qX6_swap_91, qX6_swap_94, qX6_swap_95, qX6_swap_96, qX6_swap_39_o, qX6_swap_58_o, qX6_swap_62_o, b2i_t, rr2.k0 hx0, rr2.f0_0 hx0, rr2.f0_1 hx0, rr2.f0_2 hx0, rr2.f0_3 hx0, rr2.f0_4 hx0, rr2.f0_5 hx0, rr2.f0_6 hx0, rr2.f0_7 hx0, rr2.f0_8 hx0, rr2.f0_9 hx0, rr2.f0_10 hx0, rr2.f0_11 hx0, x5, c9, rr2.k12 hA, rr2.e12 (hi := hA)]
        have fin : ∀ (Z3 : ZS) (S3 : MS) (h3 : Hp), CTo N ad Z3 h h3 → INJ N Z3 S3 → S3.1 34 = 0 → S3 = swl (thr S 0) (N 5) (wn S c0) (S.2 7 (gn S c0)) rest0 → V ((p, l9, e, R), (sz, mi, args, below), (meth, cx, D9, b9), (P, X, 490, 2950)) h3 0 0 85 [some (.ref (ad 0 0)), some (.int (nI k)), some (.int (nI (N 4))), some (.ref (ad 12 0)), some (.int (nI 8)), some (.int (nI 8)), none] [] := by
          intro Z3 S3 h3 t3 inj h34 e3
          refine ry1_ok K FokX6 none noini [] 60 ?_
          simp only [ry1_s, ry_s, ry_0, hit, true_and, and_true, List.map_cons, List.map_nil, List.length_cons, List.length_nil, List.replicate, List.cons_append, List.nil_append, List.append_nil, List.length_append, List.set_cons_zero, List.set_cons_succ, lgt_0, lgt_s, lhas_0, lhas_s, isI_i, isRf_r, isRf_n, inc_i, of1, ofm1, rokI_i, rokI_0, rokI_1, rokI_b, okv_i, okv_z0, okv_z1, okv_or, okv_on, okv_ar, okv_b, isA_s, alen_s, cat_i, cat_r, cat_n, finC_s, hPe, rv, nar1, nar0,  b2i_0, oI_n, oI_s, d24, d168, d100, Int32.le_refl, vpT, nIc8, nIc12, nIc40, nIc200, hup_at, and_self, and_false, false_and, Nat.reduceEqDiff, Nat.reduceEqDiff, reduceCtorEq, ie_m1_0, il_m1_0, ie_m1_1, il_m1_1, ie_m1_2, il_m1_2, ie_m1_3, il_m1_3, ie_m1_4, ie_m1_5, ie_m1_6, ie_m1_7, ie_m1_8, ie_0_m1, il_0_0, ie_0_1, il_0_1, ie_0_2, il_0_2, ie_0_3, il_0_3, ie_0_4, ie_0_5, ie_0_6, ie_0_7, ie_0_8, ie_1_m1, ie_1_0, il_1_0, il_1_1, ie_1_2, il_1_2, ie_1_3, il_1_3, ie_1_4, ie_1_5, ie_1_6, ie_1_7, ie_1_8, ie_2_m1, ie_2_0, il_2_0, ie_2_1, il_2_1, il_2_2, ie_2_3, il_2_3, ie_2_4, ie_2_5, ie_2_6, ie_2_7, ie_2_8, ie_3_m1, ie_3_0, il_3_0, ie_3_1, il_3_1, ie_3_2, il_3_2, il_3_3, ie_3_4, ie_3_5, ie_3_6, ie_3_7, ie_3_8, ie_4_m1, ie_4_0, il_4_0, ie_4_1, il_4_1, ie_4_2, il_4_2, ie_4_3, il_4_3, ie_4_5, ie_4_6, ie_4_7, ie_4_8, ie_5_m1, ie_5_0, il_5_0, ie_5_1, il_5_1, ie_5_2, il_5_2, ie_5_3, il_5_3, ie_5_4, ie_5_6, ie_5_7, ie_5_8, ie_6_m1, ie_6_0, il_6_0, ie_6_1, il_6_1, ie_6_2, il_6_2, ie_6_3, il_6_3, ie_6_4, ie_6_5, ie_6_7, ie_6_8, ie_7_m1, ie_7_0, il_7_0, ie_7_1, il_7_1, ie_7_2, il_7_2, ie_7_3, il_7_3, ie_7_4, ie_7_5, ie_7_6, ie_7_8, ie_8_m1, ie_8_0, il_8_0, ie_8_1, il_8_1, ie_8_2, il_8_2, ie_8_3, il_8_3, ie_8_4, ie_8_5, ie_8_6, ie_8_7, Nat.reduceAdd, Nat.reduceSub, Nat.reduceLT, Nat.reduceLeDiff, Nat.reduceBEq, Bool.or_false, Bool.false_or, Bool.or_true, Bool.true_or, Bool.or_self, Bool.false_eq_true, ↓reduceIte, Nat.le_refl, Nat.zero_le, nI_p1, Option.toList, not_true_eq_false, not_false_eq_true, isRf_o, isR_o, isR_a, cat_o, okv_fo, okv_fa, orf_s, orf_n, both_t, both_f, rfn_n, rfn_s, eq_self, forall_const, qX6_swap_0, qX6_swap_1, qX6_swap_2, qX6_swap_3, qX6_swap_6, qX6_swap_9, qX6_swap_12, qX6_swap_13, qX6_swap_16, qX6_swap_19, qX6_swap_22, qX6_swap_26, qX6_swap_29, qX6_swap_30, qX6_swap_31, qX6_swap_34, qX6_swap_35, qX6_swap_36, qX6_swap_39r, qX6_swap_39n, qX6_swap_40, qX6_swap_41, qX6_swap_42, qX6_swap_44, qX6_swap_45, qX6_swap_47, qX6_swap_49, qX6_swap_51, qX6_swap_54, qX6_swap_55, qX6_swap_57, qX6_swap_58r, qX6_swap_58n, qX6_swap_60, qX6_swap_62n, qX6_swap_62r, qX6_swap_65, qX6_swap_66, qX6_swap_68, qX6_swap_71, qX6_swap_73, qX6_swap_76, qX6_swap_79, qX6_swap_82, qX6_swap_85, qX6_swap_86, qX6_swap_89, qX6_swap_90, qX6_swap_91, qX6_swap_94, qX6_swap_95, qX6_swap_96, qX6_swap_39_o, qX6_swap_58_o, qX6_swap_62_o]
          refine v_callV K (u_judgeAll hfl t3.1 inj.1) kX6_112 rfl (t3.1.k0 hx0) rfl (by decide) rfl (Nat.le_of_ble_eq_true rfl) rfl dX6_swap_86 ⟨by omega, by omega⟩ (fun _ _ z => z.elim) ?_; rintro _ h4 ⟨N9, ad9, Z9, rfl, t9, j9, m9, f9⟩
          have rr9 := t9.1
          have hx9 : 0 < N9 0 := by rw [m9.1 0 (by decide)]; exact hx0
          have hl9 : ad9 0 0 = ad 0 0 := t9.2.2.1 0 0 hx0
          rw [← hl9]
          have v9 : Z9.1 0 0 9 = (jdg S3 (N 2) (N 3) (N 4)).1.1 22 := by rw [j9.2.1.1.2.2.1]; exact j9.1.c9
          refine ry1_ok K FokX6 none noini [] 60 ?_
          simp only [ry1_s, ry_s, ry_0, hit, true_and, and_true, List.map_cons, List.map_nil, List.length_cons, List.length_nil, List.replicate, List.cons_append, List.nil_append, List.append_nil, List.length_append, List.set_cons_zero, List.set_cons_succ, lgt_0, lgt_s, lhas_0, lhas_s, isI_i, isRf_r, isRf_n, inc_i, of1, ofm1, rokI_i, rokI_0, rokI_1, rokI_b, okv_i, okv_z0, okv_z1, okv_or, okv_on, okv_ar, okv_b, isA_s, alen_s, cat_i, cat_r, cat_n, finC_s, hPe, rv, nar1, nar0,  b2i_0, oI_n, oI_s, d24, d168, d100, Int32.le_refl, vpT, nIc8, nIc12, nIc40, nIc200, hup_at, and_self, and_false, false_and, Nat.reduceEqDiff, Nat.reduceEqDiff, reduceCtorEq, ie_m1_0, il_m1_0, ie_m1_1, il_m1_1, ie_m1_2, il_m1_2, ie_m1_3, il_m1_3, ie_m1_4, ie_m1_5, ie_m1_6, ie_m1_7, ie_m1_8, ie_0_m1, il_0_0, ie_0_1, il_0_1, ie_0_2, il_0_2, ie_0_3, il_0_3, ie_0_4, ie_0_5, ie_0_6, ie_0_7, ie_0_8, ie_1_m1, ie_1_0, il_1_0, il_1_1, ie_1_2, il_1_2, ie_1_3, il_1_3, ie_1_4, ie_1_5, ie_1_6, ie_1_7, ie_1_8, ie_2_m1, ie_2_0, il_2_0, ie_2_1, il_2_1, il_2_2, ie_2_3, il_2_3, ie_2_4, ie_2_5, ie_2_6, ie_2_7, ie_2_8, ie_3_m1, ie_3_0, il_3_0, ie_3_1, il_3_1, ie_3_2, il_3_2, il_3_3, ie_3_4, ie_3_5, ie_3_6, ie_3_7, ie_3_8, ie_4_m1, ie_4_0, il_4_0, ie_4_1, il_4_1, ie_4_2, il_4_2, ie_4_3, il_4_3, ie_4_5, ie_4_6, ie_4_7, ie_4_8, ie_5_m1, ie_5_0, il_5_0, ie_5_1, il_5_1, ie_5_2, il_5_2, ie_5_3, il_5_3, ie_5_4, ie_5_6, ie_5_7, ie_5_8, ie_6_m1, ie_6_0, il_6_0, ie_6_1, il_6_1, ie_6_2, il_6_2, ie_6_3, il_6_3, ie_6_4, ie_6_5, ie_6_7, ie_6_8, ie_7_m1, ie_7_0, il_7_0, ie_7_1, il_7_1, ie_7_2, il_7_2, ie_7_3, il_7_3, ie_7_4, ie_7_5, ie_7_6, ie_7_8, ie_8_m1, ie_8_0, il_8_0, ie_8_1, il_8_1, ie_8_2, il_8_2, ie_8_3, il_8_3, ie_8_4, ie_8_5, ie_8_6, ie_8_7, Nat.reduceAdd, Nat.reduceSub, Nat.reduceLT, Nat.reduceLeDiff, Nat.reduceBEq, Bool.or_false, Bool.false_or, Bool.or_true, Bool.true_or, Bool.or_self, Bool.false_eq_true, ↓reduceIte, Nat.le_refl, Nat.zero_le, nI_p1, Option.toList, not_true_eq_false, not_false_eq_true, isRf_o, isR_o, isR_a, cat_o, okv_fo, okv_fa, orf_s, orf_n, both_t, both_f, rfn_n, rfn_s, eq_self, forall_const, qX6_swap_0, qX6_swap_1, qX6_swap_2, qX6_swap_3, qX6_swap_6, qX6_swap_9, qX6_swap_12, qX6_swap_13, qX6_swap_16, qX6_swap_19, qX6_swap_22, qX6_swap_26, qX6_swap_29, qX6_swap_30, qX6_swap_31, qX6_swap_34, qX6_swap_35, qX6_swap_36, qX6_swap_39r, qX6_swap_39n, qX6_swap_40, qX6_swap_41, qX6_swap_42, qX6_swap_44, qX6_swap_45, qX6_swap_47, qX6_swap_49, qX6_swap_51, qX6_swap_54, qX6_swap_55, qX6_swap_57, qX6_swap_58r, qX6_swap_58n, qX6_swap_60, qX6_swap_62n, qX6_swap_62r, qX6_swap_65, qX6_swap_66, qX6_swap_68, qX6_swap_71, qX6_swap_73, qX6_swap_76, qX6_swap_79, qX6_swap_82, qX6_swap_85, qX6_swap_86, qX6_swap_89, qX6_swap_90, qX6_swap_91, qX6_swap_94, qX6_swap_95, qX6_swap_96, qX6_swap_39_o, qX6_swap_58_o, qX6_swap_62_o, rr9.k0 hx9, rr9.f0_0 hx9, rr9.f0_1 hx9, rr9.f0_2 hx9, rr9.f0_3 hx9, rr9.f0_4 hx9, rr9.f0_5 hx9, rr9.f0_6 hx9, rr9.f0_7 hx9, rr9.f0_8 hx9, rr9.f0_9 hx9, rr9.f0_10 hx9, rr9.f0_11 hx9, v9]
          rw [← e3, inv.s22]
          exact PC.jdg t3 inj h34 t9 j9 m9 f9
        have tail : ∀ (n i : Nat) (Z3 : ZS) (S3 : MS) (h3 : Hp), i + n = 8 → (c0 :: rest0).length ≤ i → CTo N ad Z3 h h3 → INJ N Z3 S3 → S3.1 34 = 0 → (∀ i, i < 8 → Z3.2 12 0 i = (c0 :: rest0)[i]?) → S3 = swl (thr S 0) (N 5) (wn S c0) (S.2 7 (gn S c0)) rest0 → V ((p, l9, e, R), (sz, mi, args, below), (meth, cx, D9, b9), (P, X, 490, 2950)) h3 0 0 47 [some (.ref (ad 0 0)), some (.int (nI k)), some (.int (nI (N 4))), some (.ref (ad 12 0)), some (.int (nI 8)), some (.int (nI i)), none] [] := by
          intro n
          induction n with
          | zero =>
            intro i Z3 S3 h3 hi hle t3 inj h34 hrw e3
            have hi : i = 8 := by omega
            subst hi
            refine ry1_ok K FokX6 none noini [47, 85] 60 ?_
            simp only [ry1_s, ry_s, ry_0, hit, true_and, and_true, List.map_cons, List.map_nil, List.length_cons, List.length_nil, List.replicate, List.cons_append, List.nil_append, List.append_nil, List.length_append, List.set_cons_zero, List.set_cons_succ, lgt_0, lgt_s, lhas_0, lhas_s, isI_i, isRf_r, isRf_n, inc_i, of1, ofm1, rokI_i, rokI_0, rokI_1, rokI_b, okv_i, okv_z0, okv_z1, okv_or, okv_on, okv_ar, okv_b, isA_s, alen_s, cat_i, cat_r, cat_n, finC_s, hPe, rv, nar1, nar0,  b2i_0, oI_n, oI_s, d24, d168, d100, Int32.le_refl, vpT, nIc8, nIc12, nIc40, nIc200, hup_at, and_self, and_false, false_and, Nat.reduceEqDiff, Nat.reduceEqDiff, reduceCtorEq, ie_m1_0, il_m1_0, ie_m1_1, il_m1_1, ie_m1_2, il_m1_2, ie_m1_3, il_m1_3, ie_m1_4, ie_m1_5, ie_m1_6, ie_m1_7, ie_m1_8, ie_0_m1, il_0_0, ie_0_1, il_0_1, ie_0_2, il_0_2, ie_0_3, il_0_3, ie_0_4, ie_0_5, ie_0_6, ie_0_7, ie_0_8, ie_1_m1, ie_1_0, il_1_0, il_1_1, ie_1_2, il_1_2, ie_1_3, il_1_3, ie_1_4, ie_1_5, ie_1_6, ie_1_7, ie_1_8, ie_2_m1, ie_2_0, il_2_0, ie_2_1, il_2_1, il_2_2, ie_2_3, il_2_3, ie_2_4, ie_2_5, ie_2_6, ie_2_7, ie_2_8, ie_3_m1, ie_3_0, il_3_0, ie_3_1, il_3_1, ie_3_2, il_3_2, il_3_3, ie_3_4, ie_3_5, ie_3_6, ie_3_7, ie_3_8, ie_4_m1, ie_4_0, il_4_0, ie_4_1, il_4_1, ie_4_2, il_4_2, ie_4_3, il_4_3, ie_4_5, ie_4_6, ie_4_7, ie_4_8, ie_5_m1, ie_5_0, il_5_0, ie_5_1, il_5_1, ie_5_2, il_5_2, ie_5_3, il_5_3, ie_5_4, ie_5_6, ie_5_7, ie_5_8, ie_6_m1, ie_6_0, il_6_0, ie_6_1, il_6_1, ie_6_2, il_6_2, ie_6_3, il_6_3, ie_6_4, ie_6_5, ie_6_7, ie_6_8, ie_7_m1, ie_7_0, il_7_0, ie_7_1, il_7_1, ie_7_2, il_7_2, ie_7_3, il_7_3, ie_7_4, ie_7_5, ie_7_6, ie_7_8, ie_8_m1, ie_8_0, il_8_0, ie_8_1, il_8_1, ie_8_2, il_8_2, ie_8_3, il_8_3, ie_8_4, ie_8_5, ie_8_6, ie_8_7, Nat.reduceAdd, Nat.reduceSub, Nat.reduceLT, Nat.reduceLeDiff, Nat.reduceBEq, Bool.or_false, Bool.false_or, Bool.or_true, Bool.true_or, Bool.or_self, Bool.false_eq_true, ↓reduceIte, Nat.le_refl, Nat.zero_le, nI_p1, Option.toList, not_true_eq_false, not_false_eq_true, isRf_o, isR_o, isR_a, cat_o, okv_fo, okv_fa, orf_s, orf_n, both_t, both_f, rfn_n, rfn_s, eq_self, forall_const, qX6_swap_0, qX6_swap_1, qX6_swap_2, qX6_swap_3, qX6_swap_6, qX6_swap_9, qX6_swap_12, qX6_swap_13, qX6_swap_16, qX6_swap_19, qX6_swap_22, qX6_swap_26, qX6_swap_29, qX6_swap_30, qX6_swap_31, qX6_swap_34, qX6_swap_35, qX6_swap_36, qX6_swap_39r, qX6_swap_39n, qX6_swap_40, qX6_swap_41, qX6_swap_42, qX6_swap_44, qX6_swap_45, qX6_swap_47, qX6_swap_49, qX6_swap_51, qX6_swap_54, qX6_swap_55, qX6_swap_57, qX6_swap_58r, qX6_swap_58n, qX6_swap_60, qX6_swap_62n, qX6_swap_62r, qX6_swap_65, qX6_swap_66, qX6_swap_68, qX6_swap_71, qX6_swap_73, qX6_swap_76, qX6_swap_79, qX6_swap_82, qX6_swap_85, qX6_swap_86, qX6_swap_89, qX6_swap_90, qX6_swap_91, qX6_swap_94, qX6_swap_95, qX6_swap_96, qX6_swap_39_o, qX6_swap_58_o, qX6_swap_62_o, Int32.le_refl]
            exact fin Z3 S3 h3 t3 inj h34 e3
          | succ n ih =>
            intro i Z3 S3 h3 hi hle t3 inj h34 hrw e3
            have rr3 := t3.1
            have hi8 : i < 8 := by omega
            have hge : ¬ nI 8 ≤ nI i := by rw [nG (by omega) (by decide)]; omega
            have ez : Z3.2 12 0 i = none := by rw [hrw i hi8]; exact List.getElem?_eq_none hle
            refine ry1_ok K FokX6 none noini [47] 60 ?_
            simp only [ry1_s, ry_s, ry_0, hit, true_and, and_true, List.map_cons, List.map_nil, List.length_cons, List.length_nil, List.replicate, List.cons_append, List.nil_append, List.append_nil, List.length_append, List.set_cons_zero, List.set_cons_succ, lgt_0, lgt_s, lhas_0, lhas_s, isI_i, isRf_r, isRf_n, inc_i, of1, ofm1, rokI_i, rokI_0, rokI_1, rokI_b, okv_i, okv_z0, okv_z1, okv_or, okv_on, okv_ar, okv_b, isA_s, alen_s, cat_i, cat_r, cat_n, finC_s, hPe, rv, nar1, nar0,  b2i_0, oI_n, oI_s, d24, d168, d100, Int32.le_refl, vpT, nIc8, nIc12, nIc40, nIc200, hup_at, and_self, and_false, false_and, Nat.reduceEqDiff, Nat.reduceEqDiff, reduceCtorEq, ie_m1_0, il_m1_0, ie_m1_1, il_m1_1, ie_m1_2, il_m1_2, ie_m1_3, il_m1_3, ie_m1_4, ie_m1_5, ie_m1_6, ie_m1_7, ie_m1_8, ie_0_m1, il_0_0, ie_0_1, il_0_1, ie_0_2, il_0_2, ie_0_3, il_0_3, ie_0_4, ie_0_5, ie_0_6, ie_0_7, ie_0_8, ie_1_m1, ie_1_0, il_1_0, il_1_1, ie_1_2, il_1_2, ie_1_3, il_1_3, ie_1_4, ie_1_5, ie_1_6, ie_1_7, ie_1_8, ie_2_m1, ie_2_0, il_2_0, ie_2_1, il_2_1, il_2_2, ie_2_3, il_2_3, ie_2_4, ie_2_5, ie_2_6, ie_2_7, ie_2_8, ie_3_m1, ie_3_0, il_3_0, ie_3_1, il_3_1, ie_3_2, il_3_2, il_3_3, ie_3_4, ie_3_5, ie_3_6, ie_3_7, ie_3_8, ie_4_m1, ie_4_0, il_4_0, ie_4_1, il_4_1, ie_4_2, il_4_2, ie_4_3, il_4_3, ie_4_5, ie_4_6, ie_4_7, ie_4_8, ie_5_m1, ie_5_0, il_5_0, ie_5_1, il_5_1, ie_5_2, il_5_2, ie_5_3, il_5_3, ie_5_4, ie_5_6, ie_5_7, ie_5_8, ie_6_m1, ie_6_0, il_6_0, ie_6_1, il_6_1, ie_6_2, il_6_2, ie_6_3, il_6_3, ie_6_4, ie_6_5, ie_6_7, ie_6_8, ie_7_m1, ie_7_0, il_7_0, ie_7_1, il_7_1, ie_7_2, il_7_2, ie_7_3, il_7_3, ie_7_4, ie_7_5, ie_7_6, ie_7_8, ie_8_m1, ie_8_0, il_8_0, ie_8_1, il_8_1, ie_8_2, il_8_2, ie_8_3, il_8_3, ie_8_4, ie_8_5, ie_8_6, ie_8_7, Nat.reduceAdd, Nat.reduceSub, Nat.reduceLT, Nat.reduceLeDiff, Nat.reduceBEq, Bool.or_false, Bool.false_or, Bool.or_true, Bool.true_or, Bool.or_self, Bool.false_eq_true, ↓reduceIte, Nat.le_refl, Nat.zero_le, nI_p1, Option.toList, not_true_eq_false, not_false_eq_true, isRf_o, isR_o, isR_a, cat_o, okv_fo, okv_fa, orf_s, orf_n, both_t, both_f, rfn_n, rfn_s, eq_self, forall_const, qX6_swap_0, qX6_swap_1, qX6_swap_2, qX6_swap_3, qX6_swap_6, qX6_swap_9, qX6_swap_12, qX6_swap_13, qX6_swap_16, qX6_swap_19, qX6_swap_22, qX6_swap_26, qX6_swap_29, qX6_swap_30, qX6_swap_31, qX6_swap_34, qX6_swap_35, qX6_swap_36, qX6_swap_39r, qX6_swap_39n, qX6_swap_40, qX6_swap_41, qX6_swap_42, qX6_swap_44, qX6_swap_45, qX6_swap_47, qX6_swap_49, qX6_swap_51, qX6_swap_54, qX6_swap_55, qX6_swap_57, qX6_swap_58r, qX6_swap_58n, qX6_swap_60, qX6_swap_62n, qX6_swap_62r, qX6_swap_65, qX6_swap_66, qX6_swap_68, qX6_swap_71, qX6_swap_73, qX6_swap_76, qX6_swap_79, qX6_swap_82, qX6_swap_85, qX6_swap_86, qX6_swap_89, qX6_swap_90, qX6_swap_91, qX6_swap_94, qX6_swap_95, qX6_swap_96, qX6_swap_39_o, qX6_swap_58_o, qX6_swap_62_o, rr3.k12 hA, rr3.e12 (hi := hA), hge, hi8, ez]
            exact v_forget 6 (ih (i + 1) Z3 S3 h3 (by omega) (by omega) t3 inj h34 hrw e3)
        have step : ∀ (i c : Nat) (Z3 : ZS) (S3 : MS) (h3 : Hp), (c0 :: rest0)[i]? = some c → CTo N ad Z3 h h3 → INJ N Z3 S3 → (∀ i, i < 8 → Z3.2 12 0 i = (c0 :: rest0)[i]?) → (∀ c f, c < N 5 → f < 3 → Z3.2 5 c f = Z.2 5 c f) → (∀ q, q ≠ 7 → q ≠ 31 → S3.2 q = S.2 q) → (∀ t, (∀ m d, m < i → (c0 :: rest0)[m]? = some d → ¬ S.2 30 d = nI t) → S3.2 7 t = S.2 7 t) →
            (∀ Z4 h4, CTo N ad Z4 h h4 → INJ N Z4 (gvt S3 (N 5) (wn S c) (S.2 7 (gn S c))) → (∀ i, i < 8 → Z4.2 12 0 i = (c0 :: rest0)[i]?) → (∀ c f, c < N 5 → f < 3 → Z4.2 5 c f = Z.2 5 c f) → (∀ q, q ≠ 7 → q ≠ 31 → (gvt S3 (N 5) (wn S c) (S.2 7 (gn S c))).2 q = S.2 q) → (∀ t, (∀ m d, m < i + 1 → (c0 :: rest0)[m]? = some d → ¬ S.2 30 d = nI t) → (gvt S3 (N 5) (wn S c) (S.2 7 (gn S c))).2 7 t = S.2 7 t) → V ((p, l9, e, R), (sz, mi, args, below), (meth, cx, D9, b9), (P, X, 490, 2950)) h4 0 0 47 [some (.ref (ad 0 0)), some (.int (nI k)), some (.int (nI (N 4))), some (.ref (ad 12 0)), some (.int (nI 8)), some (.int (nI (i + 1))), none] []) →
            V ((p, l9, e, R), (sz, mi, args, below), (meth, cx, D9, b9), (P, X, 490, 2950)) h3 0 0 47 [some (.ref (ad 0 0)), some (.int (nI k)), some (.int (nI (N 4))), some (.ref (ad 12 0)), some (.int (nI 8)), some (.int (nI i)), none] [] := by
          intro i c Z3 S3 h3 hc t3 inj hrw h5 hS h7 K9
          have rr3 := t3.1
          have hi9 : i < (c0 :: rest0).length := (List.getElem?_eq_some_iff.mp hc).1
          have hi8 : i < 8 := by omega
          have hge : ¬ nI 8 ≤ nI i := by rw [nG (by omega) (by decide)]; omega
          obtain ⟨hcn, hc31⟩ := hm c (List.mem_of_getElem? hc)
          rw [m2.1] at hc31
          obtain ⟨-, w, g, t, b1, b2, b3, b4, b5, b6, b7⟩ := inv.2.2.1 c hcn
          obtain ⟨b8, v, b9, b10⟩ := b7 hc31
          have egn := (gn_eq inv.1 hcn b2 b5).1
          obtain ⟨ewn, ew30⟩ := wn_eq inv.1 hcn b3 b6
          have e7 : S.2 7 (gn S c) = oI (some w) := by rw [egn, inv.h7 b5, b8]
          rw [ewn, e7] at K9
          have ez : Z3.2 12 0 i = some c := by rw [hrw i hi8]; exact hc
          have y0 : Z3.2 5 c 0 = some w := by rw [h5 c 0 hcn (by decide)]; exact b1
          have y2 : Z3.2 5 c 2 = some t := by rw [h5 c 2 hcn (by decide)]; exact b3
          have hne : Z3.2 2 t 6 ≠ some w := by
            intro hz
            have h71 := h7 t (fun m d hmi hd hw => by
              have := rg.wd hd hc (by rw [hw, ew30])
              omega)
            rw [inj.1.h7 b6, inv.h7 b6, b9, hz] at h71
            have h72 := (iff_of_eq (oI_inj (a := some w) (c := some v) (fun x hx => by cases hx; omega) (fun x hx => by cases hx; have := inv.io.2 t v b6 b9; omega))).mp h71
            exact b10 (Option.some.inj h72).symm
          have hne7 : ¬ S3.2 7 t = oI (some w) := by
            rw [inj.1.h7 b6]
            intro hz
            exact hne ((iff_of_eq (oI_inj (fun x hx => by have := inj.1.2.2.1.1.2 t x b6 hx; omega) (fun x hx => by cases hx; omega))).mp hz)
          have hgw : ∀ u, some w = some u → u < 8 := fun u hu => by cases hu; exact b4
          refine ry1_ok K FokX6 none noini [47] 60 ?_
          simp only [ry1_s, ry_s, ry_0, hit, true_and, and_true, List.map_cons, List.map_nil, List.length_cons, List.length_nil, List.replicate, List.cons_append, List.nil_append, List.append_nil, List.length_append, List.set_cons_zero, List.set_cons_succ, lgt_0, lgt_s, lhas_0, lhas_s, isI_i, isRf_r, isRf_n, inc_i, of1, ofm1, rokI_i, rokI_0, rokI_1, rokI_b, okv_i, okv_z0, okv_z1, okv_or, okv_on, okv_ar, okv_b, isA_s, alen_s, cat_i, cat_r, cat_n, finC_s, hPe, rv, nar1, nar0,  b2i_0, oI_n, oI_s, d24, d168, d100, Int32.le_refl, vpT, nIc8, nIc12, nIc40, nIc200, hup_at, and_self, and_false, false_and, Nat.reduceEqDiff, Nat.reduceEqDiff, reduceCtorEq, ie_m1_0, il_m1_0, ie_m1_1, il_m1_1, ie_m1_2, il_m1_2, ie_m1_3, il_m1_3, ie_m1_4, ie_m1_5, ie_m1_6, ie_m1_7, ie_m1_8, ie_0_m1, il_0_0, ie_0_1, il_0_1, ie_0_2, il_0_2, ie_0_3, il_0_3, ie_0_4, ie_0_5, ie_0_6, ie_0_7, ie_0_8, ie_1_m1, ie_1_0, il_1_0, il_1_1, ie_1_2, il_1_2, ie_1_3, il_1_3, ie_1_4, ie_1_5, ie_1_6, ie_1_7, ie_1_8, ie_2_m1, ie_2_0, il_2_0, ie_2_1, il_2_1, il_2_2, ie_2_3, il_2_3, ie_2_4, ie_2_5, ie_2_6, ie_2_7, ie_2_8, ie_3_m1, ie_3_0, il_3_0, ie_3_1, il_3_1, ie_3_2, il_3_2, il_3_3, ie_3_4, ie_3_5, ie_3_6, ie_3_7, ie_3_8, ie_4_m1, ie_4_0, il_4_0, ie_4_1, il_4_1, ie_4_2, il_4_2, ie_4_3, il_4_3, ie_4_5, ie_4_6, ie_4_7, ie_4_8, ie_5_m1, ie_5_0, il_5_0, ie_5_1, il_5_1, ie_5_2, il_5_2, ie_5_3, il_5_3, ie_5_4, ie_5_6, ie_5_7, ie_5_8, ie_6_m1, ie_6_0, il_6_0, ie_6_1, il_6_1, ie_6_2, il_6_2, ie_6_3, il_6_3, ie_6_4, ie_6_5, ie_6_7, ie_6_8, ie_7_m1, ie_7_0, il_7_0, ie_7_1, il_7_1, ie_7_2, il_7_2, ie_7_3, il_7_3, ie_7_4, ie_7_5, ie_7_6, ie_7_8, ie_8_m1, ie_8_0, il_8_0, ie_8_1, il_8_1, ie_8_2, il_8_2, ie_8_3, il_8_3, ie_8_4, ie_8_5, ie_8_6, ie_8_7, Nat.reduceAdd, Nat.reduceSub, Nat.reduceLT, Nat.reduceLeDiff, Nat.reduceBEq, Bool.or_false, Bool.false_or, Bool.or_true, Bool.true_or, Bool.or_self, Bool.false_eq_true, ↓reduceIte, Nat.le_refl, Nat.zero_le, nI_p1, Option.toList, not_true_eq_false, not_false_eq_true, isRf_o, isR_o, isR_a, cat_o, okv_fo, okv_fa, orf_s, orf_n, both_t, both_f, rfn_n, rfn_s, eq_self, forall_const, qX6_swap_0, qX6_swap_1, qX6_swap_2, qX6_swap_3, qX6_swap_6, qX6_swap_9, qX6_swap_12, qX6_swap_13, qX6_swap_16, qX6_swap_19, qX6_swap_22, qX6_swap_26, qX6_swap_29, qX6_swap_30, qX6_swap_31, qX6_swap_34, qX6_swap_35, qX6_swap_36, qX6_swap_39r, qX6_swap_39n, qX6_swap_40, qX6_swap_41, qX6_swap_42, qX6_swap_44, qX6_swap_45, qX6_swap_47, qX6_swap_49, qX6_swap_51, qX6_swap_54, qX6_swap_55, qX6_swap_57, qX6_swap_58r, qX6_swap_58n, qX6_swap_60, qX6_swap_62n, qX6_swap_62r, qX6_swap_65, qX6_swap_66, qX6_swap_68, qX6_swap_71, qX6_swap_73, qX6_swap_76, qX6_swap_79, qX6_swap_82, qX6_swap_85, qX6_swap_86, qX6_swap_89, qX6_swap_90, qX6_swap_91, qX6_swap_94, qX6_swap_95, qX6_swap_96, qX6_swap_39_o, qX6_swap_58_o, qX6_swap_62_o, rr3.k12 hA, rr3.e12 (hi := hA), hge, hi8, ez, rr3.k5 hcn, rr3.f5_0 hcn, rr3.f5_1 hcn, rr3.f5_2 hcn, rr3.f5_3 hcn, y0, y2]
          refine v_callV K (u_handOver hfl rr3 inj.1.1 inj.1.2.2.1.1 b6 hgw) kX6_108 rfl (rr3.k0 hx0) rfl (by decide) rfl (Nat.le_of_ble_eq_true rfl) rfl dX6_swap_76 ⟨by omega, by omega⟩ (fun _ _ z => z.elim) ?_; rintro _ h4 ⟨rfl, t4⟩
          obtain ⟨Z4, hop, t4⟩ := t4
          have inj4 := inj_ho inj hop b6 hgw hne
          refine ry1_ok K FokX6 none noini [47] 60 ?_
          simp only [ry1_s, ry_s, ry_0, hit, true_and, and_true, List.map_cons, List.map_nil, List.length_cons, List.length_nil, List.replicate, List.cons_append, List.nil_append, List.append_nil, List.length_append, List.set_cons_zero, List.set_cons_succ, lgt_0, lgt_s, lhas_0, lhas_s, isI_i, isRf_r, isRf_n, inc_i, of1, ofm1, rokI_i, rokI_0, rokI_1, rokI_b, okv_i, okv_z0, okv_z1, okv_or, okv_on, okv_ar, okv_b, isA_s, alen_s, cat_i, cat_r, cat_n, finC_s, hPe, rv, nar1, nar0,  b2i_0, oI_n, oI_s, d24, d168, d100, Int32.le_refl, vpT, nIc8, nIc12, nIc40, nIc200, hup_at, and_self, and_false, false_and, Nat.reduceEqDiff, Nat.reduceEqDiff, reduceCtorEq, ie_m1_0, il_m1_0, ie_m1_1, il_m1_1, ie_m1_2, il_m1_2, ie_m1_3, il_m1_3, ie_m1_4, ie_m1_5, ie_m1_6, ie_m1_7, ie_m1_8, ie_0_m1, il_0_0, ie_0_1, il_0_1, ie_0_2, il_0_2, ie_0_3, il_0_3, ie_0_4, ie_0_5, ie_0_6, ie_0_7, ie_0_8, ie_1_m1, ie_1_0, il_1_0, il_1_1, ie_1_2, il_1_2, ie_1_3, il_1_3, ie_1_4, ie_1_5, ie_1_6, ie_1_7, ie_1_8, ie_2_m1, ie_2_0, il_2_0, ie_2_1, il_2_1, il_2_2, ie_2_3, il_2_3, ie_2_4, ie_2_5, ie_2_6, ie_2_7, ie_2_8, ie_3_m1, ie_3_0, il_3_0, ie_3_1, il_3_1, ie_3_2, il_3_2, il_3_3, ie_3_4, ie_3_5, ie_3_6, ie_3_7, ie_3_8, ie_4_m1, ie_4_0, il_4_0, ie_4_1, il_4_1, ie_4_2, il_4_2, ie_4_3, il_4_3, ie_4_5, ie_4_6, ie_4_7, ie_4_8, ie_5_m1, ie_5_0, il_5_0, ie_5_1, il_5_1, ie_5_2, il_5_2, ie_5_3, il_5_3, ie_5_4, ie_5_6, ie_5_7, ie_5_8, ie_6_m1, ie_6_0, il_6_0, ie_6_1, il_6_1, ie_6_2, il_6_2, ie_6_3, il_6_3, ie_6_4, ie_6_5, ie_6_7, ie_6_8, ie_7_m1, ie_7_0, il_7_0, ie_7_1, il_7_1, ie_7_2, il_7_2, ie_7_3, il_7_3, ie_7_4, ie_7_5, ie_7_6, ie_7_8, ie_8_m1, ie_8_0, il_8_0, ie_8_1, il_8_1, ie_8_2, il_8_2, ie_8_3, il_8_3, ie_8_4, ie_8_5, ie_8_6, ie_8_7, Nat.reduceAdd, Nat.reduceSub, Nat.reduceLT, Nat.reduceLeDiff, Nat.reduceBEq, Bool.or_false, Bool.false_or, Bool.or_true, Bool.true_or, Bool.or_self, Bool.false_eq_true, ↓reduceIte, Nat.le_refl, Nat.zero_le, nI_p1, Option.toList, not_true_eq_false, not_false_eq_true, isRf_o, isR_o, isR_a, cat_o, okv_fo, okv_fa, orf_s, orf_n, both_t, both_f, rfn_n, rfn_s, eq_self, forall_const, qX6_swap_0, qX6_swap_1, qX6_swap_2, qX6_swap_3, qX6_swap_6, qX6_swap_9, qX6_swap_12, qX6_swap_13, qX6_swap_16, qX6_swap_19, qX6_swap_22, qX6_swap_26, qX6_swap_29, qX6_swap_30, qX6_swap_31, qX6_swap_34, qX6_swap_35, qX6_swap_36, qX6_swap_39r, qX6_swap_39n, qX6_swap_40, qX6_swap_41, qX6_swap_42, qX6_swap_44, qX6_swap_45, qX6_swap_47, qX6_swap_49, qX6_swap_51, qX6_swap_54, qX6_swap_55, qX6_swap_57, qX6_swap_58r, qX6_swap_58n, qX6_swap_60, qX6_swap_62n, qX6_swap_62r, qX6_swap_65, qX6_swap_66, qX6_swap_68, qX6_swap_71, qX6_swap_73, qX6_swap_76, qX6_swap_79, qX6_swap_82, qX6_swap_85, qX6_swap_86, qX6_swap_89, qX6_swap_90, qX6_swap_91, qX6_swap_94, qX6_swap_95, qX6_swap_96, qX6_swap_39_o, qX6_swap_58_o, qX6_swap_62_o]
          refine v_forget 6 (K9 Z4 h4 (t3.tr t4) inj4 (fun i hi => ?_) (fun c f h1 h2 => ?_) (fun q h1 h2 => ?_) (fun t' ht' => ?_))
          · rw [hop.2.2.1 12 0 i (by decide) (by simp)]; exact hrw i hi
          · rw [hop.2.2.1 5 c f (by decide) (by simp)]; exact h5 c f h1 h2
          · rw [gvt_2 _ _ _ _ _ ⟨h1, h2⟩]; exact hS q h1 h2
          · rw [gvt_7 hne7]
            have hd := ht' i c (by omega) hc
            rw [ew30] at hd
            rw [if_neg (fun z => hd (by rw [z]))]
            exact h7 t' (fun m d hmi hd => ht' m d (by omega) hd)
        have key : ∀ (rest : List Nat) (i c : Nat) (Z3 : ZS) (S3 : MS) (h3 : Hp), (c0 :: rest0)[i]? = some c → i + (rest.length + 1) = (c0 :: rest0).length → (∀ m, rest[m]? = (c0 :: rest0)[i + 1 + m]?) → CTo N ad Z3 h h3 → INJ N Z3 S3 → S3.1 34 = 0 → (∀ i, i < 8 → Z3.2 12 0 i = (c0 :: rest0)[i]?) → (∀ c f, c < N 5 → f < 3 → Z3.2 5 c f = Z.2 5 c f) → (∀ q, q ≠ 7 → q ≠ 31 → S3.2 q = S.2 q) → (∀ t, (∀ m d, m < i → (c0 :: rest0)[m]? = some d → ¬ S.2 30 d = nI t) → S3.2 7 t = S.2 7 t) → swl (thr S 0) (N 5) (wn S c0) (S.2 7 (gn S c0)) rest0 = swl S3 (N 5) (wn S c) (S.2 7 (gn S c)) rest → V ((p, l9, e, R), (sz, mi, args, below), (meth, cx, D9, b9), (P, X, 490, 2950)) h3 0 0 47 [some (.ref (ad 0 0)), some (.int (nI k)), some (.int (nI (N 4))), some (.ref (ad 12 0)), some (.int (nI 8)), some (.int (nI i)), none] [] := by
          intro rest
          induction rest with
          | nil =>
            intro i c Z3 S3 h3 hc hi hr t3 inj h34 hrw h5 hS h7 e3
            refine step i c Z3 S3 h3 hc t3 inj hrw h5 hS h7 (fun Z4 h4 t4 inj4 hrw4 h54 hS4 h74 => ?_)
            have hi : i + 1 = (c0 :: rest0).length := hi
            exact tail (7 - i) (i + 1) Z4 _ h4 (by omega) (by omega) t4 inj4 (by rw [gvt_1]; exact h34) hrw4 e3.symm
          | cons c1 rest ih =>
            intro i c Z3 S3 h3 hc hi hr t3 inj h34 hrw h5 hS h7 e3
            have hc1 : (c0 :: rest0)[i + 1]? = some c1 := (hr 0).symm
            refine step i c Z3 S3 h3 hc t3 inj hrw h5 hS h7 (fun Z4 h4 t4 inj4 hrw4 h54 hS4 h74 => ?_)
            have hi : i + (rest.length + 1 + 1) = (c0 :: rest0).length := hi
            refine ih (i + 1) c1 Z4 _ h4 hc1 (by omega) (fun m => ?_) t4 inj4 (by rw [gvt_1]; exact h34) hrw4 h54 hS4 h74 ?_
            · rw [show i + 1 + 1 + m = i + 1 + (m + 1) by omega, ← hr (m + 1)]
              rfl
            · rw [e3]
              show swl (gvt S3 (N 5) (wn S c) (S.2 7 (gn S c))) (N 5) (wn S3 c1) (S3.2 7 (gn S3 c1)) rest = _
              have e1 : wn S3 c1 = wn S c1 := by unfold wn; rw [hS 30 (by decide) (by decide)]
              have e2 : gn S3 c1 = gn S c1 := by unfold gn; rw [hS 29 (by decide) (by decide)]
              obtain ⟨hcn, hc31⟩ := hm c1 (List.mem_of_getElem? hc1)
              obtain ⟨-, w, g, t, b1, b2, b3, b4, b5, b6, b7⟩ := inv.2.2.1 c1 hcn
              obtain ⟨egn, eg29⟩ := gn_eq inv.1 hcn b2 b5
              have e4 : S3.2 7 (gn S c1) = S.2 7 (gn S c1) := h7 _ (fun m d hmi hd hw => rg.wg hd hc1 hmi (by rw [hw, eg29, egn]))
              rw [e1, e2, e4]
        refine key rest0 0 c0 Z2 (thr S 0) h2 rfl (by simp) (fun m => by rw [Nat.zero_add, Nat.add_comm]; rfl) t2 (inv2.thr 0).inj rfl hrow (fun c f _ _ => m2.2 5 c f (by decide)) (fun _ _ _ => rfl) (fun _ _ => rfl) rfl
theorem o_swap_no (inv : INV N Z S) {x : Int32} (hx : ¬ ∃ k, k < N 5 ∧ x = nI k) : OP iX6_swap [.int x] [eIO, eIS] 490 2950 N Z S 0 (thr S 1) := by
  intro l D b h ad hfl rr
  refine v_entry iX6_swap pl6 mX6_swap (by simp only [List.forall_mem_cons, List.not_mem_nil, false_implies, cat_o, cat_r, cat_i, cat_n, and_self, implies_true]) hfl ?_
  rintro ⟨⟨p, l9, e, R⟩, ⟨sz, mi, args, below⟩, ⟨meth, cx, D9, b9⟩, ⟨P, X, mc, ms⟩⟩ rfl rfl rfl hPX K
  injection hPX with hP hPX
  injection hPX with hX hPX
  injection hPX with hMC hMS
  subst hMC hMS
  have hPe := fun r h9 => congrFun (congrFun hP r) h9
  refine ry1_ok K FokX6 none noini [] 60 ?_
  simp only [ry1_s, ry_s, ry_0, hit, true_and, and_true, List.map_cons, List.map_nil, List.length_cons, List.length_nil, List.replicate, List.cons_append, List.nil_append, List.append_nil, List.length_append, List.set_cons_zero, List.set_cons_succ, lgt_0, lgt_s, lhas_0, lhas_s, isI_i, isRf_r, isRf_n, inc_i, of1, ofm1, rokI_i, rokI_0, rokI_1, rokI_b, okv_i, okv_z0, okv_z1, okv_or, okv_on, okv_ar, okv_b, isA_s, alen_s, cat_i, cat_r, cat_n, finC_s, hPe, rv, nar1, nar0,  b2i_0, oI_n, oI_s, d24, d168, d100, Int32.le_refl, vpT, nIc8, nIc12, nIc40, nIc200, hup_at, and_self, and_false, false_and, Nat.reduceEqDiff, Nat.reduceEqDiff, reduceCtorEq, ie_m1_0, il_m1_0, ie_m1_1, il_m1_1, ie_m1_2, il_m1_2, ie_m1_3, il_m1_3, ie_m1_4, ie_m1_5, ie_m1_6, ie_m1_7, ie_m1_8, ie_0_m1, il_0_0, ie_0_1, il_0_1, ie_0_2, il_0_2, ie_0_3, il_0_3, ie_0_4, ie_0_5, ie_0_6, ie_0_7, ie_0_8, ie_1_m1, ie_1_0, il_1_0, il_1_1, ie_1_2, il_1_2, ie_1_3, il_1_3, ie_1_4, ie_1_5, ie_1_6, ie_1_7, ie_1_8, ie_2_m1, ie_2_0, il_2_0, ie_2_1, il_2_1, il_2_2, ie_2_3, il_2_3, ie_2_4, ie_2_5, ie_2_6, ie_2_7, ie_2_8, ie_3_m1, ie_3_0, il_3_0, ie_3_1, il_3_1, ie_3_2, il_3_2, il_3_3, ie_3_4, ie_3_5, ie_3_6, ie_3_7, ie_3_8, ie_4_m1, ie_4_0, il_4_0, ie_4_1, il_4_1, ie_4_2, il_4_2, ie_4_3, il_4_3, ie_4_5, ie_4_6, ie_4_7, ie_4_8, ie_5_m1, ie_5_0, il_5_0, ie_5_1, il_5_1, ie_5_2, il_5_2, ie_5_3, il_5_3, ie_5_4, ie_5_6, ie_5_7, ie_5_8, ie_6_m1, ie_6_0, il_6_0, ie_6_1, il_6_1, ie_6_2, il_6_2, ie_6_3, il_6_3, ie_6_4, ie_6_5, ie_6_7, ie_6_8, ie_7_m1, ie_7_0, il_7_0, ie_7_1, il_7_1, ie_7_2, il_7_2, ie_7_3, il_7_3, ie_7_4, ie_7_5, ie_7_6, ie_7_8, ie_8_m1, ie_8_0, il_8_0, ie_8_1, il_8_1, ie_8_2, il_8_2, ie_8_3, il_8_3, ie_8_4, ie_8_5, ie_8_6, ie_8_7, Nat.reduceAdd, Nat.reduceSub, Nat.reduceLT, Nat.reduceLeDiff, Nat.reduceBEq, Bool.or_false, Bool.false_or, Bool.or_true, Bool.true_or, Bool.or_self, Bool.false_eq_true, ↓reduceIte, Nat.le_refl, Nat.zero_le, nI_p1, Option.toList, not_true_eq_false, not_false_eq_true, isRf_o, isR_o, isR_a, cat_o, okv_fo, okv_fa, orf_s, orf_n, both_t, both_f, rfn_n, rfn_s, eq_self, forall_const, qX6_swap_0, qX6_swap_1, qX6_swap_2, qX6_swap_3, qX6_swap_6, qX6_swap_9, qX6_swap_12, qX6_swap_13, qX6_swap_16, qX6_swap_19, qX6_swap_22, qX6_swap_26, qX6_swap_29, qX6_swap_30, qX6_swap_31, qX6_swap_34, qX6_swap_35, qX6_swap_36, qX6_swap_39r, qX6_swap_39n, qX6_swap_40, qX6_swap_41, qX6_swap_42, qX6_swap_44, qX6_swap_45, qX6_swap_47, qX6_swap_49, qX6_swap_51, qX6_swap_54, qX6_swap_55, qX6_swap_57, qX6_swap_58r, qX6_swap_58n, qX6_swap_60, qX6_swap_62n, qX6_swap_62r, qX6_swap_65, qX6_swap_66, qX6_swap_68, qX6_swap_71, qX6_swap_73, qX6_swap_76, qX6_swap_79, qX6_swap_82, qX6_swap_85, qX6_swap_86, qX6_swap_89, qX6_swap_90, qX6_swap_91, qX6_swap_94, qX6_swap_95, qX6_swap_96, qX6_swap_39_o, qX6_swap_58_o, qX6_swap_62_o]
  refine v_callV K (u_theOffer_no hfl rr inv.st hx) kX6_266 rfl (rr.k0 inv.st.n0) rfl (by decide) rfl (Nat.le_of_ble_eq_true rfl) rfl dX6_swap_3 ⟨by omega, by omega⟩ (fun E h9 z => by obtain ⟨rfl, rfl⟩ := z; rw [hX]; exact XC.same rr inv 0 rfl) (fun _ _ z => z.elim)
end O6
