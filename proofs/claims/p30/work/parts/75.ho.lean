theorem LTk.tr {K : Nat → Int} {a c d : Nat} (h : LTk K a c) (h2 : LTk K c d) : LTk K a d := by unfold LTk at h h2 ⊢; omega
theorem crr_mem (Z : ZS) : ∀ (ls : List Nat) (c t : Nat), t ∈ crr Z c ls ↔ t = c ∨ t ∈ ls := by
  intro ls
  induction ls with
  | nil => intro c t; simp [crr]
  | cons x tl ih =>
    intro c t
    unfold crr
    split
    · rw [List.mem_cons, ih, List.mem_cons]
    · rw [List.mem_cons, ih, List.mem_cons]
      exact or_left_comm
theorem crr_pw {Z : ZS} {K : Nat → Int} : ∀ (ls : List Nat) (c : Nat), (∀ a, a ∈ c :: ls → ∀ d, d ∈ c :: ls → (slt Z a d = true ↔ LTk K a d)) → ls.Pairwise (LTk K) → c ∉ ls → (crr Z c ls).Pairwise (LTk K) := by
  intro ls
  induction ls with
  | nil => intro c _ _ _; exact List.pairwise_singleton _ _
  | cons x tl ih =>
    intro c hs hp hc
    have hp1 := (List.pairwise_cons.mp hp).1
    have hp2 := (List.pairwise_cons.mp hp).2
    have hxt : x ∉ tl := fun z => by have := hp1 x z; unfold LTk at this; omega
    have hcx : c ≠ x := fun z => hc (by rw [z]; exact List.mem_cons_self)
    have hct : c ∉ tl := fun z => hc (List.mem_cons_of_mem _ z)
    unfold crr
    split
    · rename_i q
      have q1 := (hs c List.mem_cons_self x (List.mem_cons_of_mem _ List.mem_cons_self)).mp q
      refine List.pairwise_cons.mpr ⟨fun t ht => ?_, ih x (fun a ha d hd => hs a (List.mem_cons_of_mem _ ha) d (List.mem_cons_of_mem _ hd)) hp2 hxt⟩
      rcases (crr_mem Z tl x t).mp ht with e | e
      · rw [e]; exact q1
      · exact q1.tr (hp1 t e)
    · rename_i q
      have q1 : ¬ LTk K c x := fun z => q ((hs c List.mem_cons_self x (List.mem_cons_of_mem _ List.mem_cons_self)).mpr z)
      have q2 : LTk K x c := by unfold LTk at q1 ⊢; omega
      have hsub : ∀ a, a ∈ c :: tl → a ∈ c :: x :: tl := fun a ha => by
        rcases List.mem_cons.mp ha with e | e
        · rw [e]; exact List.mem_cons_self
        · exact List.mem_cons_of_mem _ (List.mem_cons_of_mem _ e)
      refine List.pairwise_cons.mpr ⟨fun t ht => ?_, ih c (fun a ha d hd => hs a (hsub a ha) d (hsub d hd)) hp2 hct⟩
      rcases (crr_mem Z tl c t).mp ht with e | e
      · rw [e]; exact q2
      · exact hp1 t e
theorem slt_iff {Z : ZS} {a c : Nat} (ha : Z.1 2 a 0 = nI a) (hc : Z.1 2 c 0 = nI c) (h1 : a < 40) (h2 : c < 40) : slt Z a c = true ↔ LTk (fun t => (Z.1 2 t 4).toInt) a c := by
  unfold slt LTk
  rw [ha, hc, Bool.or_eq_true, Bool.and_eq_true, decide_eq_true_iff, decide_eq_true_iff, decide_eq_true_iff, nL40 h1 h2, Int32.lt_iff_toInt_lt, ← Int32.toInt_inj]
theorem ers_ls {g : Nat → Option Nat} {ls : List Nat} {K : Nat → Int} {q s : Nat} (h : ∀ j, j < 40 → g j = ls[j]?) (hl : ls.length ≤ 40) (hp : ls.Pairwise (LTk K)) (hq : ls[q]? = some s) : (∀ j, j < 40 → rmf g q j = (ls.eraseIdx q)[j]?) ∧ (∀ t, t ∈ ls.eraseIdx q ↔ t ∈ ls ∧ t ≠ s) ∧ (ls.eraseIdx q).Pairwise (LTk K) := by
  refine ⟨fun j hj => ?_, fun t => ?_, List.Pairwise.sublist (List.eraseIdx_sublist ls q) hp⟩
  · rw [List.getElem?_eraseIdx]
    unfold rmf
    split
    · exact h j hj
    · split
      · rename_i h2; exact h (j + 1) h2
      · rw [List.getElem?_eq_none (by omega)]
  · rw [List.mem_iff_getElem?, List.mem_iff_getElem?]
    refine ⟨fun ⟨j, hj⟩ => ?_, fun ⟨⟨j, hj⟩, hne⟩ => ?_⟩
    · rw [List.getElem?_eraseIdx] at hj
      split at hj
      · rename_i h2
        refine ⟨⟨j, hj⟩, fun e => ?_⟩
        subst e
        have := (pw_lt hp hj hq).mpr h2
        unfold LTk at this
        omega
      · rename_i h2
        refine ⟨⟨j + 1, hj⟩, fun e => ?_⟩
        subst e
        have := (pw_lt hp hq hj).mpr (by omega)
        unfold LTk at this
        omega
    · by_cases h2 : j < q
      · exact ⟨j, by rw [List.getElem?_eraseIdx, if_pos h2]; exact hj⟩
      · have h3 : j ≠ q := fun e => by
          subst e
          rw [hq] at hj
          exact hne (Option.some.inj hj).symm
        refine ⟨j - 1, ?_⟩
        rw [List.getElem?_eraseIdx, if_neg (by omega), show j - 1 + 1 = j by omega]
        exact hj
/-- the orders without the shift s -/
def Oms (N : Nat → Nat) (Z Z1 : ZS) (s : Nat) : Prop := ∀ w, w < 8 → ∃ ls : List Nat, (∀ j, j < 40 → Z1.2 14 w j = ls[j]?) ∧ (∀ t, t ∈ ls ↔ t < N 2 ∧ t ≠ s ∧ Z.2 2 t 6 = some w) ∧ ls.Pairwise (LTk (fun t => (Z.1 2 t 4).toInt))
/-- a shift is handed over -/
def HOP (N : Nat → Nat) (Z : ZS) (s : Nat) (g : Option Nat) (Z' : ZS) : Prop := (∀ k i f, ¬ (k = 5 ∧ f = 3) → Z'.1 k i f = Z.1 k i f) ∧ (∀ o, o < N 5 → Z'.1 5 o 3 = if Z.2 5 o 1 = some s ∨ Z.2 5 o 2 = some s then 0 else Z.1 5 o 3) ∧ (∀ k i f, k ≠ 14 → ¬ (k = 2 ∧ i = s ∧ f = 6) → Z'.2 k i f = Z.2 k i f) ∧ Z'.2 2 s 6 = g ∧ Iord N Z'
section HOL
variable {N : Nat → Nat} {Z Z1 : ZS}
theorem Oms.of (io : Iord N Z) (hn : N 2 ≤ 40) {s w0 q : Nat} (hs : s < N 2) (hw : Z.2 2 s 6 = some w0) (hq : plc Z w0 s = some q) (u : OUp Z Z1 w0 (rmf (Z.2 14 w0) q)) : Oms N Z Z1 s := by
  intro w hw8
  obtain ⟨ls, o⟩ := io.1 w hw8
  by_cases e : w = w0
  · subst e
    have hl := o.len hn
    obtain ⟨i, hi⟩ := List.mem_iff_getElem?.mp ((o.2.1 s).mpr ⟨hs, hw⟩)
    have hiq : i = q := Option.some.inj ((o.plc hn hi).symm.trans hq)
    subst hiq
    obtain ⟨a1, a2, a3⟩ := ers_ls o.1 (by omega) o.2.2 hi
    refine ⟨_, fun j hj => (u.2.2 j hj).trans (a1 j hj), fun t => ?_, a3⟩
    rw [a2, o.2.1 t]
    exact ⟨fun ⟨⟨x, y⟩, z⟩ => ⟨x, z, y⟩, fun ⟨x, z, y⟩ => ⟨⟨x, y⟩, z⟩⟩
  · refine ⟨ls, fun j hj => by rw [u.2.1 14 w j (fun z => e z.2)]; exact o.1 j hj, fun t => ?_, o.2.2⟩
    rw [o.2.1 t]
    refine ⟨fun ⟨x, y⟩ => ⟨x, fun z => ?_, y⟩, fun ⟨x, z, y⟩ => ⟨x, y⟩⟩
    subst z
    rw [hw] at y
    exact e (Option.some.inj y).symm
theorem Oms.no (io : Iord N Z) {s : Nat} (hw : Z.2 2 s 6 = none) : Oms N Z Z s := by
  intro w hw8
  obtain ⟨ls, o⟩ := io.1 w hw8
  refine ⟨ls, o.1, fun t => ?_, o.2.2⟩
  rw [o.2.1 t]
  refine ⟨fun ⟨x, y⟩ => ⟨x, fun z => ?_, y⟩, fun ⟨x, z, y⟩ => ⟨x, y⟩⟩
  subst z
  rw [hw] at y
  cases y
/-- nobody takes the shift -/
theorem Oms.nob {s : Nat} (m : Oms N Z Z1 s) (io : ∀ s w, s < N 2 → Z.2 2 s 6 = some w → w < 8) {Z2 : ZS} (h14 : ∀ w j, Z2.2 14 w j = Z1.2 14 w j) (h1 : ∀ t, Z2.1 2 t 4 = Z.1 2 t 4) (h6 : ∀ t, t ≠ s → Z2.2 2 t 6 = Z.2 2 t 6) (hs : Z2.2 2 s 6 = none) : Iord N Z2 := by
  refine ⟨fun w hw => ?_, fun t w ht he => ?_⟩
  · obtain ⟨ls, a1, a2, a3⟩ := m w hw
    refine ⟨ls, fun j hj => (h14 w j).trans (a1 j hj), fun t => ?_, ?_⟩
    · rw [a2 t]
      by_cases e : t = s
      · subst e
        rw [hs]
        exact ⟨fun z => absurd rfl z.2.1, fun z => nomatch z.2⟩
      · rw [h6 t e]
        exact ⟨fun z => ⟨z.1, z.2.2⟩, fun z => ⟨z.1, e, z.2⟩⟩
    · have e : (fun t => (Z2.1 2 t 4).toInt) = (fun t => (Z.1 2 t 4).toInt) := by funext t; rw [h1]
      rw [e]
      exact a3
  · by_cases e : t = s
    · subst e
      rw [hs] at he
      cases he
    · rw [h6 t e] at he
      exact io t w ht he
theorem Oms.who {s : Nat} (m : Oms N Z Z1 s) (io : ∀ s w, s < N 2 → Z.2 2 s 6 = some w → w < 8) {w1 : Nat} {ls1 : List Nat} (hw1 : w1 < 8) (b1 : ∀ t, t ∈ ls1 ↔ t < N 2 ∧ t ≠ s ∧ Z.2 2 t 6 = some w1) (b2 : (crr Z s ls1).Pairwise (LTk (fun t => (Z.1 2 t 4).toInt))) {Z2 : ZS} (h14 : ∀ w j, w ≠ w1 → Z2.2 14 w j = Z1.2 14 w j) (h15 : ∀ j, j < 40 → Z2.2 14 w1 j = (crr Z s ls1)[j]?) (h1 : ∀ t, Z2.1 2 t 4 = Z.1 2 t 4) (h6 : ∀ t, t ≠ s → Z2.2 2 t 6 = Z.2 2 t 6) (hs2 : s < N 2) (hs : Z2.2 2 s 6 = some w1) : Iord N Z2 := by
  have e : (fun t => (Z2.1 2 t 4).toInt) = (fun t => (Z.1 2 t 4).toInt) := by funext t; rw [h1]
  refine ⟨fun w hw => ?_, fun t w ht he => ?_⟩
  · by_cases ew : w = w1
    · subst ew
      refine ⟨crr Z s ls1, h15, fun t => ?_, by rw [e]; exact b2⟩
      rw [crr_mem, b1 t]
      by_cases e : t = s
      · subst e
        exact ⟨fun _ => ⟨hs2, hs⟩, fun _ => Or.inl rfl⟩
      · rw [h6 t e]
        exact ⟨fun z => z.elim (fun y => absurd y e) (fun z => ⟨z.1, z.2.2⟩), fun z => Or.inr ⟨z.1, e, z.2⟩⟩
    · obtain ⟨ls, a1, a2, a3⟩ := m w hw
      refine ⟨ls, fun j hj => (h14 w j ew).trans (a1 j hj), fun t => ?_, by rw [e]; exact a3⟩
      rw [a2 t]
      by_cases e : t = s
      · subst e
        rw [hs]
        exact ⟨fun z => absurd rfl z.2.1, fun z => absurd (Option.some.inj z.2).symm ew⟩
      · rw [h6 t e]
        exact ⟨fun z => ⟨z.1, z.2.2⟩, fun z => ⟨z.1, e, z.2⟩⟩
  · by_cases e : t = s
    · subst e
      rw [hs] at he
      cases he
      exact hw1
    · rw [h6 t e] at he
      exact io t w ht he
end HOL
section C11
variable {l : Launch} {D : Dg} {b : Nat} {h : Hp} {N : Nat → Nat} {ad : Nat → Nat → Nat} {Z : ZS}
theorem u_handOver (hfl : l.flags = flags0) (rr : RR N ad Z h) (st : St N Z) (io : Iord N Z) {s : Nat} {g : Option Nat} (hs : s < N 2) (hg : ∀ w, g = some w → w < 8) : Cal l D b iX6_handOver 2 0 0 [.ref (ad 0 0), .ref (ad 2 s), orf ad 1 g] h (fun v h' => v = none ∧ ∃ Z', HOP N Z s g Z' ∧ CTo N ad Z' h h') nox := by
  refine v_entry iX6_handOver pl6 mX6_handOver (by simp only [List.forall_mem_cons, List.not_mem_nil, false_implies, cat_o, cat_r, cat_i, cat_n, and_self, implies_true]) hfl ?_
  rintro ⟨⟨p, l9, e, R⟩, ⟨sz, mi, args, below⟩, ⟨meth, cx, D9, b9⟩, ⟨P, X, mc, ms⟩⟩ rfl rfl rfl hPX K
  injection hPX with hP hPX
  injection hPX with hX hPX
  injection hPX with hMC hMS
  subst hMC hMS
  have hPe := fun r h9 => congrFun (congrFun hP r) h9
  have hx := st.n0
  have hA := st.nA 11 (by decide)
  have hg1 : ∀ w, g = some w → w < N 1 := fun w e => st.n1 (hg w e)
  have n40 := st.1.2.2.1
  have tail29 : ∀ (Z3 : ZS) (h3 : Hp), CTo N ad Z3 h h3 → Z3.1 = Z.1 → (∀ k i f, k ≠ 14 → ¬ (k = 2 ∧ i = s ∧ f = 6) → Z3.2 k i f = Z.2 k i f) → Z3.2 2 s 6 = g → Iord N Z3 → V ((p, l9, e, R), (sz, mi, args, below), (meth, cx, D9, b9), (P, X, 0, 0)) h3 0 0 29 [some (.ref (ad 0 0)), some (.ref (ad 2 s)), some (orf ad 1 g), none, none, none, none] [] := by
    intro Z3 h3 t3 a1 a2 a3 a4
    have rr := t3.1
    have x4 : Z3.2 0 0 4 = some 0 := (a2 0 0 4 (by decide) (by simp)).trans (st.x (by decide))
    refine ry1_ok K FokX6 none noini [41] 60 ?_
    simp only [ry1_s, ry_s, ry_0, hit, true_and, and_true, List.map_cons, List.map_nil, List.length_cons, List.length_nil, List.replicate, List.cons_append, List.nil_append, List.append_nil, List.length_append, List.set_cons_zero, List.set_cons_succ, lgt_0, lgt_s, lhas_0, lhas_s, isI_i, isRf_r, isRf_n, inc_i, of1, ofm1, rokI_i, rokI_0, rokI_1, rokI_b, okv_i, okv_z0, okv_z1, okv_or, okv_on, okv_ar, okv_b, isA_s, alen_s, cat_i, cat_r, cat_n, finC_s, hPe, rv, nar1, nar0,  b2i_0, oI_n, oI_s, d24, d168, d100, Int32.le_refl, vpT, nIc8, nIc12, nIc40, nIc200, hup_at, and_self, and_false, false_and, Nat.reduceEqDiff, Nat.reduceEqDiff, reduceCtorEq, ie_m1_0, il_m1_0, ie_m1_1, il_m1_1, ie_m1_2, il_m1_2, ie_m1_3, il_m1_3, ie_m1_4, ie_m1_5, ie_m1_6, ie_m1_7, ie_m1_8, ie_0_m1, il_0_0, ie_0_1, il_0_1, ie_0_2, il_0_2, ie_0_3, il_0_3, ie_0_4, ie_0_5, ie_0_6, ie_0_7, ie_0_8, ie_1_m1, ie_1_0, il_1_0, il_1_1, ie_1_2, il_1_2, ie_1_3, il_1_3, ie_1_4, ie_1_5, ie_1_6, ie_1_7, ie_1_8, ie_2_m1, ie_2_0, il_2_0, ie_2_1, il_2_1, il_2_2, ie_2_3, il_2_3, ie_2_4, ie_2_5, ie_2_6, ie_2_7, ie_2_8, ie_3_m1, ie_3_0, il_3_0, ie_3_1, il_3_1, ie_3_2, il_3_2, il_3_3, ie_3_4, ie_3_5, ie_3_6, ie_3_7, ie_3_8, ie_4_m1, ie_4_0, il_4_0, ie_4_1, il_4_1, ie_4_2, il_4_2, ie_4_3, il_4_3, ie_4_5, ie_4_6, ie_4_7, ie_4_8, ie_5_m1, ie_5_0, il_5_0, ie_5_1, il_5_1, ie_5_2, il_5_2, ie_5_3, il_5_3, ie_5_4, ie_5_6, ie_5_7, ie_5_8, ie_6_m1, ie_6_0, il_6_0, ie_6_1, il_6_1, ie_6_2, il_6_2, ie_6_3, il_6_3, ie_6_4, ie_6_5, ie_6_7, ie_6_8, ie_7_m1, ie_7_0, il_7_0, ie_7_1, il_7_1, ie_7_2, il_7_2, ie_7_3, il_7_3, ie_7_4, ie_7_5, ie_7_6, ie_7_8, ie_8_m1, ie_8_0, il_8_0, ie_8_1, il_8_1, ie_8_2, il_8_2, ie_8_3, il_8_3, ie_8_4, ie_8_5, ie_8_6, ie_8_7, Nat.reduceAdd, Nat.reduceSub, Nat.reduceLT, Nat.reduceLeDiff, Nat.reduceBEq, Bool.or_false, Bool.false_or, Bool.or_true, Bool.true_or, Bool.or_self, Bool.false_eq_true, ↓reduceIte, Nat.le_refl, Nat.zero_le, nI_p1, Option.toList, not_true_eq_false, not_false_eq_true, isRf_o, isR_o, isR_a, cat_o, okv_fo, okv_fa, orf_s, orf_n, both_t, both_f, rfn_n, rfn_s, eq_self, forall_const, qX6_handOver_0, qX6_handOver_1, qX6_handOver_4n, qX6_handOver_4r, qX6_handOver_7, qX6_handOver_8, qX6_handOver_11, qX6_handOver_12, qX6_handOver_15, qX6_handOver_16, qX6_handOver_17, qX6_handOver_20, qX6_handOver_21n, qX6_handOver_21r, qX6_handOver_24, qX6_handOver_25, qX6_handOver_26, qX6_handOver_29, qX6_handOver_30, qX6_handOver_33r, qX6_handOver_33n, qX6_handOver_34, qX6_handOver_35, qX6_handOver_36, qX6_handOver_38, qX6_handOver_39, qX6_handOver_41, qX6_handOver_43, qX6_handOver_45, qX6_handOver_48, qX6_handOver_49, qX6_handOver_51, qX6_handOver_52r, qX6_handOver_52n, qX6_handOver_54, qX6_handOver_56n, qX6_handOver_56r, qX6_handOver_59, qX6_handOver_61, qX6_handOver_64, qX6_handOver_65rr, qX6_handOver_65nn, qX6_handOver_65nr, qX6_handOver_65rn, qX6_handOver_68, qX6_handOver_70, qX6_handOver_73, qX6_handOver_74rr, qX6_handOver_74nn, qX6_handOver_74nr, qX6_handOver_74rn, qX6_handOver_77, qX6_handOver_79, qX6_handOver_80, qX6_handOver_83, qX6_handOver_86, qX6_handOver_89, qX6_handOver_4_o, qX6_handOver_21_o, qX6_handOver_33_o, qX6_handOver_52_o, qX6_handOver_56_o, qX6_handOver_65_or, qX6_handOver_65_ro, qX6_handOver_65_oo, qX6_handOver_74_or, qX6_handOver_74_ro, qX6_handOver_74_oo, rr.k0 hx, rr.f0_0 hx, rr.f0_1 hx, rr.f0_2 hx, rr.f0_3 hx, rr.f0_4 hx, rr.f0_5 hx, rr.f0_6 hx, rr.f0_7 hx, rr.f0_8 hx, rr.f0_9 hx, rr.f0_10 hx, rr.f0_11 hx, x4, rr.k11 hA, rr.e11 (hi := hA)]
    have key : ∀ (k i : Nat) (Z4 : ZS) (h4 : Hp), i + k = 40 → CTo N ad Z4 h h4 → Z4.2 = Z3.2 → (∀ k i f, ¬ (k = 5 ∧ f = 3) → Z4.1 k i f = Z.1 k i f) → (∀ o, o < N 5 → Z4.1 5 o 3 = if o < i ∧ (Z.2 5 o 1 = some s ∨ Z.2 5 o 2 = some s) then 0 else Z.1 5 o 3) → V ((p, l9, e, R), (sz, mi, args, below), (meth, cx, D9, b9), (P, X, 0, 0)) h4 0 0 41 [some (.ref (ad 0 0)), some (.ref (ad 2 s)), some (orf ad 1 g), some (.ref (ad 11 0)), some (.int (nI 40)), some (.int (nI i)), none] [] := by
      intro k
      induction k with
      | zero =>
        intro i Z4 h4 hi t4 b1 b2 b3
        have hi : i = 40 := by omega
        subst hi
        refine ry1_ok K FokX6 none noini [41] 60 ?_
        simp only [ry1_s, ry_s, ry_0, hit, true_and, and_true, List.map_cons, List.map_nil, List.length_cons, List.length_nil, List.replicate, List.cons_append, List.nil_append, List.append_nil, List.length_append, List.set_cons_zero, List.set_cons_succ, lgt_0, lgt_s, lhas_0, lhas_s, isI_i, isRf_r, isRf_n, inc_i, of1, ofm1, rokI_i, rokI_0, rokI_1, rokI_b, okv_i, okv_z0, okv_z1, okv_or, okv_on, okv_ar, okv_b, isA_s, alen_s, cat_i, cat_r, cat_n, finC_s, hPe, rv, nar1, nar0,  b2i_0, oI_n, oI_s, d24, d168, d100, Int32.le_refl, vpT, nIc8, nIc12, nIc40, nIc200, hup_at, and_self, and_false, false_and, Nat.reduceEqDiff, Nat.reduceEqDiff, reduceCtorEq, ie_m1_0, il_m1_0, ie_m1_1, il_m1_1, ie_m1_2, il_m1_2, ie_m1_3, il_m1_3, ie_m1_4, ie_m1_5, ie_m1_6, ie_m1_7, ie_m1_8, ie_0_m1, il_0_0, ie_0_1, il_0_1, ie_0_2, il_0_2, ie_0_3, il_0_3, ie_0_4, ie_0_5, ie_0_6, ie_0_7, ie_0_8, ie_1_m1, ie_1_0, il_1_0, il_1_1, ie_1_2, il_1_2, ie_1_3, il_1_3, ie_1_4, ie_1_5, ie_1_6, ie_1_7, ie_1_8, ie_2_m1, ie_2_0, il_2_0, ie_2_1, il_2_1, il_2_2, ie_2_3, il_2_3, ie_2_4, ie_2_5, ie_2_6, ie_2_7, ie_2_8, ie_3_m1, ie_3_0, il_3_0, ie_3_1, il_3_1, ie_3_2, il_3_2, il_3_3, ie_3_4, ie_3_5, ie_3_6, ie_3_7, ie_3_8, ie_4_m1, ie_4_0, il_4_0, ie_4_1, il_4_1, ie_4_2, il_4_2, ie_4_3, il_4_3, ie_4_5, ie_4_6, ie_4_7, ie_4_8, ie_5_m1, ie_5_0, il_5_0, ie_5_1, il_5_1, ie_5_2, il_5_2, ie_5_3, il_5_3, ie_5_4, ie_5_6, ie_5_7, ie_5_8, ie_6_m1, ie_6_0, il_6_0, ie_6_1, il_6_1, ie_6_2, il_6_2, ie_6_3, il_6_3, ie_6_4, ie_6_5, ie_6_7, ie_6_8, ie_7_m1, ie_7_0, il_7_0, ie_7_1, il_7_1, ie_7_2, il_7_2, ie_7_3, il_7_3, ie_7_4, ie_7_5, ie_7_6, ie_7_8, ie_8_m1, ie_8_0, il_8_0, ie_8_1, il_8_1, ie_8_2, il_8_2, ie_8_3, il_8_3, ie_8_4, ie_8_5, ie_8_6, ie_8_7, Nat.reduceAdd, Nat.reduceSub, Nat.reduceLT, Nat.reduceLeDiff, Nat.reduceBEq, Bool.or_false, Bool.false_or, Bool.or_true, Bool.true_or, Bool.or_self, Bool.false_eq_true, ↓reduceIte, Nat.le_refl, Nat.zero_le, nI_p1, Option.toList, not_true_eq_false, not_false_eq_true, isRf_o, isR_o, isR_a, cat_o, okv_fo, okv_fa, orf_s, orf_n, both_t, both_f, rfn_n, rfn_s, eq_self, forall_const, qX6_handOver_0, qX6_handOver_1, qX6_handOver_4n, qX6_handOver_4r, qX6_handOver_7, qX6_handOver_8, qX6_handOver_11, qX6_handOver_12, qX6_handOver_15, qX6_handOver_16, qX6_handOver_17, qX6_handOver_20, qX6_handOver_21n, qX6_handOver_21r, qX6_handOver_24, qX6_handOver_25, qX6_handOver_26, qX6_handOver_29, qX6_handOver_30, qX6_handOver_33r, qX6_handOver_33n, qX6_handOver_34, qX6_handOver_35, qX6_handOver_36, qX6_handOver_38, qX6_handOver_39, qX6_handOver_41, qX6_handOver_43, qX6_handOver_45, qX6_handOver_48, qX6_handOver_49, qX6_handOver_51, qX6_handOver_52r, qX6_handOver_52n, qX6_handOver_54, qX6_handOver_56n, qX6_handOver_56r, qX6_handOver_59, qX6_handOver_61, qX6_handOver_64, qX6_handOver_65rr, qX6_handOver_65nn, qX6_handOver_65nr, qX6_handOver_65rn, qX6_handOver_68, qX6_handOver_70, qX6_handOver_73, qX6_handOver_74rr, qX6_handOver_74nn, qX6_handOver_74nr, qX6_handOver_74rn, qX6_handOver_77, qX6_handOver_79, qX6_handOver_80, qX6_handOver_83, qX6_handOver_86, qX6_handOver_89, qX6_handOver_4_o, qX6_handOver_21_o, qX6_handOver_33_o, qX6_handOver_52_o, qX6_handOver_56_o, qX6_handOver_65_or, qX6_handOver_65_ro, qX6_handOver_65_oo, qX6_handOver_74_or, qX6_handOver_74_ro, qX6_handOver_74_oo, Int32.le_refl]
        refine ⟨Z4, ⟨b2, fun o ho => ?_, fun k i f h1 h2 => by rw [b1]; exact a2 k i f h1 h2, by rw [b1]; exact a3, ?_⟩, t4⟩
        · rw [b3 o ho]
          have := st.n5 ho
          by_cases q : Z.2 5 o 1 = some s ∨ Z.2 5 o 2 = some s
          · rw [if_pos q, if_pos ⟨this, q⟩]
          · rw [if_neg q, if_neg (fun z => q z.2)]
        · exact a4.cg (fun w j _ => by rw [b1]) (fun t _ => by rw [b1]) (fun t => by rw [b2 2 t 4 (by simp), a1]) rfl
      | succ k ih =>
        intro i Z4 h4 hi t4 b1 b2 b3
        have rr := t4.1
        have hi40 : i < 40 := by omega
        have hge : ¬ nI 40 ≤ nI i := by rw [nG (by omega) (by decide)]; omega
        have e11 : Z4.2 11 0 i = if i < N 5 then some i else none := by rw [b1, a2 11 0 i (by decide) (by simp)]; exact st.a11 hi40
        by_cases q : i < N 5
        · rw [if_pos q] at e11
          have e51 : Z4.2 5 i 1 = Z.2 5 i 1 := by rw [b1, a2 5 i 1 (by decide) (by simp)]
          have e52 : Z4.2 5 i 2 = Z.2 5 i 2 := by rw [b1, a2 5 i 2 (by decide) (by simp)]
          have o1 := rr.oe (o := Z4.2 5 i 1) hs (fun j hj => rr.wf (k := 5) (f := 1) q rfl hj)
          have o2 := rr.oe (o := Z4.2 5 i 2) hs (fun j hj => rr.wf (k := 5) (f := 2) q rfl hj)
          rw [e51] at o1
          rw [e52] at o2
          have yes : Z.2 5 i 1 = some s ∨ Z.2 5 i 2 = some s → ∀ L6, V ((p, l9, e, R), (sz, mi, args, below), (meth, cx, D9, b9), (P, X, 0, 0)) (h4.1, hup h4.2 (ad 5 i) 3 (.int 0)) 0 0 41 [some (.ref (ad 0 0)), some (.ref (ad 2 s)), some (orf ad 1 g), some (.ref (ad 11 0)), some (.int (nI 40)), some (.int (nI (i + 1))), L6] [] := by
            intro hq L6
            refine v_forget 6 (ih (i + 1) _ _ (by omega) (t4.puti (k := 5) (i := i) 3 0 q rfl) b1 (fun k' i' f' hn => ?_) (fun o ho => ?_))
            · have : ¬ (k' = 5 ∧ i' = i ∧ f' = 3) := fun z => hn ⟨z.1, z.2.2⟩
              simp only [zui, if_neg this]
              exact b2 k' i' f' hn
            · by_cases e : o = i
              · subst e
                rw [if_pos ⟨by omega, hq⟩]
                simp [zui]
              · have : ¬ ((5 : Nat) = 5 ∧ o = i ∧ (3 : Nat) = 3) := fun z => e z.2.1
                show (if (5 : Nat) = 5 ∧ o = i ∧ (3 : Nat) = 3 then (0 : Int32) else Z4.1 5 o 3) = _
                rw [if_neg this, b3 o ho]
                by_cases e2 : o < i ∧ (Z.2 5 o 1 = some s ∨ Z.2 5 o 2 = some s)
                · rw [if_pos e2, if_pos ⟨by omega, e2.2⟩]
                · rw [if_neg e2, if_neg (fun z => e2 ⟨by omega, z.2⟩)]
          by_cases q1 : Z.2 5 i 1 = some s
          · refine ry1_ok K FokX6 none noini [41] 60 ?_
            simp only [ry1_s, ry_s, ry_0, hit, true_and, and_true, List.map_cons, List.map_nil, List.length_cons, List.length_nil, List.replicate, List.cons_append, List.nil_append, List.append_nil, List.length_append, List.set_cons_zero, List.set_cons_succ, lgt_0, lgt_s, lhas_0, lhas_s, isI_i, isRf_r, isRf_n, inc_i, of1, ofm1, rokI_i, rokI_0, rokI_1, rokI_b, okv_i, okv_z0, okv_z1, okv_or, okv_on, okv_ar, okv_b, isA_s, alen_s, cat_i, cat_r, cat_n, finC_s, hPe, rv, nar1, nar0,  b2i_0, oI_n, oI_s, d24, d168, d100, Int32.le_refl, vpT, nIc8, nIc12, nIc40, nIc200, hup_at, and_self, and_false, false_and, Nat.reduceEqDiff, Nat.reduceEqDiff, reduceCtorEq, ie_m1_0, il_m1_0, ie_m1_1, il_m1_1, ie_m1_2, il_m1_2, ie_m1_3, il_m1_3, ie_m1_4, ie_m1_5, ie_m1_6, ie_m1_7, ie_m1_8, ie_0_m1, il_0_0, ie_0_1, il_0_1, ie_0_2, il_0_2, ie_0_3, il_0_3, ie_0_4, ie_0_5, ie_0_6, ie_0_7, ie_0_8, ie_1_m1, ie_1_0, il_1_0, il_1_1, ie_1_2, il_1_2, ie_1_3, il_1_3, ie_1_4, ie_1_5, ie_1_6, ie_1_7, ie_1_8, ie_2_m1, ie_2_0, il_2_0, ie_2_1, il_2_1, il_2_2, ie_2_3, il_2_3, ie_2_4, ie_2_5, ie_2_6, ie_2_7, ie_2_8, ie_3_m1, ie_3_0, il_3_0, ie_3_1, il_3_1, ie_3_2, il_3_2, il_3_3, ie_3_4, ie_3_5, ie_3_6, ie_3_7, ie_3_8, ie_4_m1, ie_4_0, il_4_0, ie_4_1, il_4_1, ie_4_2, il_4_2, ie_4_3, il_4_3, ie_4_5, ie_4_6, ie_4_7, ie_4_8, ie_5_m1, ie_5_0, il_5_0, ie_5_1, il_5_1, ie_5_2, il_5_2, ie_5_3, il_5_3, ie_5_4, ie_5_6, ie_5_7, ie_5_8, ie_6_m1, ie_6_0, il_6_0, ie_6_1, il_6_1, ie_6_2, il_6_2, ie_6_3, il_6_3, ie_6_4, ie_6_5, ie_6_7, ie_6_8, ie_7_m1, ie_7_0, il_7_0, ie_7_1, il_7_1, ie_7_2, il_7_2, ie_7_3, il_7_3, ie_7_4, ie_7_5, ie_7_6, ie_7_8, ie_8_m1, ie_8_0, il_8_0, ie_8_1, il_8_1, ie_8_2, il_8_2, ie_8_3, il_8_3, ie_8_4, ie_8_5, ie_8_6, ie_8_7, Nat.reduceAdd, Nat.reduceSub, Nat.reduceLT, Nat.reduceLeDiff, Nat.reduceBEq, Bool.or_false, Bool.false_or, Bool.or_true, Bool.true_or, Bool.or_self, Bool.false_eq_true, ↓reduceIte, Nat.le_refl, Nat.zero_le, nI_p1, Option.toList, not_true_eq_false, not_false_eq_true, isRf_o, isR_o, isR_a, cat_o, okv_fo, okv_fa, orf_s, orf_n, both_t, both_f, rfn_n, rfn_s, eq_self, forall_const, qX6_handOver_0, qX6_handOver_1, qX6_handOver_4n, qX6_handOver_4r, qX6_handOver_7, qX6_handOver_8, qX6_handOver_11, qX6_handOver_12, qX6_handOver_15, qX6_handOver_16, qX6_handOver_17, qX6_handOver_20, qX6_handOver_21n, qX6_handOver_21r, qX6_handOver_24, qX6_handOver_25, qX6_handOver_26, qX6_handOver_29, qX6_handOver_30, qX6_handOver_33r, qX6_handOver_33n, qX6_handOver_34, qX6_handOver_35, qX6_handOver_36, qX6_handOver_38, qX6_handOver_39, qX6_handOver_41, qX6_handOver_43, qX6_handOver_45, qX6_handOver_48, qX6_handOver_49, qX6_handOver_51, qX6_handOver_52r, qX6_handOver_52n, qX6_handOver_54, qX6_handOver_56n, qX6_handOver_56r, qX6_handOver_59, qX6_handOver_61, qX6_handOver_64, qX6_handOver_65rr, qX6_handOver_65nn, qX6_handOver_65nr, qX6_handOver_65rn, qX6_handOver_68, qX6_handOver_70, qX6_handOver_73, qX6_handOver_74rr, qX6_handOver_74nn, qX6_handOver_74nr, qX6_handOver_74rn, qX6_handOver_77, qX6_handOver_79, qX6_handOver_80, qX6_handOver_83, qX6_handOver_86, qX6_handOver_89, qX6_handOver_4_o, qX6_handOver_21_o, qX6_handOver_33_o, qX6_handOver_52_o, qX6_handOver_56_o, qX6_handOver_65_or, qX6_handOver_65_ro, qX6_handOver_65_oo, qX6_handOver_74_or, qX6_handOver_74_ro, qX6_handOver_74_oo, rr.k11 hA, rr.e11 (hi := hA), hge, hi40, e11, rr.k5 q, rr.f5_0 q, rr.f5_1 q, rr.f5_2 q, rr.f5_3 q, e51, e52, o1, q1]
            exact yes (Or.inl q1) _
          · by_cases q2 : Z.2 5 i 2 = some s
            · refine ry1_ok K FokX6 none noini [41] 60 ?_
              simp only [ry1_s, ry_s, ry_0, hit, true_and, and_true, List.map_cons, List.map_nil, List.length_cons, List.length_nil, List.replicate, List.cons_append, List.nil_append, List.append_nil, List.length_append, List.set_cons_zero, List.set_cons_succ, lgt_0, lgt_s, lhas_0, lhas_s, isI_i, isRf_r, isRf_n, inc_i, of1, ofm1, rokI_i, rokI_0, rokI_1, rokI_b, okv_i, okv_z0, okv_z1, okv_or, okv_on, okv_ar, okv_b, isA_s, alen_s, cat_i, cat_r, cat_n, finC_s, hPe, rv, nar1, nar0,  b2i_0, oI_n, oI_s, d24, d168, d100, Int32.le_refl, vpT, nIc8, nIc12, nIc40, nIc200, hup_at, and_self, and_false, false_and, Nat.reduceEqDiff, Nat.reduceEqDiff, reduceCtorEq, ie_m1_0, il_m1_0, ie_m1_1, il_m1_1, ie_m1_2, il_m1_2, ie_m1_3, il_m1_3, ie_m1_4, ie_m1_5, ie_m1_6, ie_m1_7, ie_m1_8, ie_0_m1, il_0_0, ie_0_1, il_0_1, ie_0_2, il_0_2, ie_0_3, il_0_3, ie_0_4, ie_0_5, ie_0_6, ie_0_7, ie_0_8, ie_1_m1, ie_1_0, il_1_0, il_1_1, ie_1_2, il_1_2, ie_1_3, il_1_3, ie_1_4, ie_1_5, ie_1_6, ie_1_7, ie_1_8, ie_2_m1, ie_2_0, il_2_0, ie_2_1, il_2_1, il_2_2, ie_2_3, il_2_3, ie_2_4, ie_2_5, ie_2_6, ie_2_7, ie_2_8, ie_3_m1, ie_3_0, il_3_0, ie_3_1, il_3_1, ie_3_2, il_3_2, il_3_3, ie_3_4, ie_3_5, ie_3_6, ie_3_7, ie_3_8, ie_4_m1, ie_4_0, il_4_0, ie_4_1, il_4_1, ie_4_2, il_4_2, ie_4_3, il_4_3, ie_4_5, ie_4_6, ie_4_7, ie_4_8, ie_5_m1, ie_5_0, il_5_0, ie_5_1, il_5_1, ie_5_2, il_5_2, ie_5_3, il_5_3, ie_5_4, ie_5_6, ie_5_7, ie_5_8, ie_6_m1, ie_6_0, il_6_0, ie_6_1, il_6_1, ie_6_2, il_6_2, ie_6_3, il_6_3, ie_6_4, ie_6_5, ie_6_7, ie_6_8, ie_7_m1, ie_7_0, il_7_0, ie_7_1, il_7_1, ie_7_2, il_7_2, ie_7_3, il_7_3, ie_7_4, ie_7_5, ie_7_6, ie_7_8, ie_8_m1, ie_8_0, il_8_0, ie_8_1, il_8_1, ie_8_2, il_8_2, ie_8_3, il_8_3, ie_8_4, ie_8_5, ie_8_6, ie_8_7, Nat.reduceAdd, Nat.reduceSub, Nat.reduceLT, Nat.reduceLeDiff, Nat.reduceBEq, Bool.or_false, Bool.false_or, Bool.or_true, Bool.true_or, Bool.or_self, Bool.false_eq_true, ↓reduceIte, Nat.le_refl, Nat.zero_le, nI_p1, Option.toList, not_true_eq_false, not_false_eq_true, isRf_o, isR_o, isR_a, cat_o, okv_fo, okv_fa, orf_s, orf_n, both_t, both_f, rfn_n, rfn_s, eq_self, forall_const, qX6_handOver_0, qX6_handOver_1, qX6_handOver_4n, qX6_handOver_4r, qX6_handOver_7, qX6_handOver_8, qX6_handOver_11, qX6_handOver_12, qX6_handOver_15, qX6_handOver_16, qX6_handOver_17, qX6_handOver_20, qX6_handOver_21n, qX6_handOver_21r, qX6_handOver_24, qX6_handOver_25, qX6_handOver_26, qX6_handOver_29, qX6_handOver_30, qX6_handOver_33r, qX6_handOver_33n, qX6_handOver_34, qX6_handOver_35, qX6_handOver_36, qX6_handOver_38, qX6_handOver_39, qX6_handOver_41, qX6_handOver_43, qX6_handOver_45, qX6_handOver_48, qX6_handOver_49, qX6_handOver_51, qX6_handOver_52r, qX6_handOver_52n, qX6_handOver_54, qX6_handOver_56n, qX6_handOver_56r, qX6_handOver_59, qX6_handOver_61, qX6_handOver_64, qX6_handOver_65rr, qX6_handOver_65nn, qX6_handOver_65nr, qX6_handOver_65rn, qX6_handOver_68, qX6_handOver_70, qX6_handOver_73, qX6_handOver_74rr, qX6_handOver_74nn, qX6_handOver_74nr, qX6_handOver_74rn, qX6_handOver_77, qX6_handOver_79, qX6_handOver_80, qX6_handOver_83, qX6_handOver_86, qX6_handOver_89, qX6_handOver_4_o, qX6_handOver_21_o, qX6_handOver_33_o, qX6_handOver_52_o, qX6_handOver_56_o, qX6_handOver_65_or, qX6_handOver_65_ro, qX6_handOver_65_oo, qX6_handOver_74_or, qX6_handOver_74_ro, qX6_handOver_74_oo, rr.k11 hA, rr.e11 (hi := hA), hge, hi40, e11, rr.k5 q, rr.f5_0 q, rr.f5_1 q, rr.f5_2 q, rr.f5_3 q, e51, e52, o1, q1, o2, q2]
              exact yes (Or.inr q2) _
            · refine ry1_ok K FokX6 none noini [41] 60 ?_
              simp only [ry1_s, ry_s, ry_0, hit, true_and, and_true, List.map_cons, List.map_nil, List.length_cons, List.length_nil, List.replicate, List.cons_append, List.nil_append, List.append_nil, List.length_append, List.set_cons_zero, List.set_cons_succ, lgt_0, lgt_s, lhas_0, lhas_s, isI_i, isRf_r, isRf_n, inc_i, of1, ofm1, rokI_i, rokI_0, rokI_1, rokI_b, okv_i, okv_z0, okv_z1, okv_or, okv_on, okv_ar, okv_b, isA_s, alen_s, cat_i, cat_r, cat_n, finC_s, hPe, rv, nar1, nar0,  b2i_0, oI_n, oI_s, d24, d168, d100, Int32.le_refl, vpT, nIc8, nIc12, nIc40, nIc200, hup_at, and_self, and_false, false_and, Nat.reduceEqDiff, Nat.reduceEqDiff, reduceCtorEq, ie_m1_0, il_m1_0, ie_m1_1, il_m1_1, ie_m1_2, il_m1_2, ie_m1_3, il_m1_3, ie_m1_4, ie_m1_5, ie_m1_6, ie_m1_7, ie_m1_8, ie_0_m1, il_0_0, ie_0_1, il_0_1, ie_0_2, il_0_2, ie_0_3, il_0_3, ie_0_4, ie_0_5, ie_0_6, ie_0_7, ie_0_8, ie_1_m1, ie_1_0, il_1_0, il_1_1, ie_1_2, il_1_2, ie_1_3, il_1_3, ie_1_4, ie_1_5, ie_1_6, ie_1_7, ie_1_8, ie_2_m1, ie_2_0, il_2_0, ie_2_1, il_2_1, il_2_2, ie_2_3, il_2_3, ie_2_4, ie_2_5, ie_2_6, ie_2_7, ie_2_8, ie_3_m1, ie_3_0, il_3_0, ie_3_1, il_3_1, ie_3_2, il_3_2, il_3_3, ie_3_4, ie_3_5, ie_3_6, ie_3_7, ie_3_8, ie_4_m1, ie_4_0, il_4_0, ie_4_1, il_4_1, ie_4_2, il_4_2, ie_4_3, il_4_3, ie_4_5, ie_4_6, ie_4_7, ie_4_8, ie_5_m1, ie_5_0, il_5_0, ie_5_1, il_5_1, ie_5_2, il_5_2, ie_5_3, il_5_3, ie_5_4, ie_5_6, ie_5_7, ie_5_8, ie_6_m1, ie_6_0, il_6_0, ie_6_1, il_6_1, ie_6_2, il_6_2, ie_6_3, il_6_3, ie_6_4, ie_6_5, ie_6_7, ie_6_8, ie_7_m1, ie_7_0, il_7_0, ie_7_1, il_7_1, ie_7_2, il_7_2, ie_7_3, il_7_3, ie_7_4, ie_7_5, ie_7_6, ie_7_8, ie_8_m1, ie_8_0, il_8_0, ie_8_1, il_8_1, ie_8_2, il_8_2, ie_8_3, il_8_3, ie_8_4, ie_8_5, ie_8_6, ie_8_7, Nat.reduceAdd, Nat.reduceSub, Nat.reduceLT, Nat.reduceLeDiff, Nat.reduceBEq, Bool.or_false, Bool.false_or, Bool.or_true, Bool.true_or, Bool.or_self, Bool.false_eq_true, ↓reduceIte, Nat.le_refl, Nat.zero_le, nI_p1, Option.toList, not_true_eq_false, not_false_eq_true, isRf_o, isR_o, isR_a, cat_o, okv_fo, okv_fa, orf_s, orf_n, both_t, both_f, rfn_n, rfn_s, eq_self, forall_const, qX6_handOver_0, qX6_handOver_1, qX6_handOver_4n, qX6_handOver_4r, qX6_handOver_7, qX6_handOver_8, qX6_handOver_11, qX6_handOver_12, qX6_handOver_15, qX6_handOver_16, qX6_handOver_17, qX6_handOver_20, qX6_handOver_21n, qX6_handOver_21r, qX6_handOver_24, qX6_handOver_25, qX6_handOver_26, qX6_handOver_29, qX6_handOver_30, qX6_handOver_33r, qX6_handOver_33n, qX6_handOver_34, qX6_handOver_35, qX6_handOver_36, qX6_handOver_38, qX6_handOver_39, qX6_handOver_41, qX6_handOver_43, qX6_handOver_45, qX6_handOver_48, qX6_handOver_49, qX6_handOver_51, qX6_handOver_52r, qX6_handOver_52n, qX6_handOver_54, qX6_handOver_56n, qX6_handOver_56r, qX6_handOver_59, qX6_handOver_61, qX6_handOver_64, qX6_handOver_65rr, qX6_handOver_65nn, qX6_handOver_65nr, qX6_handOver_65rn, qX6_handOver_68, qX6_handOver_70, qX6_handOver_73, qX6_handOver_74rr, qX6_handOver_74nn, qX6_handOver_74nr, qX6_handOver_74rn, qX6_handOver_77, qX6_handOver_79, qX6_handOver_80, qX6_handOver_83, qX6_handOver_86, qX6_handOver_89, qX6_handOver_4_o, qX6_handOver_21_o, qX6_handOver_33_o, qX6_handOver_52_o, qX6_handOver_56_o, qX6_handOver_65_or, qX6_handOver_65_ro, qX6_handOver_65_oo, qX6_handOver_74_or, qX6_handOver_74_ro, qX6_handOver_74_oo, rr.k11 hA, rr.e11 (hi := hA), hge, hi40, e11, rr.k5 q, rr.f5_0 q, rr.f5_1 q, rr.f5_2 q, rr.f5_3 q, e51, e52, o1, q1, o2, q2]
              refine v_forget 6 (ih (i + 1) Z4 h4 (by omega) t4 b1 b2 (fun o ho => ?_))
              rw [b3 o ho]
              by_cases e : o = i
              · subst e
                rw [if_neg (fun z => z.2.elim q1 q2), if_neg (fun z => z.2.elim q1 q2)]
              · by_cases e2 : o < i ∧ (Z.2 5 o 1 = some s ∨ Z.2 5 o 2 = some s)
                · rw [if_pos e2, if_pos ⟨by omega, e2.2⟩]
                · rw [if_neg e2, if_neg (fun z => e2 ⟨by omega, z.2⟩)]
        · rw [if_neg q] at e11
          refine ry1_ok K FokX6 none noini [41] 60 ?_
          simp only [ry1_s, ry_s, ry_0, hit, true_and, and_true, List.map_cons, List.map_nil, List.length_cons, List.length_nil, List.replicate, List.cons_append, List.nil_append, List.append_nil, List.length_append, List.set_cons_zero, List.set_cons_succ, lgt_0, lgt_s, lhas_0, lhas_s, isI_i, isRf_r, isRf_n, inc_i, of1, ofm1, rokI_i, rokI_0, rokI_1, rokI_b, okv_i, okv_z0, okv_z1, okv_or, okv_on, okv_ar, okv_b, isA_s, alen_s, cat_i, cat_r, cat_n, finC_s, hPe, rv, nar1, nar0,  b2i_0, oI_n, oI_s, d24, d168, d100, Int32.le_refl, vpT, nIc8, nIc12, nIc40, nIc200, hup_at, and_self, and_false, false_and, Nat.reduceEqDiff, Nat.reduceEqDiff, reduceCtorEq, ie_m1_0, il_m1_0, ie_m1_1, il_m1_1, ie_m1_2, il_m1_2, ie_m1_3, il_m1_3, ie_m1_4, ie_m1_5, ie_m1_6, ie_m1_7, ie_m1_8, ie_0_m1, il_0_0, ie_0_1, il_0_1, ie_0_2, il_0_2, ie_0_3, il_0_3, ie_0_4, ie_0_5, ie_0_6, ie_0_7, ie_0_8, ie_1_m1, ie_1_0, il_1_0, il_1_1, ie_1_2, il_1_2, ie_1_3, il_1_3, ie_1_4, ie_1_5, ie_1_6, ie_1_7, ie_1_8, ie_2_m1, ie_2_0, il_2_0, ie_2_1, il_2_1, il_2_2, ie_2_3, il_2_3, ie_2_4, ie_2_5, ie_2_6, ie_2_7, ie_2_8, ie_3_m1, ie_3_0, il_3_0, ie_3_1, il_3_1, ie_3_2, il_3_2, il_3_3, ie_3_4, ie_3_5, ie_3_6, ie_3_7, ie_3_8, ie_4_m1, ie_4_0, il_4_0, ie_4_1, il_4_1, ie_4_2, il_4_2, ie_4_3, il_4_3, ie_4_5, ie_4_6, ie_4_7, ie_4_8, ie_5_m1, ie_5_0, il_5_0, ie_5_1, il_5_1, ie_5_2, il_5_2, ie_5_3, il_5_3, ie_5_4, ie_5_6, ie_5_7, ie_5_8, ie_6_m1, ie_6_0, il_6_0, ie_6_1, il_6_1, ie_6_2, il_6_2, ie_6_3, il_6_3, ie_6_4, ie_6_5, ie_6_7, ie_6_8, ie_7_m1, ie_7_0, il_7_0, ie_7_1, il_7_1, ie_7_2, il_7_2, ie_7_3, il_7_3, ie_7_4, ie_7_5, ie_7_6, ie_7_8, ie_8_m1, ie_8_0, il_8_0, ie_8_1, il_8_1, ie_8_2, il_8_2, ie_8_3, il_8_3, ie_8_4, ie_8_5, ie_8_6, ie_8_7, Nat.reduceAdd, Nat.reduceSub, Nat.reduceLT, Nat.reduceLeDiff, Nat.reduceBEq, Bool.or_false, Bool.false_or, Bool.or_true, Bool.true_or, Bool.or_self, Bool.false_eq_true, ↓reduceIte, Nat.le_refl, Nat.zero_le, nI_p1, Option.toList, not_true_eq_false, not_false_eq_true, isRf_o, isR_o, isR_a, cat_o, okv_fo, okv_fa, orf_s, orf_n, both_t, both_f, rfn_n, rfn_s, eq_self, forall_const, qX6_handOver_0, qX6_handOver_1, qX6_handOver_4n, qX6_handOver_4r, qX6_handOver_7, qX6_handOver_8, qX6_handOver_11, qX6_handOver_12, qX6_handOver_15, qX6_handOver_16, qX6_handOver_17, qX6_handOver_20, qX6_handOver_21n, qX6_handOver_21r, qX6_handOver_24, qX6_handOver_25, qX6_handOver_26, qX6_handOver_29, qX6_handOver_30, qX6_handOver_33r, qX6_handOver_33n, qX6_handOver_34, qX6_handOver_35, qX6_handOver_36, qX6_handOver_38, qX6_handOver_39, qX6_handOver_41, qX6_handOver_43, qX6_handOver_45, qX6_handOver_48, qX6_handOver_49, qX6_handOver_51, qX6_handOver_52r, qX6_handOver_52n, qX6_handOver_54, qX6_handOver_56n, qX6_handOver_56r, qX6_handOver_59, qX6_handOver_61, qX6_handOver_64, qX6_handOver_65rr, qX6_handOver_65nn, qX6_handOver_65nr, qX6_handOver_65rn, qX6_handOver_68, qX6_handOver_70, qX6_handOver_73, qX6_handOver_74rr, qX6_handOver_74nn, qX6_handOver_74nr, qX6_handOver_74rn, qX6_handOver_77, qX6_handOver_79, qX6_handOver_80, qX6_handOver_83, qX6_handOver_86, qX6_handOver_89, qX6_handOver_4_o, qX6_handOver_21_o, qX6_handOver_33_o, qX6_handOver_52_o, qX6_handOver_56_o, qX6_handOver_65_or, qX6_handOver_65_ro, qX6_handOver_65_oo, qX6_handOver_74_or, qX6_handOver_74_ro, qX6_handOver_74_oo, rr.k11 hA, rr.e11 (hi := hA), hge, hi40, e11]
          refine v_forget 6 (ih (i + 1) Z4 h4 (by omega) t4 b1 b2 (fun o ho => ?_))
          rw [b3 o ho]
          have e : o < i + 1 ↔ o < i := ⟨fun _ => by omega, fun _ => by omega⟩
          simp only [e]
    refine key 40 0 Z3 h3 rfl t3 rfl (fun k i f _ => by rw [a1]) (fun o ho => ?_)
    rw [if_neg (fun z => absurd z.1 (by omega)), a1]
  have tail15 : ∀ (Z1 : ZS) (h1 : Hp), CTo N ad Z1 h h1 → Z1.1 = Z.1 → (∀ k i f, k ≠ 14 → Z1.2 k i f = Z.2 k i f) → Oms N Z Z1 s → V ((p, l9, e, R), (sz, mi, args, below), (meth, cx, D9, b9), (P, X, 0, 0)) h1 0 0 15 [some (.ref (ad 0 0)), some (.ref (ad 2 s)), some (orf ad 1 g), none, none, none, none] [] := by
    intro Z1 h1 t1 a1 a2 om
    have rr1 := t1.1
    have t2 := t1.puto (k := 2) (i := s) (k9 := 1) 6 g hs rfl hg1
    have z2 : ∀ k i f, k ≠ 14 → ¬ (k = 2 ∧ i = s ∧ f = 6) → zuo Z1.2 2 s 6 g k i f = Z.2 k i f := fun k i f h14 hn => by simp only [zuo, if_neg hn]; exact a2 k i f h14
    have z3 : zuo Z1.2 2 s 6 g 2 s 6 = g := by simp [zuo]
    have z4 : ∀ w j, zuo Z1.2 2 s 6 g 14 w j = Z1.2 14 w j := fun w j => by simp [zuo]
    cases g with
    | none =>
      refine ry1_ok K FokX6 none noini [29] 60 ?_
      simp only [ry1_s, ry_s, ry_0, hit, true_and, and_true, List.map_cons, List.map_nil, List.length_cons, List.length_nil, List.replicate, List.cons_append, List.nil_append, List.append_nil, List.length_append, List.set_cons_zero, List.set_cons_succ, lgt_0, lgt_s, lhas_0, lhas_s, isI_i, isRf_r, isRf_n, inc_i, of1, ofm1, rokI_i, rokI_0, rokI_1, rokI_b, okv_i, okv_z0, okv_z1, okv_or, okv_on, okv_ar, okv_b, isA_s, alen_s, cat_i, cat_r, cat_n, finC_s, hPe, rv, nar1, nar0,  b2i_0, oI_n, oI_s, d24, d168, d100, Int32.le_refl, vpT, nIc8, nIc12, nIc40, nIc200, hup_at, and_self, and_false, false_and, Nat.reduceEqDiff, Nat.reduceEqDiff, reduceCtorEq, ie_m1_0, il_m1_0, ie_m1_1, il_m1_1, ie_m1_2, il_m1_2, ie_m1_3, il_m1_3, ie_m1_4, ie_m1_5, ie_m1_6, ie_m1_7, ie_m1_8, ie_0_m1, il_0_0, ie_0_1, il_0_1, ie_0_2, il_0_2, ie_0_3, il_0_3, ie_0_4, ie_0_5, ie_0_6, ie_0_7, ie_0_8, ie_1_m1, ie_1_0, il_1_0, il_1_1, ie_1_2, il_1_2, ie_1_3, il_1_3, ie_1_4, ie_1_5, ie_1_6, ie_1_7, ie_1_8, ie_2_m1, ie_2_0, il_2_0, ie_2_1, il_2_1, il_2_2, ie_2_3, il_2_3, ie_2_4, ie_2_5, ie_2_6, ie_2_7, ie_2_8, ie_3_m1, ie_3_0, il_3_0, ie_3_1, il_3_1, ie_3_2, il_3_2, il_3_3, ie_3_4, ie_3_5, ie_3_6, ie_3_7, ie_3_8, ie_4_m1, ie_4_0, il_4_0, ie_4_1, il_4_1, ie_4_2, il_4_2, ie_4_3, il_4_3, ie_4_5, ie_4_6, ie_4_7, ie_4_8, ie_5_m1, ie_5_0, il_5_0, ie_5_1, il_5_1, ie_5_2, il_5_2, ie_5_3, il_5_3, ie_5_4, ie_5_6, ie_5_7, ie_5_8, ie_6_m1, ie_6_0, il_6_0, ie_6_1, il_6_1, ie_6_2, il_6_2, ie_6_3, il_6_3, ie_6_4, ie_6_5, ie_6_7, ie_6_8, ie_7_m1, ie_7_0, il_7_0, ie_7_1, il_7_1, ie_7_2, il_7_2, ie_7_3, il_7_3, ie_7_4, ie_7_5, ie_7_6, ie_7_8, ie_8_m1, ie_8_0, il_8_0, ie_8_1, il_8_1, ie_8_2, il_8_2, ie_8_3, il_8_3, ie_8_4, ie_8_5, ie_8_6, ie_8_7, Nat.reduceAdd, Nat.reduceSub, Nat.reduceLT, Nat.reduceLeDiff, Nat.reduceBEq, Bool.or_false, Bool.false_or, Bool.or_true, Bool.true_or, Bool.or_self, Bool.false_eq_true, ↓reduceIte, Nat.le_refl, Nat.zero_le, nI_p1, Option.toList, not_true_eq_false, not_false_eq_true, isRf_o, isR_o, isR_a, cat_o, okv_fo, okv_fa, orf_s, orf_n, both_t, both_f, rfn_n, rfn_s, eq_self, forall_const, qX6_handOver_0, qX6_handOver_1, qX6_handOver_4n, qX6_handOver_4r, qX6_handOver_7, qX6_handOver_8, qX6_handOver_11, qX6_handOver_12, qX6_handOver_15, qX6_handOver_16, qX6_handOver_17, qX6_handOver_20, qX6_handOver_21n, qX6_handOver_21r, qX6_handOver_24, qX6_handOver_25, qX6_handOver_26, qX6_handOver_29, qX6_handOver_30, qX6_handOver_33r, qX6_handOver_33n, qX6_handOver_34, qX6_handOver_35, qX6_handOver_36, qX6_handOver_38, qX6_handOver_39, qX6_handOver_41, qX6_handOver_43, qX6_handOver_45, qX6_handOver_48, qX6_handOver_49, qX6_handOver_51, qX6_handOver_52r, qX6_handOver_52n, qX6_handOver_54, qX6_handOver_56n, qX6_handOver_56r, qX6_handOver_59, qX6_handOver_61, qX6_handOver_64, qX6_handOver_65rr, qX6_handOver_65nn, qX6_handOver_65nr, qX6_handOver_65rn, qX6_handOver_68, qX6_handOver_70, qX6_handOver_73, qX6_handOver_74rr, qX6_handOver_74nn, qX6_handOver_74nr, qX6_handOver_74rn, qX6_handOver_77, qX6_handOver_79, qX6_handOver_80, qX6_handOver_83, qX6_handOver_86, qX6_handOver_89, qX6_handOver_4_o, qX6_handOver_21_o, qX6_handOver_33_o, qX6_handOver_52_o, qX6_handOver_56_o, qX6_handOver_65_or, qX6_handOver_65_ro, qX6_handOver_65_oo, qX6_handOver_74_or, qX6_handOver_74_ro, qX6_handOver_74_oo, rr1.k2 hs, rr1.f2_0 hs, rr1.f2_1 hs, rr1.f2_2 hs, rr1.f2_3 hs, rr1.f2_4 hs, rr1.f2_5 hs, rr1.f2_6 hs, rr1.f2_7 hs]
      refine tail29 _ _ t2 a1 z2 z3 (om.nob io.2 z4 (fun t => by rw [a1]) (fun t ht => z2 2 t 6 (by decide) (fun z => ht z.2.1)) z3)
    | some w1 =>
      have hw1 := hg w1 rfl
      have hw11 := hg1 w1 rfl
      obtain ⟨ls1, b1, b2, b3⟩ := om w1 hw1
      have hns : s ∉ ls1 := fun z => ((b2 s).mp z).2.1 rfl
      have hlt : ∀ t, t ∈ s :: ls1 → t < N 2 := fun t ht => by
        rcases List.mem_cons.mp ht with e | e
        · rw [e]; exact hs
        · exact ((b2 t).mp e).1
      have hnd : (s :: ls1).Nodup := List.nodup_cons.mpr ⟨hns, pw_nodup b3⟩
      have hlen : ls1.length + 1 ≤ N 2 := nodup_len _ (s :: ls1) hnd hlt
      refine ry1_ok K FokX6 none noini [29] 60 ?_
      simp only [ry1_s, ry_s, ry_0, hit, true_and, and_true, List.map_cons, List.map_nil, List.length_cons, List.length_nil, List.replicate, List.cons_append, List.nil_append, List.append_nil, List.length_append, List.set_cons_zero, List.set_cons_succ, lgt_0, lgt_s, lhas_0, lhas_s, isI_i, isRf_r, isRf_n, inc_i, of1, ofm1, rokI_i, rokI_0, rokI_1, rokI_b, okv_i, okv_z0, okv_z1, okv_or, okv_on, okv_ar, okv_b, isA_s, alen_s, cat_i, cat_r, cat_n, finC_s, hPe, rv, nar1, nar0,  b2i_0, oI_n, oI_s, d24, d168, d100, Int32.le_refl, vpT, nIc8, nIc12, nIc40, nIc200, hup_at, and_self, and_false, false_and, Nat.reduceEqDiff, Nat.reduceEqDiff, reduceCtorEq, ie_m1_0, il_m1_0, ie_m1_1, il_m1_1, ie_m1_2, il_m1_2, ie_m1_3, il_m1_3, ie_m1_4, ie_m1_5, ie_m1_6, ie_m1_7, ie_m1_8, ie_0_m1, il_0_0, ie_0_1, il_0_1, ie_0_2, il_0_2, ie_0_3, il_0_3, ie_0_4, ie_0_5, ie_0_6, ie_0_7, ie_0_8, ie_1_m1, ie_1_0, il_1_0, il_1_1, ie_1_2, il_1_2, ie_1_3, il_1_3, ie_1_4, ie_1_5, ie_1_6, ie_1_7, ie_1_8, ie_2_m1, ie_2_0, il_2_0, ie_2_1, il_2_1, il_2_2, ie_2_3, il_2_3, ie_2_4, ie_2_5, ie_2_6, ie_2_7, ie_2_8, ie_3_m1, ie_3_0, il_3_0, ie_3_1, il_3_1, ie_3_2, il_3_2, il_3_3, ie_3_4, ie_3_5, ie_3_6, ie_3_7, ie_3_8, ie_4_m1, ie_4_0, il_4_0, ie_4_1, il_4_1, ie_4_2, il_4_2, ie_4_3, il_4_3, ie_4_5, ie_4_6, ie_4_7, ie_4_8, ie_5_m1, ie_5_0, il_5_0, ie_5_1, il_5_1, ie_5_2, il_5_2, ie_5_3, il_5_3, ie_5_4, ie_5_6, ie_5_7, ie_5_8, ie_6_m1, ie_6_0, il_6_0, ie_6_1, il_6_1, ie_6_2, il_6_2, ie_6_3, il_6_3, ie_6_4, ie_6_5, ie_6_7, ie_6_8, ie_7_m1, ie_7_0, il_7_0, ie_7_1, il_7_1, ie_7_2, il_7_2, ie_7_3, il_7_3, ie_7_4, ie_7_5, ie_7_6, ie_7_8, ie_8_m1, ie_8_0, il_8_0, ie_8_1, il_8_1, ie_8_2, il_8_2, ie_8_3, il_8_3, ie_8_4, ie_8_5, ie_8_6, ie_8_7, Nat.reduceAdd, Nat.reduceSub, Nat.reduceLT, Nat.reduceLeDiff, Nat.reduceBEq, Bool.or_false, Bool.false_or, Bool.or_true, Bool.true_or, Bool.or_self, Bool.false_eq_true, ↓reduceIte, Nat.le_refl, Nat.zero_le, nI_p1, Option.toList, not_true_eq_false, not_false_eq_true, isRf_o, isR_o, isR_a, cat_o, okv_fo, okv_fa, orf_s, orf_n, both_t, both_f, rfn_n, rfn_s, eq_self, forall_const, qX6_handOver_0, qX6_handOver_1, qX6_handOver_4n, qX6_handOver_4r, qX6_handOver_7, qX6_handOver_8, qX6_handOver_11, qX6_handOver_12, qX6_handOver_15, qX6_handOver_16, qX6_handOver_17, qX6_handOver_20, qX6_handOver_21n, qX6_handOver_21r, qX6_handOver_24, qX6_handOver_25, qX6_handOver_26, qX6_handOver_29, qX6_handOver_30, qX6_handOver_33r, qX6_handOver_33n, qX6_handOver_34, qX6_handOver_35, qX6_handOver_36, qX6_handOver_38, qX6_handOver_39, qX6_handOver_41, qX6_handOver_43, qX6_handOver_45, qX6_handOver_48, qX6_handOver_49, qX6_handOver_51, qX6_handOver_52r, qX6_handOver_52n, qX6_handOver_54, qX6_handOver_56n, qX6_handOver_56r, qX6_handOver_59, qX6_handOver_61, qX6_handOver_64, qX6_handOver_65rr, qX6_handOver_65nn, qX6_handOver_65nr, qX6_handOver_65rn, qX6_handOver_68, qX6_handOver_70, qX6_handOver_73, qX6_handOver_74rr, qX6_handOver_74nn, qX6_handOver_74nr, qX6_handOver_74rn, qX6_handOver_77, qX6_handOver_79, qX6_handOver_80, qX6_handOver_83, qX6_handOver_86, qX6_handOver_89, qX6_handOver_4_o, qX6_handOver_21_o, qX6_handOver_33_o, qX6_handOver_52_o, qX6_handOver_56_o, qX6_handOver_65_or, qX6_handOver_65_ro, qX6_handOver_65_oo, qX6_handOver_74_or, qX6_handOver_74_ro, qX6_handOver_74_oo, rr1.k2 hs, rr1.f2_0 hs, rr1.f2_1 hs, rr1.f2_2 hs, rr1.f2_3 hs, rr1.f2_4 hs, rr1.f2_5 hs, rr1.f2_6 hs, rr1.f2_7 hs]
      have st2 : St N (Z1.1, zuo Z1.2 2 s 6 (some w1)) := st.cg (fun k i f _ => by rw [a1]) (fun k i f hf => z2 k i f (fun e => by subst e; simp [stf2] at hf) (fun z => by obtain ⟨y1, y2, y3⟩ := z; subst y1; subst y3; simp [stf2] at hf))
      refine v_callV K (u_add hfl t2.1 st2 hw1 hs (ls := ls1) (by omega) (fun j hj => (z4 w1 j).trans (b1 j hj))) kX6_132 rfl (t2.1.k1 hw11) rfl (by decide) rfl (Nat.le_of_ble_eq_true rfl) rfl dX6_handOver_26 ⟨Nat.le_refl _, Nat.le_refl _⟩ (fun _ _ z => z.elim) ?_; rintro _ h3 ⟨rfl, t3⟩
      obtain ⟨Z3, u3, t3⟩ := t3
      have ec : crr (Z1.1, zuo Z1.2 2 s 6 (some w1)) s ls1 = crr Z s ls1 := by
        have : ∀ (L : List Nat) (c : Nat), crr (Z1.1, zuo Z1.2 2 s 6 (some w1)) c L = crr Z c L := by
          intro L
          induction L with
          | nil => intro c; rfl
          | cons x tl ih =>
            intro c
            have e : slt (Z1.1, zuo Z1.2 2 s 6 (some w1)) c x = slt Z c x := by unfold slt; rw [a1]
            unfold crr
            rw [e, ih, ih]
        exact this ls1 s
      rw [ec] at u3
      have y14 : ∀ k i f, k ≠ 14 → Z3.2 k i f = zuo Z1.2 2 s 6 (some w1) k i f := fun k i f hk => u3.2.1 k i f (fun z => hk z.1)
      have hpw := crr_pw ls1 s (fun a ha d hd => slt_iff (st.sn (hlt a ha)) (st.sn (hlt d hd)) (by have := hlt a ha; omega) (by have := hlt d hd; omega)) b3 hns
      refine tail29 Z3 h3 (t2.tr t3) (u3.1.trans a1) (fun k i f h14 hn => (y14 k i f h14).trans (z2 k i f h14 hn)) ((y14 2 s 6 (by decide)).trans z3) ?_
      exact om.who io.2 hw1 b2 hpw (fun w j hw => (u3.2.1 14 w j (fun z => hw z.2)).trans (z4 w j)) (fun j hj => u3.2.2 j hj) (fun t => by rw [u3.1, a1]) (fun t ht => (y14 2 t 6 (by decide)).trans (z2 2 t 6 (by decide) (fun z => ht z.2.1))) hs ((y14 2 s 6 (by decide)).trans z3)
  cases ez : Z.2 2 s 6 with
  | none =>
    refine ry1_ok K FokX6 none noini [15] 60 ?_
    simp only [ry1_s, ry_s, ry_0, hit, true_and, and_true, List.map_cons, List.map_nil, List.length_cons, List.length_nil, List.replicate, List.cons_append, List.nil_append, List.append_nil, List.length_append, List.set_cons_zero, List.set_cons_succ, lgt_0, lgt_s, lhas_0, lhas_s, isI_i, isRf_r, isRf_n, inc_i, of1, ofm1, rokI_i, rokI_0, rokI_1, rokI_b, okv_i, okv_z0, okv_z1, okv_or, okv_on, okv_ar, okv_b, isA_s, alen_s, cat_i, cat_r, cat_n, finC_s, hPe, rv, nar1, nar0,  b2i_0, oI_n, oI_s, d24, d168, d100, Int32.le_refl, vpT, nIc8, nIc12, nIc40, nIc200, hup_at, and_self, and_false, false_and, Nat.reduceEqDiff, Nat.reduceEqDiff, reduceCtorEq, ie_m1_0, il_m1_0, ie_m1_1, il_m1_1, ie_m1_2, il_m1_2, ie_m1_3, il_m1_3, ie_m1_4, ie_m1_5, ie_m1_6, ie_m1_7, ie_m1_8, ie_0_m1, il_0_0, ie_0_1, il_0_1, ie_0_2, il_0_2, ie_0_3, il_0_3, ie_0_4, ie_0_5, ie_0_6, ie_0_7, ie_0_8, ie_1_m1, ie_1_0, il_1_0, il_1_1, ie_1_2, il_1_2, ie_1_3, il_1_3, ie_1_4, ie_1_5, ie_1_6, ie_1_7, ie_1_8, ie_2_m1, ie_2_0, il_2_0, ie_2_1, il_2_1, il_2_2, ie_2_3, il_2_3, ie_2_4, ie_2_5, ie_2_6, ie_2_7, ie_2_8, ie_3_m1, ie_3_0, il_3_0, ie_3_1, il_3_1, ie_3_2, il_3_2, il_3_3, ie_3_4, ie_3_5, ie_3_6, ie_3_7, ie_3_8, ie_4_m1, ie_4_0, il_4_0, ie_4_1, il_4_1, ie_4_2, il_4_2, ie_4_3, il_4_3, ie_4_5, ie_4_6, ie_4_7, ie_4_8, ie_5_m1, ie_5_0, il_5_0, ie_5_1, il_5_1, ie_5_2, il_5_2, ie_5_3, il_5_3, ie_5_4, ie_5_6, ie_5_7, ie_5_8, ie_6_m1, ie_6_0, il_6_0, ie_6_1, il_6_1, ie_6_2, il_6_2, ie_6_3, il_6_3, ie_6_4, ie_6_5, ie_6_7, ie_6_8, ie_7_m1, ie_7_0, il_7_0, ie_7_1, il_7_1, ie_7_2, il_7_2, ie_7_3, il_7_3, ie_7_4, ie_7_5, ie_7_6, ie_7_8, ie_8_m1, ie_8_0, il_8_0, ie_8_1, il_8_1, ie_8_2, il_8_2, ie_8_3, il_8_3, ie_8_4, ie_8_5, ie_8_6, ie_8_7, Nat.reduceAdd, Nat.reduceSub, Nat.reduceLT, Nat.reduceLeDiff, Nat.reduceBEq, Bool.or_false, Bool.false_or, Bool.or_true, Bool.true_or, Bool.or_self, Bool.false_eq_true, ↓reduceIte, Nat.le_refl, Nat.zero_le, nI_p1, Option.toList, not_true_eq_false, not_false_eq_true, isRf_o, isR_o, isR_a, cat_o, okv_fo, okv_fa, orf_s, orf_n, both_t, both_f, rfn_n, rfn_s, eq_self, forall_const, qX6_handOver_0, qX6_handOver_1, qX6_handOver_4n, qX6_handOver_4r, qX6_handOver_7, qX6_handOver_8, qX6_handOver_11, qX6_handOver_12, qX6_handOver_15, qX6_handOver_16, qX6_handOver_17, qX6_handOver_20, qX6_handOver_21n, qX6_handOver_21r, qX6_handOver_24, qX6_handOver_25, qX6_handOver_26, qX6_handOver_29, qX6_handOver_30, qX6_handOver_33r, qX6_handOver_33n, qX6_handOver_34, qX6_handOver_35, qX6_handOver_36, qX6_handOver_38, qX6_handOver_39, qX6_handOver_41, qX6_handOver_43, qX6_handOver_45, qX6_handOver_48, qX6_handOver_49, qX6_handOver_51, qX6_handOver_52r, qX6_handOver_52n, qX6_handOver_54, qX6_handOver_56n, qX6_handOver_56r, qX6_handOver_59, qX6_handOver_61, qX6_handOver_64, qX6_handOver_65rr, qX6_handOver_65nn, qX6_handOver_65nr, qX6_handOver_65rn, qX6_handOver_68, qX6_handOver_70, qX6_handOver_73, qX6_handOver_74rr, qX6_handOver_74nn, qX6_handOver_74nr, qX6_handOver_74rn, qX6_handOver_77, qX6_handOver_79, qX6_handOver_80, qX6_handOver_83, qX6_handOver_86, qX6_handOver_89, qX6_handOver_4_o, qX6_handOver_21_o, qX6_handOver_33_o, qX6_handOver_52_o, qX6_handOver_56_o, qX6_handOver_65_or, qX6_handOver_65_ro, qX6_handOver_65_oo, qX6_handOver_74_or, qX6_handOver_74_ro, qX6_handOver_74_oo, rr.k2 hs, rr.f2_0 hs, rr.f2_1 hs, rr.f2_2 hs, rr.f2_3 hs, rr.f2_4 hs, rr.f2_5 hs, rr.f2_6 hs, rr.f2_7 hs, ez]
    exact tail15 Z h (CTo.rf rr) rfl (fun _ _ _ _ => rfl) (Oms.no io ez)
  | some w0 =>
    have hw0 : w0 < 8 := io.2 s w0 hs ez
    have hw01 := st.n1 hw0
    obtain ⟨q, hq⟩ := io.ocon n40 s w0 hs ez
    obtain ⟨q1, q2, q3⟩ := fnd_spec _ _ hq
    refine ry1_ok K FokX6 none noini [15] 60 ?_
    simp only [ry1_s, ry_s, ry_0, hit, true_and, and_true, List.map_cons, List.map_nil, List.length_cons, List.length_nil, List.replicate, List.cons_append, List.nil_append, List.append_nil, List.length_append, List.set_cons_zero, List.set_cons_succ, lgt_0, lgt_s, lhas_0, lhas_s, isI_i, isRf_r, isRf_n, inc_i, of1, ofm1, rokI_i, rokI_0, rokI_1, rokI_b, okv_i, okv_z0, okv_z1, okv_or, okv_on, okv_ar, okv_b, isA_s, alen_s, cat_i, cat_r, cat_n, finC_s, hPe, rv, nar1, nar0,  b2i_0, oI_n, oI_s, d24, d168, d100, Int32.le_refl, vpT, nIc8, nIc12, nIc40, nIc200, hup_at, and_self, and_false, false_and, Nat.reduceEqDiff, Nat.reduceEqDiff, reduceCtorEq, ie_m1_0, il_m1_0, ie_m1_1, il_m1_1, ie_m1_2, il_m1_2, ie_m1_3, il_m1_3, ie_m1_4, ie_m1_5, ie_m1_6, ie_m1_7, ie_m1_8, ie_0_m1, il_0_0, ie_0_1, il_0_1, ie_0_2, il_0_2, ie_0_3, il_0_3, ie_0_4, ie_0_5, ie_0_6, ie_0_7, ie_0_8, ie_1_m1, ie_1_0, il_1_0, il_1_1, ie_1_2, il_1_2, ie_1_3, il_1_3, ie_1_4, ie_1_5, ie_1_6, ie_1_7, ie_1_8, ie_2_m1, ie_2_0, il_2_0, ie_2_1, il_2_1, il_2_2, ie_2_3, il_2_3, ie_2_4, ie_2_5, ie_2_6, ie_2_7, ie_2_8, ie_3_m1, ie_3_0, il_3_0, ie_3_1, il_3_1, ie_3_2, il_3_2, il_3_3, ie_3_4, ie_3_5, ie_3_6, ie_3_7, ie_3_8, ie_4_m1, ie_4_0, il_4_0, ie_4_1, il_4_1, ie_4_2, il_4_2, ie_4_3, il_4_3, ie_4_5, ie_4_6, ie_4_7, ie_4_8, ie_5_m1, ie_5_0, il_5_0, ie_5_1, il_5_1, ie_5_2, il_5_2, ie_5_3, il_5_3, ie_5_4, ie_5_6, ie_5_7, ie_5_8, ie_6_m1, ie_6_0, il_6_0, ie_6_1, il_6_1, ie_6_2, il_6_2, ie_6_3, il_6_3, ie_6_4, ie_6_5, ie_6_7, ie_6_8, ie_7_m1, ie_7_0, il_7_0, ie_7_1, il_7_1, ie_7_2, il_7_2, ie_7_3, il_7_3, ie_7_4, ie_7_5, ie_7_6, ie_7_8, ie_8_m1, ie_8_0, il_8_0, ie_8_1, il_8_1, ie_8_2, il_8_2, ie_8_3, il_8_3, ie_8_4, ie_8_5, ie_8_6, ie_8_7, Nat.reduceAdd, Nat.reduceSub, Nat.reduceLT, Nat.reduceLeDiff, Nat.reduceBEq, Bool.or_false, Bool.false_or, Bool.or_true, Bool.true_or, Bool.or_self, Bool.false_eq_true, ↓reduceIte, Nat.le_refl, Nat.zero_le, nI_p1, Option.toList, not_true_eq_false, not_false_eq_true, isRf_o, isR_o, isR_a, cat_o, okv_fo, okv_fa, orf_s, orf_n, both_t, both_f, rfn_n, rfn_s, eq_self, forall_const, qX6_handOver_0, qX6_handOver_1, qX6_handOver_4n, qX6_handOver_4r, qX6_handOver_7, qX6_handOver_8, qX6_handOver_11, qX6_handOver_12, qX6_handOver_15, qX6_handOver_16, qX6_handOver_17, qX6_handOver_20, qX6_handOver_21n, qX6_handOver_21r, qX6_handOver_24, qX6_handOver_25, qX6_handOver_26, qX6_handOver_29, qX6_handOver_30, qX6_handOver_33r, qX6_handOver_33n, qX6_handOver_34, qX6_handOver_35, qX6_handOver_36, qX6_handOver_38, qX6_handOver_39, qX6_handOver_41, qX6_handOver_43, qX6_handOver_45, qX6_handOver_48, qX6_handOver_49, qX6_handOver_51, qX6_handOver_52r, qX6_handOver_52n, qX6_handOver_54, qX6_handOver_56n, qX6_handOver_56r, qX6_handOver_59, qX6_handOver_61, qX6_handOver_64, qX6_handOver_65rr, qX6_handOver_65nn, qX6_handOver_65nr, qX6_handOver_65rn, qX6_handOver_68, qX6_handOver_70, qX6_handOver_73, qX6_handOver_74rr, qX6_handOver_74nn, qX6_handOver_74nr, qX6_handOver_74rn, qX6_handOver_77, qX6_handOver_79, qX6_handOver_80, qX6_handOver_83, qX6_handOver_86, qX6_handOver_89, qX6_handOver_4_o, qX6_handOver_21_o, qX6_handOver_33_o, qX6_handOver_52_o, qX6_handOver_56_o, qX6_handOver_65_or, qX6_handOver_65_ro, qX6_handOver_65_oo, qX6_handOver_74_or, qX6_handOver_74_ro, qX6_handOver_74_oo, rr.k2 hs, rr.f2_0 hs, rr.f2_1 hs, rr.f2_2 hs, rr.f2_3 hs, rr.f2_4 hs, rr.f2_5 hs, rr.f2_6 hs, rr.f2_7 hs, ez]
    refine v_callV K (u_remove hfl rr st hw0 hs (q := q) (by omega) (fun j hj => of_decide_eq_false (q3 j hj)) (fun _ => of_decide_eq_true q2)) kX6_122 rfl (rr.k1 hw01) rfl (by decide) rfl (Nat.le_of_ble_eq_true rfl) rfl dX6_handOver_12 ⟨Nat.le_refl _, Nat.le_refl _⟩ (fun _ _ z => z.elim) ?_; rintro _ h1 ⟨rfl, t1⟩
    obtain ⟨Z1, u1, t1⟩ := t1
    exact tail15 Z1 h1 t1 u1.1 (fun k i f hk => u1.2.1 k i f (fun z => hk z.1)) (Oms.of io n40 hs ez hq u1)
end C11
