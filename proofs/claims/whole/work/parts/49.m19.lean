/-- what is known of the words that were read -/
def Rg (st : Nat) (S : MS) : Prop := (1 ≤ st → ∃ k, k < 4 ∧ S.1 12 = nI k) ∧ (2 ≤ st → ∃ m, 1 ≤ m ∧ m ≤ 200 ∧ S.1 13 = nI m)
theorem i_rng {x : Int32} {k : Nat} (hk : k ≤ 2000) (h0 : 0 ≤ x) (h : x ≤ nI k) : ∃ m, m ≤ k ∧ x = nI m := by
  have e0 : (0 : Int32).toInt = 0 := by decide
  have h1 : 0 ≤ x.toInt := by rw [← e0]; exact Int32.le_iff_toInt_le.mp h0
  have h2 : x.toInt ≤ (nI k).toInt := Int32.le_iff_toInt_le.mp h
  rw [nI_toInt (by omega)] at h2
  refine ⟨x.toInt.toNat, by omega, ?_⟩
  apply Int32.toInt_inj.mp
  rw [nI_toInt (by omega)]
  omega
theorem wk0_rng {T : Nat → Int32} {a t : Nat} (h : ¬ wk0 T a t = -1) : ∃ k, k < 4 ∧ wk0 T a t = nI k := by
  unfold wk0 at h ⊢
  split
  · exact ⟨0, by decide, rfl⟩
  · split
    · exact ⟨1, by decide, rfl⟩
    · split
      · exact ⟨2, by decide, rfl⟩
      · split
        · exact ⟨3, by decide, rfl⟩
        · rename_i a1 a2 a3 a4
          rw [if_neg a1, if_neg a2, if_neg a3, if_neg a4] at h
          exact absurd rfl h
theorem Rg_f {S : MS} {st : Nat} {k : Nat} {x : Int32} (g : Rg st S) (hk : k ≠ 12 ∧ k ≠ 13) : Rg st (fup S.1 k x, S.2) := by
  refine ⟨fun h => ?_, fun h => ?_⟩
  · show ∃ k', k' < 4 ∧ (if 12 = k then x else S.1 12) = nI k'
    rw [if_neg (fun e => hk.1 e.symm)]; exact g.1 h
  · show ∃ m, 1 ≤ m ∧ m ≤ 200 ∧ (if 13 = k then x else S.1 13) = nI m
    rw [if_neg (fun e => hk.2 e.symm)]; exact g.2 h
theorem Rg_wrd {S : MS} {st a t st' : Nat} (g : Rg st S) (h : (wrd S st a t).1 = some st') : Rg st' (wrd S st a t).2 := by
  match st with
  | 0 =>
    simp only [wrd] at h ⊢
    split at h
    · cases h
    · rename_i q
      cases h
      exact ⟨fun _ => wk0_rng q, fun z => absurd z (by decide)⟩
  | 1 =>
    simp only [wrd] at h ⊢
    split at h
    · rename_i q
      cases h
      refine ⟨fun _ => g.1 (by decide), fun _ => ?_⟩
      obtain ⟨m, h1, h2⟩ := i_rng (k := 200) (by decide) (Int32.le_trans (by decide) q.1) q.2
      refine ⟨m, ?_, h1, h2⟩
      cases m with
      | zero => rw [h2] at q; exact absurd q.1 (by decide)
      | succ m => omega
    · cases h
  | 2 =>
    simp only [wrd] at h ⊢
    exact ⟨fun _ => g.1 (by decide), fun _ => g.2 (by decide)⟩
  | 3 => exact Rg_f ⟨fun _ => g.1 (by decide), fun _ => g.2 (by decide)⟩ (by decide)
  | 4 => exact ⟨fun _ => g.1 (by decide), fun _ => g.2 (by decide)⟩
  | 5 => exact Rg_f ⟨fun _ => g.1 (by decide), fun _ => g.2 (by decide)⟩ (by decide)
  | s + 6 => cases h
theorem Rg_wro (nl : Nat) (hnl : nl ≤ 40) : ∀ f st a S, nl + 1 ≤ a + f → a ≤ nl → Rg st S → (wro nl f st a S).1 = -1 → Rg 6 (wro nl f st a S).2
  | 0, _, a, _, h, h2, _, _ => absurd h (by omega)
  | f + 1, st, a, S, h, h2, g, e => by
    unfold wro at e ⊢
    split
    · rename_i q
      rw [if_pos q] at e
      have e : (if st = 6 then (-1 : Int32) else nI nl) = -1 := e
      split at e
      · rename_i q2
        subst q2
        exact g
      · have := nI_m1 (k := nl)
        by_cases q3 : nl < 40
        · rw [nI_m1 q3] at e; exact e.elim
        · have : nl = 40 := by omega
          subst this
          exact absurd e (by decide)
    · rename_i q
      rw [if_neg q] at e
      split
      · rename_i q2
        rw [if_pos q2] at e
        exact Rg_wro nl hnl f st (a + 1) S (by omega) (by omega) g e
      · rename_i q2
        rw [if_neg q2] at e
        have h9 := wend_gt (T := S.2 11) (show a < nl by omega) q2
        have h8 := wend_ge (T := S.2 11) (show a ≤ nl by omega)
        split
        · rename_i S' e2
          rw [e2] at e
          have e : nI a = -1 := e
          rw [nI_m1 (by omega)] at e
          exact e.elim
        · rename_i st' S' e2
          rw [e2] at e
          have g2 := Rg_wrd (st' := st') g (by rw [e2])
          rw [e2] at g2
          exact Rg_wro nl hnl f st' _ S' (by omega) (by omega) g2 e
theorem Rg_wrg {S : MS} {nl : Nat} (hnl : nl ≤ 40) (e : (wrg S nl).1 = -1) : Rg 6 (wrg S nl).2 :=
  Rg_wro nl hnl (nl + 1) 0 0 _ (by omega) (by omega) ⟨fun z => absurd z (by decide), fun z => absurd z (by decide)⟩ e
/-- a rule is put down -/
def m_rul (S1 : MS) (nr : Nat) : MS := (fup (fup (thr S1 0).1 16 (nI (nr + 1))) 10 0, aup (aup (aup (aup S1.2 17 nr (S1.1 12)) 18 nr (S1.1 13)) 19 nr (S1.1 14)) 20 nr (S1.1 15))
def m_read (S : MS) (n nr nc nl : Nat) : Int32 × MS := if (wrg S nl).1 = -1 then (if nr < 12 then (nI nr, (jdg (m_rul (wrg S nl).2 nr) n (nr + 1) nc).1) else (0, thr (wrg S nl).2 2)) else (0, thr (wrg S nl).2 1)
theorem JW.rul {S : MS} {n nr nl : Nat} (w : JW S n nr) (hnl : nl ≤ 40) (h : nr < 12) (e : (wrg S nl).1 = -1) : JW (m_rul (wrg S nl).2 nr) n (nr + 1) := by
  have g := Rg_wrg hnl e
  have t := wro_eq nl (nl + 1) 0 0 (fup S.1 14 (-1), S.2)
  refine ⟨?_, w.2.1, ?_, by omega, fun r hr => ?_⟩
  · have := t.2 3 (by omega)
    show (wrg S nl).2.1 3 = nI n
    rw [← w.1]
    exact this
  · rfl
  · show ∃ m, m ≤ 200 ∧ aup (aup (aup (aup (wrg S nl).2.2 17 nr ((wrg S nl).2.1 12)) 18 nr ((wrg S nl).2.1 13)) 19 nr ((wrg S nl).2.1 14)) 20 nr ((wrg S nl).2.1 15) 18 r = nI m
    have es : (wrg S nl).2.2 = S.2 := t.1
    rw [es]
    obtain ⟨m, -, h1, h2⟩ := g.2 (by decide)
    by_cases e9 : r = nr
    · subst e9
      exact ⟨m, h1, by simp [aup, h2]⟩
    · obtain ⟨m', h3, h4⟩ := w.2.2.2.2 r (by omega)
      exact ⟨m', h3, by simp [aup, e9, h4]⟩
theorem CW.rul {S : MS} {n nr nc nl : Nat} (w : CW S n nr nc) : CW (m_rul (wrg S nl).2 nr) n (nr + 1) nc := by
  have t := wro_eq nl (nl + 1) 0 0 (fup S.1 14 (-1), S.2)
  refine ⟨?_, w.2.1, fun c hc => ?_⟩
  · have := t.2 22 (by omega)
    show (wrg S nl).2.1 22 = nI nc
    rw [← w.1]
    exact this
  · obtain ⟨a1, a2, a3, a4⟩ := w.2.2 c hc
    have es : (wrg S nl).2.2 = S.2 := t.1
    have a3 : cr S c < nr + 1 := by omega
    refine ⟨?_, ?_, ?_, ?_⟩
    · simpa [cw, m_rul, aup, es] using a1
    · simpa [cs, m_rul, aup, es] using a2
    · simpa [cr, m_rul, aup, es] using a3
    · simpa [cw, cs, cr, m_rul, aup, es] using a4
section M19
variable {l : Launch} {D : Dg} {b : Nat} {h : Hp} {o : Nat} {ad : Nat → Nat} {S : MS}
theorem t_read (hfl : l.flags = flags0) (mr : MRel o ad S h) {n nr nc nl : Nat} (hJ : JW S n nr) (hC : CW S n nr nc) (hn : S.1 10 = nI nl) (hnl : nl ≤ 40) : Cal l D b iX7_read 5 0 0 [.ref o] h (tTo o ad (m_read S n nr nc nl).2 h (.int (m_read S n nr nc nl).1)) nox := by
  refine v_entry iX7_read pl7 mX7_read (by simp [Value.category]) hfl ?_
  rintro ⟨⟨p, l9, e, R⟩, ⟨sz, mi, args, below⟩, ⟨meth, cx, D9, b9⟩, ⟨P, X, mc, ms⟩⟩ rfl rfl rfl hPX K
  injection hPX with hP hPX
  injection hPX with hX hPX
  injection hPX with hMC hMS
  subst hMC hMS
  have hPe := fun r h9 => congrFun (congrFun hP r) h9
  refine ry1_ok K FokX7 none noini [] 60 ?_
  simp only [ry1_s, ry_s, ry_0, hit, true_and, and_true, List.map_cons, List.map_nil, List.length_cons, List.length_nil, List.replicate, List.cons_append, List.nil_append, List.append_nil, List.length_append, List.set_cons_zero, List.set_cons_succ, lgt_0, lgt_s, lhas_0, lhas_s, isI_i, isRf_r, isRf_n, inc_i, of1, ofm1, rokI_i, rokI_0, rokI_1, rokI_b, okv_i, okv_z0, okv_z1, okv_or, okv_on, okv_ar, okv_b, isA_s, alen_s, cat_i, cat_r, cat_n, finC_s, hPe, rv, nar1, nar0,  b2i_0, oI_n, oI_s, d24, d168, d100, Int32.le_refl, vpT, nIc8, nIc12, nIc40, nIc200, hup_at, and_self, and_false, false_and, Nat.reduceEqDiff, Nat.reduceEqDiff, reduceCtorEq, ie_m1_0, il_m1_0, ie_m1_1, il_m1_1, ie_m1_2, il_m1_2, ie_m1_3, il_m1_3, ie_m1_4, ie_m1_5, ie_m1_6, ie_m1_7, ie_m1_8, ie_0_m1, il_0_0, ie_0_1, il_0_1, ie_0_2, il_0_2, ie_0_3, il_0_3, ie_0_4, ie_0_5, ie_0_6, ie_0_7, ie_0_8, ie_1_m1, ie_1_0, il_1_0, il_1_1, ie_1_2, il_1_2, ie_1_3, il_1_3, ie_1_4, ie_1_5, ie_1_6, ie_1_7, ie_1_8, ie_2_m1, ie_2_0, il_2_0, ie_2_1, il_2_1, il_2_2, ie_2_3, il_2_3, ie_2_4, ie_2_5, ie_2_6, ie_2_7, ie_2_8, ie_3_m1, ie_3_0, il_3_0, ie_3_1, il_3_1, ie_3_2, il_3_2, il_3_3, ie_3_4, ie_3_5, ie_3_6, ie_3_7, ie_3_8, ie_4_m1, ie_4_0, il_4_0, ie_4_1, il_4_1, ie_4_2, il_4_2, ie_4_3, il_4_3, ie_4_5, ie_4_6, ie_4_7, ie_4_8, ie_5_m1, ie_5_0, il_5_0, ie_5_1, il_5_1, ie_5_2, il_5_2, ie_5_3, il_5_3, ie_5_4, ie_5_6, ie_5_7, ie_5_8, ie_6_m1, ie_6_0, il_6_0, ie_6_1, il_6_1, ie_6_2, il_6_2, ie_6_3, il_6_3, ie_6_4, ie_6_5, ie_6_7, ie_6_8, ie_7_m1, ie_7_0, il_7_0, ie_7_1, il_7_1, ie_7_2, il_7_2, ie_7_3, il_7_3, ie_7_4, ie_7_5, ie_7_6, ie_7_8, ie_8_m1, ie_8_0, il_8_0, ie_8_1, il_8_1, ie_8_2, il_8_2, ie_8_3, il_8_3, ie_8_4, ie_8_5, ie_8_6, ie_8_7, Nat.reduceAdd, Nat.reduceSub, Nat.reduceLT, Nat.reduceLeDiff, Nat.reduceBEq, Bool.or_false, Bool.false_or, Bool.or_true, Bool.true_or, Bool.or_self, Bool.false_eq_true, ↓reduceIte, Nat.le_refl, Nat.zero_le, nI_p1, Option.toList, not_true_eq_false, not_false_eq_true, qX7_read_0, qX7_read_1, qX7_read_2, qX7_read_5, qX7_read_6, qX7_read_9, qX7_read_10, qX7_read_13, qX7_read_14, qX7_read_15, qX7_read_18, qX7_read_20, qX7_read_23, qX7_read_24, qX7_read_27, qX7_read_28, qX7_read_31, qX7_read_34, qX7_read_35, qX7_read_36, qX7_read_37, qX7_read_40, qX7_read_41, qX7_read_44, qX7_read_45, qX7_read_48, qX7_read_49, qX7_read_50, qX7_read_53, qX7_read_54, qX7_read_57, qX7_read_58, qX7_read_61, qX7_read_62, qX7_read_63, qX7_read_66, qX7_read_67, qX7_read_70, qX7_read_71, qX7_read_74, qX7_read_75, qX7_read_76, qX7_read_79, qX7_read_80, qX7_read_83, qX7_read_84, qX7_read_87, qX7_read_88, qX7_read_89, qX7_read_90, qX7_read_93, qX7_read_94, qX7_read_95, qX7_read_98, qX7_read_99, qX7_read_100, qX7_read_103, qX7_read_104, qX7_read_107, qX7_read_108, qX7_read_109, qX7_read_112, qX7_read_113, qX7_read_114]
  refine v_callV K (t_wrong hfl mr hn hnl) kX7_175 rfl mr.ko rfl (by decide) rfl (Nat.le_of_ble_eq_true rfl) rfl dX7_read_2 ⟨Nat.le_refl _, Nat.le_refl _⟩ (fun _ _ z => z.elim) ?_; rintro _ h2 ⟨rfl, t2⟩
  have mr := t2.1
  have t := wro_eq nl (nl + 1) 0 0 (fup S.1 14 (-1), S.2)
  have t : tEq (fup S.1 14 (-1), S.2) (wrg S nl).2 := t
  have e16 : (wrg S nl).2.1 16 = nI nr := by rw [t.2 16 (by omega)]; exact hJ.2.2.1
  have es2 : (wrg S nl).2.2 = S.2 := t.1
  have r12 := hJ.2.2.2.1
  have key : ∀ c1 c2 : Bool, c1 = decide ((wrg S nl).1 = -1) → c2 = decide (nr < 12) → V ((p, l9, e, R), (sz, mi, args, below), (meth, cx, D9, b9), (P, X, 0, 0)) h2 0 0 28 [some (.ref o)] [.int (b2i c2), .int (b2i c1), .ref o] := by
    intro c1 c2 h1 h2
    refine v_callV K (t_mayBoth hfl mr c1 c2) kX7_104 rfl mr.ko rfl (by decide) rfl (Nat.le_of_ble_eq_true rfl) rfl dX7_read_28 ⟨Nat.le_refl _, Nat.le_refl _⟩ (fun _ _ z => z.elim) ?_; rintro _ h3 ⟨rfl, t3⟩
    have mr := t3.1
    cases c1 with
    | false =>
      have em : m_read S n nr nc nl = (0, thr (wrg S nl).2 1) := by unfold m_read; rw [if_neg (of_decide_eq_false h1.symm)]
      rw [em] at hPe
      refine ry1_ok K FokX7 none noini [] 60 ?_
      simp only [ry1_s, ry_s, ry_0, hit, true_and, and_true, List.map_cons, List.map_nil, List.length_cons, List.length_nil, List.replicate, List.cons_append, List.nil_append, List.append_nil, List.length_append, List.set_cons_zero, List.set_cons_succ, lgt_0, lgt_s, lhas_0, lhas_s, isI_i, isRf_r, isRf_n, inc_i, of1, ofm1, rokI_i, rokI_0, rokI_1, rokI_b, okv_i, okv_z0, okv_z1, okv_or, okv_on, okv_ar, okv_b, isA_s, alen_s, cat_i, cat_r, cat_n, finC_s, hPe, rv, nar1, nar0,  b2i_0, oI_n, oI_s, d24, d168, d100, Int32.le_refl, vpT, nIc8, nIc12, nIc40, nIc200, hup_at, and_self, and_false, false_and, Nat.reduceEqDiff, Nat.reduceEqDiff, reduceCtorEq, ie_m1_0, il_m1_0, ie_m1_1, il_m1_1, ie_m1_2, il_m1_2, ie_m1_3, il_m1_3, ie_m1_4, ie_m1_5, ie_m1_6, ie_m1_7, ie_m1_8, ie_0_m1, il_0_0, ie_0_1, il_0_1, ie_0_2, il_0_2, ie_0_3, il_0_3, ie_0_4, ie_0_5, ie_0_6, ie_0_7, ie_0_8, ie_1_m1, ie_1_0, il_1_0, il_1_1, ie_1_2, il_1_2, ie_1_3, il_1_3, ie_1_4, ie_1_5, ie_1_6, ie_1_7, ie_1_8, ie_2_m1, ie_2_0, il_2_0, ie_2_1, il_2_1, il_2_2, ie_2_3, il_2_3, ie_2_4, ie_2_5, ie_2_6, ie_2_7, ie_2_8, ie_3_m1, ie_3_0, il_3_0, ie_3_1, il_3_1, ie_3_2, il_3_2, il_3_3, ie_3_4, ie_3_5, ie_3_6, ie_3_7, ie_3_8, ie_4_m1, ie_4_0, il_4_0, ie_4_1, il_4_1, ie_4_2, il_4_2, ie_4_3, il_4_3, ie_4_5, ie_4_6, ie_4_7, ie_4_8, ie_5_m1, ie_5_0, il_5_0, ie_5_1, il_5_1, ie_5_2, il_5_2, ie_5_3, il_5_3, ie_5_4, ie_5_6, ie_5_7, ie_5_8, ie_6_m1, ie_6_0, il_6_0, ie_6_1, il_6_1, ie_6_2, il_6_2, ie_6_3, il_6_3, ie_6_4, ie_6_5, ie_6_7, ie_6_8, ie_7_m1, ie_7_0, il_7_0, ie_7_1, il_7_1, ie_7_2, il_7_2, ie_7_3, il_7_3, ie_7_4, ie_7_5, ie_7_6, ie_7_8, ie_8_m1, ie_8_0, il_8_0, ie_8_1, il_8_1, ie_8_2, il_8_2, ie_8_3, il_8_3, ie_8_4, ie_8_5, ie_8_6, ie_8_7, Nat.reduceAdd, Nat.reduceSub, Nat.reduceLT, Nat.reduceLeDiff, Nat.reduceBEq, Bool.or_false, Bool.false_or, Bool.or_true, Bool.true_or, Bool.or_self, Bool.false_eq_true, ↓reduceIte, Nat.le_refl, Nat.zero_le, nI_p1, Option.toList, not_true_eq_false, not_false_eq_true, qX7_read_0, qX7_read_1, qX7_read_2, qX7_read_5, qX7_read_6, qX7_read_9, qX7_read_10, qX7_read_13, qX7_read_14, qX7_read_15, qX7_read_18, qX7_read_20, qX7_read_23, qX7_read_24, qX7_read_27, qX7_read_28, qX7_read_31, qX7_read_34, qX7_read_35, qX7_read_36, qX7_read_37, qX7_read_40, qX7_read_41, qX7_read_44, qX7_read_45, qX7_read_48, qX7_read_49, qX7_read_50, qX7_read_53, qX7_read_54, qX7_read_57, qX7_read_58, qX7_read_61, qX7_read_62, qX7_read_63, qX7_read_66, qX7_read_67, qX7_read_70, qX7_read_71, qX7_read_74, qX7_read_75, qX7_read_76, qX7_read_79, qX7_read_80, qX7_read_83, qX7_read_84, qX7_read_87, qX7_read_88, qX7_read_89, qX7_read_90, qX7_read_93, qX7_read_94, qX7_read_95, qX7_read_98, qX7_read_99, qX7_read_100, qX7_read_103, qX7_read_104, qX7_read_107, qX7_read_108, qX7_read_109, qX7_read_112, qX7_read_113, qX7_read_114, b2i_f, Bool.false_and]
      exact ⟨rfl, t2.tr t3⟩
    | true =>
      have q1 := of_decide_eq_true h1.symm
      cases c2 with
      | false =>
        have em : m_read S n nr nc nl = (0, thr (wrg S nl).2 2) := by unfold m_read; rw [if_pos q1, if_neg (of_decide_eq_false h2.symm)]
        rw [em] at hPe
        refine ry1_ok K FokX7 none noini [] 60 ?_
        simp only [ry1_s, ry_s, ry_0, hit, true_and, and_true, List.map_cons, List.map_nil, List.length_cons, List.length_nil, List.replicate, List.cons_append, List.nil_append, List.append_nil, List.length_append, List.set_cons_zero, List.set_cons_succ, lgt_0, lgt_s, lhas_0, lhas_s, isI_i, isRf_r, isRf_n, inc_i, of1, ofm1, rokI_i, rokI_0, rokI_1, rokI_b, okv_i, okv_z0, okv_z1, okv_or, okv_on, okv_ar, okv_b, isA_s, alen_s, cat_i, cat_r, cat_n, finC_s, hPe, rv, nar1, nar0,  b2i_0, oI_n, oI_s, d24, d168, d100, Int32.le_refl, vpT, nIc8, nIc12, nIc40, nIc200, hup_at, and_self, and_false, false_and, Nat.reduceEqDiff, Nat.reduceEqDiff, reduceCtorEq, ie_m1_0, il_m1_0, ie_m1_1, il_m1_1, ie_m1_2, il_m1_2, ie_m1_3, il_m1_3, ie_m1_4, ie_m1_5, ie_m1_6, ie_m1_7, ie_m1_8, ie_0_m1, il_0_0, ie_0_1, il_0_1, ie_0_2, il_0_2, ie_0_3, il_0_3, ie_0_4, ie_0_5, ie_0_6, ie_0_7, ie_0_8, ie_1_m1, ie_1_0, il_1_0, il_1_1, ie_1_2, il_1_2, ie_1_3, il_1_3, ie_1_4, ie_1_5, ie_1_6, ie_1_7, ie_1_8, ie_2_m1, ie_2_0, il_2_0, ie_2_1, il_2_1, il_2_2, ie_2_3, il_2_3, ie_2_4, ie_2_5, ie_2_6, ie_2_7, ie_2_8, ie_3_m1, ie_3_0, il_3_0, ie_3_1, il_3_1, ie_3_2, il_3_2, il_3_3, ie_3_4, ie_3_5, ie_3_6, ie_3_7, ie_3_8, ie_4_m1, ie_4_0, il_4_0, ie_4_1, il_4_1, ie_4_2, il_4_2, ie_4_3, il_4_3, ie_4_5, ie_4_6, ie_4_7, ie_4_8, ie_5_m1, ie_5_0, il_5_0, ie_5_1, il_5_1, ie_5_2, il_5_2, ie_5_3, il_5_3, ie_5_4, ie_5_6, ie_5_7, ie_5_8, ie_6_m1, ie_6_0, il_6_0, ie_6_1, il_6_1, ie_6_2, il_6_2, ie_6_3, il_6_3, ie_6_4, ie_6_5, ie_6_7, ie_6_8, ie_7_m1, ie_7_0, il_7_0, ie_7_1, il_7_1, ie_7_2, il_7_2, ie_7_3, il_7_3, ie_7_4, ie_7_5, ie_7_6, ie_7_8, ie_8_m1, ie_8_0, il_8_0, ie_8_1, il_8_1, ie_8_2, il_8_2, ie_8_3, il_8_3, ie_8_4, ie_8_5, ie_8_6, ie_8_7, Nat.reduceAdd, Nat.reduceSub, Nat.reduceLT, Nat.reduceLeDiff, Nat.reduceBEq, Bool.or_false, Bool.false_or, Bool.or_true, Bool.true_or, Bool.or_self, Bool.false_eq_true, ↓reduceIte, Nat.le_refl, Nat.zero_le, nI_p1, Option.toList, not_true_eq_false, not_false_eq_true, qX7_read_0, qX7_read_1, qX7_read_2, qX7_read_5, qX7_read_6, qX7_read_9, qX7_read_10, qX7_read_13, qX7_read_14, qX7_read_15, qX7_read_18, qX7_read_20, qX7_read_23, qX7_read_24, qX7_read_27, qX7_read_28, qX7_read_31, qX7_read_34, qX7_read_35, qX7_read_36, qX7_read_37, qX7_read_40, qX7_read_41, qX7_read_44, qX7_read_45, qX7_read_48, qX7_read_49, qX7_read_50, qX7_read_53, qX7_read_54, qX7_read_57, qX7_read_58, qX7_read_61, qX7_read_62, qX7_read_63, qX7_read_66, qX7_read_67, qX7_read_70, qX7_read_71, qX7_read_74, qX7_read_75, qX7_read_76, qX7_read_79, qX7_read_80, qX7_read_83, qX7_read_84, qX7_read_87, qX7_read_88, qX7_read_89, qX7_read_90, qX7_read_93, qX7_read_94, qX7_read_95, qX7_read_98, qX7_read_99, qX7_read_100, qX7_read_103, qX7_read_104, qX7_read_107, qX7_read_108, qX7_read_109, qX7_read_112, qX7_read_113, qX7_read_114, b2i_f, Bool.and_false]
        exact ⟨rfl, t2.tr t3⟩
      | true =>
        have q2 := of_decide_eq_true h2.symm
        have em : m_read S n nr nc nl = (nI nr, (jdg (m_rul (wrg S nl).2 nr) n (nr + 1) nc).1) := by unfold m_read; rw [if_pos q1, if_pos q2]
        rw [em] at hPe
        have t3 : MTo o ad (thr (wrg S nl).2 0) _ h3 := t3
        have mr := t3.1
        have f16 : fup (wrg S nl).2.1 34 0 16 = nI nr := e16
        have f12 : fup (wrg S nl).2.1 34 0 12 = (wrg S nl).2.1 12 := rfl
        have f13 : fup (wrg S nl).2.1 34 0 13 = (wrg S nl).2.1 13 := rfl
        have f14 : fup (wrg S nl).2.1 34 0 14 = (wrg S nl).2.1 14 := rfl
        have f15 : fup (wrg S nl).2.1 34 0 15 = (wrg S nl).2.1 15 := rfl
        refine ry1_ok K FokX7 none noini [] 60 ?_
        simp only [ry1_s, ry_s, ry_0, hit, true_and, and_true, List.map_cons, List.map_nil, List.length_cons, List.length_nil, List.replicate, List.cons_append, List.nil_append, List.append_nil, List.length_append, List.set_cons_zero, List.set_cons_succ, lgt_0, lgt_s, lhas_0, lhas_s, isI_i, isRf_r, isRf_n, inc_i, of1, ofm1, rokI_i, rokI_0, rokI_1, rokI_b, okv_i, okv_z0, okv_z1, okv_or, okv_on, okv_ar, okv_b, isA_s, alen_s, cat_i, cat_r, cat_n, finC_s, hPe, rv, nar1, nar0,  b2i_0, oI_n, oI_s, d24, d168, d100, Int32.le_refl, vpT, nIc8, nIc12, nIc40, nIc200, hup_at, and_self, and_false, false_and, Nat.reduceEqDiff, Nat.reduceEqDiff, reduceCtorEq, ie_m1_0, il_m1_0, ie_m1_1, il_m1_1, ie_m1_2, il_m1_2, ie_m1_3, il_m1_3, ie_m1_4, ie_m1_5, ie_m1_6, ie_m1_7, ie_m1_8, ie_0_m1, il_0_0, ie_0_1, il_0_1, ie_0_2, il_0_2, ie_0_3, il_0_3, ie_0_4, ie_0_5, ie_0_6, ie_0_7, ie_0_8, ie_1_m1, ie_1_0, il_1_0, il_1_1, ie_1_2, il_1_2, ie_1_3, il_1_3, ie_1_4, ie_1_5, ie_1_6, ie_1_7, ie_1_8, ie_2_m1, ie_2_0, il_2_0, ie_2_1, il_2_1, il_2_2, ie_2_3, il_2_3, ie_2_4, ie_2_5, ie_2_6, ie_2_7, ie_2_8, ie_3_m1, ie_3_0, il_3_0, ie_3_1, il_3_1, ie_3_2, il_3_2, il_3_3, ie_3_4, ie_3_5, ie_3_6, ie_3_7, ie_3_8, ie_4_m1, ie_4_0, il_4_0, ie_4_1, il_4_1, ie_4_2, il_4_2, ie_4_3, il_4_3, ie_4_5, ie_4_6, ie_4_7, ie_4_8, ie_5_m1, ie_5_0, il_5_0, ie_5_1, il_5_1, ie_5_2, il_5_2, ie_5_3, il_5_3, ie_5_4, ie_5_6, ie_5_7, ie_5_8, ie_6_m1, ie_6_0, il_6_0, ie_6_1, il_6_1, ie_6_2, il_6_2, ie_6_3, il_6_3, ie_6_4, ie_6_5, ie_6_7, ie_6_8, ie_7_m1, ie_7_0, il_7_0, ie_7_1, il_7_1, ie_7_2, il_7_2, ie_7_3, il_7_3, ie_7_4, ie_7_5, ie_7_6, ie_7_8, ie_8_m1, ie_8_0, il_8_0, ie_8_1, il_8_1, ie_8_2, il_8_2, ie_8_3, il_8_3, ie_8_4, ie_8_5, ie_8_6, ie_8_7, Nat.reduceAdd, Nat.reduceSub, Nat.reduceLT, Nat.reduceLeDiff, Nat.reduceBEq, Bool.or_false, Bool.false_or, Bool.or_true, Bool.true_or, Bool.or_self, Bool.false_eq_true, ↓reduceIte, Nat.le_refl, Nat.zero_le, nI_p1, Option.toList, not_true_eq_false, not_false_eq_true, qX7_read_0, qX7_read_1, qX7_read_2, qX7_read_5, qX7_read_6, qX7_read_9, qX7_read_10, qX7_read_13, qX7_read_14, qX7_read_15, qX7_read_18, qX7_read_20, qX7_read_23, qX7_read_24, qX7_read_27, qX7_read_28, qX7_read_31, qX7_read_34, qX7_read_35, qX7_read_36, qX7_read_37, qX7_read_40, qX7_read_41, qX7_read_44, qX7_read_45, qX7_read_48, qX7_read_49, qX7_read_50, qX7_read_53, qX7_read_54, qX7_read_57, qX7_read_58, qX7_read_61, qX7_read_62, qX7_read_63, qX7_read_66, qX7_read_67, qX7_read_70, qX7_read_71, qX7_read_74, qX7_read_75, qX7_read_76, qX7_read_79, qX7_read_80, qX7_read_83, qX7_read_84, qX7_read_87, qX7_read_88, qX7_read_89, qX7_read_90, qX7_read_93, qX7_read_94, qX7_read_95, qX7_read_98, qX7_read_99, qX7_read_100, qX7_read_103, qX7_read_104, qX7_read_107, qX7_read_108, qX7_read_109, qX7_read_112, qX7_read_113, qX7_read_114, b2i_t, Bool.and_self, mr.ko, mr.a17, mr.k17, mr.e17, mr.a18, mr.k18, mr.e18, mr.a19, mr.k19, mr.e19, mr.a20, mr.k20, mr.e20, mr.f12, mr.f13, mr.f14, mr.f15, mr.f16, f16, f12, f13, f14, f15, q2, mr.nn, mr.nn', mr.aa, mlen, Option.isSome_some]
        have t6 := ((((((t3.seta 17 nr ((wrg S nl).2.1 12) rfl).seta 18 nr ((wrg S nl).2.1 13) rfl).seta 19 nr ((wrg S nl).2.1 14) rfl).seta 20 nr ((wrg S nl).2.1 15) rfl).setf 16 (nI (nr + 1)) rfl).setf 10 0 rfl)
        have t6 : MTo o ad (m_rul (wrg S nl).2 nr) _ _ := t6
        have mr := t6.1
        refine v_callV K (t_judge hfl mr (hJ.rul hnl q2 q1) (hC.rul (nl := nl))) kX7_122 rfl mr.ko rfl (by decide) rfl (Nat.le_of_ble_eq_true rfl) rfl dX7_read_104 ⟨Nat.le_refl _, Nat.le_refl _⟩ (fun _ _ z => z.elim) ?_; rintro _ h5 ⟨rfl, t5⟩
        have mr := t5.1
        have jq := (jE_jdg (m_rul (wrg S nl).2 nr) n (nr + 1) nc).1 16 (by decide)
        have f16 : (m_rul (wrg S nl).2 nr).1 16 = nI (nr + 1) := rfl
        have e1 : nI (nr + 1) - 1 = nI nr := by rw [← nl1, nJ_sb (by omega)]; rfl
        refine ry1_ok K FokX7 none noini [] 60 ?_
        simp only [ry1_s, ry_s, ry_0, hit, true_and, and_true, List.map_cons, List.map_nil, List.length_cons, List.length_nil, List.replicate, List.cons_append, List.nil_append, List.append_nil, List.length_append, List.set_cons_zero, List.set_cons_succ, lgt_0, lgt_s, lhas_0, lhas_s, isI_i, isRf_r, isRf_n, inc_i, of1, ofm1, rokI_i, rokI_0, rokI_1, rokI_b, okv_i, okv_z0, okv_z1, okv_or, okv_on, okv_ar, okv_b, isA_s, alen_s, cat_i, cat_r, cat_n, finC_s, hPe, rv, nar1, nar0,  b2i_0, oI_n, oI_s, d24, d168, d100, Int32.le_refl, vpT, nIc8, nIc12, nIc40, nIc200, hup_at, and_self, and_false, false_and, Nat.reduceEqDiff, Nat.reduceEqDiff, reduceCtorEq, ie_m1_0, il_m1_0, ie_m1_1, il_m1_1, ie_m1_2, il_m1_2, ie_m1_3, il_m1_3, ie_m1_4, ie_m1_5, ie_m1_6, ie_m1_7, ie_m1_8, ie_0_m1, il_0_0, ie_0_1, il_0_1, ie_0_2, il_0_2, ie_0_3, il_0_3, ie_0_4, ie_0_5, ie_0_6, ie_0_7, ie_0_8, ie_1_m1, ie_1_0, il_1_0, il_1_1, ie_1_2, il_1_2, ie_1_3, il_1_3, ie_1_4, ie_1_5, ie_1_6, ie_1_7, ie_1_8, ie_2_m1, ie_2_0, il_2_0, ie_2_1, il_2_1, il_2_2, ie_2_3, il_2_3, ie_2_4, ie_2_5, ie_2_6, ie_2_7, ie_2_8, ie_3_m1, ie_3_0, il_3_0, ie_3_1, il_3_1, ie_3_2, il_3_2, il_3_3, ie_3_4, ie_3_5, ie_3_6, ie_3_7, ie_3_8, ie_4_m1, ie_4_0, il_4_0, ie_4_1, il_4_1, ie_4_2, il_4_2, ie_4_3, il_4_3, ie_4_5, ie_4_6, ie_4_7, ie_4_8, ie_5_m1, ie_5_0, il_5_0, ie_5_1, il_5_1, ie_5_2, il_5_2, ie_5_3, il_5_3, ie_5_4, ie_5_6, ie_5_7, ie_5_8, ie_6_m1, ie_6_0, il_6_0, ie_6_1, il_6_1, ie_6_2, il_6_2, ie_6_3, il_6_3, ie_6_4, ie_6_5, ie_6_7, ie_6_8, ie_7_m1, ie_7_0, il_7_0, ie_7_1, il_7_1, ie_7_2, il_7_2, ie_7_3, il_7_3, ie_7_4, ie_7_5, ie_7_6, ie_7_8, ie_8_m1, ie_8_0, il_8_0, ie_8_1, il_8_1, ie_8_2, il_8_2, ie_8_3, il_8_3, ie_8_4, ie_8_5, ie_8_6, ie_8_7, Nat.reduceAdd, Nat.reduceSub, Nat.reduceLT, Nat.reduceLeDiff, Nat.reduceBEq, Bool.or_false, Bool.false_or, Bool.or_true, Bool.true_or, Bool.or_self, Bool.false_eq_true, ↓reduceIte, Nat.le_refl, Nat.zero_le, nI_p1, Option.toList, not_true_eq_false, not_false_eq_true, qX7_read_0, qX7_read_1, qX7_read_2, qX7_read_5, qX7_read_6, qX7_read_9, qX7_read_10, qX7_read_13, qX7_read_14, qX7_read_15, qX7_read_18, qX7_read_20, qX7_read_23, qX7_read_24, qX7_read_27, qX7_read_28, qX7_read_31, qX7_read_34, qX7_read_35, qX7_read_36, qX7_read_37, qX7_read_40, qX7_read_41, qX7_read_44, qX7_read_45, qX7_read_48, qX7_read_49, qX7_read_50, qX7_read_53, qX7_read_54, qX7_read_57, qX7_read_58, qX7_read_61, qX7_read_62, qX7_read_63, qX7_read_66, qX7_read_67, qX7_read_70, qX7_read_71, qX7_read_74, qX7_read_75, qX7_read_76, qX7_read_79, qX7_read_80, qX7_read_83, qX7_read_84, qX7_read_87, qX7_read_88, qX7_read_89, qX7_read_90, qX7_read_93, qX7_read_94, qX7_read_95, qX7_read_98, qX7_read_99, qX7_read_100, qX7_read_103, qX7_read_104, qX7_read_107, qX7_read_108, qX7_read_109, qX7_read_112, qX7_read_113, qX7_read_114, mr.ko, mr.f16, jq, f16, e1]
        exact ⟨rfl, (t2.tr t6).tr t5⟩
  have k16 : h2.2 o 16 = .int (nI nr) := by rw [mr.f16, e16]
  have e12 : (12 ≤ nr) = ¬ nr < 12 := propext ⟨fun a => by omega, fun a => by omega⟩
  have e122 : ((12 : Int32) ≤ nI nr) = (12 ≤ nr) := nJ_le (a := 12) (by omega) (by omega)
  by_cases q1 : (wrg S nl).1 = -1
  · by_cases q2 : nr < 12
    · refine ry1_ok K FokX7 none noini [28] 60 ?_
      simp only [ry1_s, ry_s, ry_0, hit, true_and, and_true, List.map_cons, List.map_nil, List.length_cons, List.length_nil, List.replicate, List.cons_append, List.nil_append, List.append_nil, List.length_append, List.set_cons_zero, List.set_cons_succ, lgt_0, lgt_s, lhas_0, lhas_s, isI_i, isRf_r, isRf_n, inc_i, of1, ofm1, rokI_i, rokI_0, rokI_1, rokI_b, okv_i, okv_z0, okv_z1, okv_or, okv_on, okv_ar, okv_b, isA_s, alen_s, cat_i, cat_r, cat_n, finC_s, hPe, rv, nar1, nar0,  b2i_0, oI_n, oI_s, d24, d168, d100, Int32.le_refl, vpT, nIc8, nIc12, nIc40, nIc200, hup_at, and_self, and_false, false_and, Nat.reduceEqDiff, Nat.reduceEqDiff, reduceCtorEq, ie_m1_0, il_m1_0, ie_m1_1, il_m1_1, ie_m1_2, il_m1_2, ie_m1_3, il_m1_3, ie_m1_4, ie_m1_5, ie_m1_6, ie_m1_7, ie_m1_8, ie_0_m1, il_0_0, ie_0_1, il_0_1, ie_0_2, il_0_2, ie_0_3, il_0_3, ie_0_4, ie_0_5, ie_0_6, ie_0_7, ie_0_8, ie_1_m1, ie_1_0, il_1_0, il_1_1, ie_1_2, il_1_2, ie_1_3, il_1_3, ie_1_4, ie_1_5, ie_1_6, ie_1_7, ie_1_8, ie_2_m1, ie_2_0, il_2_0, ie_2_1, il_2_1, il_2_2, ie_2_3, il_2_3, ie_2_4, ie_2_5, ie_2_6, ie_2_7, ie_2_8, ie_3_m1, ie_3_0, il_3_0, ie_3_1, il_3_1, ie_3_2, il_3_2, il_3_3, ie_3_4, ie_3_5, ie_3_6, ie_3_7, ie_3_8, ie_4_m1, ie_4_0, il_4_0, ie_4_1, il_4_1, ie_4_2, il_4_2, ie_4_3, il_4_3, ie_4_5, ie_4_6, ie_4_7, ie_4_8, ie_5_m1, ie_5_0, il_5_0, ie_5_1, il_5_1, ie_5_2, il_5_2, ie_5_3, il_5_3, ie_5_4, ie_5_6, ie_5_7, ie_5_8, ie_6_m1, ie_6_0, il_6_0, ie_6_1, il_6_1, ie_6_2, il_6_2, ie_6_3, il_6_3, ie_6_4, ie_6_5, ie_6_7, ie_6_8, ie_7_m1, ie_7_0, il_7_0, ie_7_1, il_7_1, ie_7_2, il_7_2, ie_7_3, il_7_3, ie_7_4, ie_7_5, ie_7_6, ie_7_8, ie_8_m1, ie_8_0, il_8_0, ie_8_1, il_8_1, ie_8_2, il_8_2, ie_8_3, il_8_3, ie_8_4, ie_8_5, ie_8_6, ie_8_7, Nat.reduceAdd, Nat.reduceSub, Nat.reduceLT, Nat.reduceLeDiff, Nat.reduceBEq, Bool.or_false, Bool.false_or, Bool.or_true, Bool.true_or, Bool.or_self, Bool.false_eq_true, ↓reduceIte, Nat.le_refl, Nat.zero_le, nI_p1, Option.toList, not_true_eq_false, not_false_eq_true, qX7_read_0, qX7_read_1, qX7_read_2, qX7_read_5, qX7_read_6, qX7_read_9, qX7_read_10, qX7_read_13, qX7_read_14, qX7_read_15, qX7_read_18, qX7_read_20, qX7_read_23, qX7_read_24, qX7_read_27, qX7_read_28, qX7_read_31, qX7_read_34, qX7_read_35, qX7_read_36, qX7_read_37, qX7_read_40, qX7_read_41, qX7_read_44, qX7_read_45, qX7_read_48, qX7_read_49, qX7_read_50, qX7_read_53, qX7_read_54, qX7_read_57, qX7_read_58, qX7_read_61, qX7_read_62, qX7_read_63, qX7_read_66, qX7_read_67, qX7_read_70, qX7_read_71, qX7_read_74, qX7_read_75, qX7_read_76, qX7_read_79, qX7_read_80, qX7_read_83, qX7_read_84, qX7_read_87, qX7_read_88, qX7_read_89, qX7_read_90, qX7_read_93, qX7_read_94, qX7_read_95, qX7_read_98, qX7_read_99, qX7_read_100, qX7_read_103, qX7_read_104, qX7_read_107, qX7_read_108, qX7_read_109, qX7_read_112, qX7_read_113, qX7_read_114, q1, mr.ko, k16, e122, e12, q2]
      exact key true true (by simp [q1]) (by simp [q2])
    · refine ry1_ok K FokX7 none noini [28] 60 ?_
      simp only [ry1_s, ry_s, ry_0, hit, true_and, and_true, List.map_cons, List.map_nil, List.length_cons, List.length_nil, List.replicate, List.cons_append, List.nil_append, List.append_nil, List.length_append, List.set_cons_zero, List.set_cons_succ, lgt_0, lgt_s, lhas_0, lhas_s, isI_i, isRf_r, isRf_n, inc_i, of1, ofm1, rokI_i, rokI_0, rokI_1, rokI_b, okv_i, okv_z0, okv_z1, okv_or, okv_on, okv_ar, okv_b, isA_s, alen_s, cat_i, cat_r, cat_n, finC_s, hPe, rv, nar1, nar0,  b2i_0, oI_n, oI_s, d24, d168, d100, Int32.le_refl, vpT, nIc8, nIc12, nIc40, nIc200, hup_at, and_self, and_false, false_and, Nat.reduceEqDiff, Nat.reduceEqDiff, reduceCtorEq, ie_m1_0, il_m1_0, ie_m1_1, il_m1_1, ie_m1_2, il_m1_2, ie_m1_3, il_m1_3, ie_m1_4, ie_m1_5, ie_m1_6, ie_m1_7, ie_m1_8, ie_0_m1, il_0_0, ie_0_1, il_0_1, ie_0_2, il_0_2, ie_0_3, il_0_3, ie_0_4, ie_0_5, ie_0_6, ie_0_7, ie_0_8, ie_1_m1, ie_1_0, il_1_0, il_1_1, ie_1_2, il_1_2, ie_1_3, il_1_3, ie_1_4, ie_1_5, ie_1_6, ie_1_7, ie_1_8, ie_2_m1, ie_2_0, il_2_0, ie_2_1, il_2_1, il_2_2, ie_2_3, il_2_3, ie_2_4, ie_2_5, ie_2_6, ie_2_7, ie_2_8, ie_3_m1, ie_3_0, il_3_0, ie_3_1, il_3_1, ie_3_2, il_3_2, il_3_3, ie_3_4, ie_3_5, ie_3_6, ie_3_7, ie_3_8, ie_4_m1, ie_4_0, il_4_0, ie_4_1, il_4_1, ie_4_2, il_4_2, ie_4_3, il_4_3, ie_4_5, ie_4_6, ie_4_7, ie_4_8, ie_5_m1, ie_5_0, il_5_0, ie_5_1, il_5_1, ie_5_2, il_5_2, ie_5_3, il_5_3, ie_5_4, ie_5_6, ie_5_7, ie_5_8, ie_6_m1, ie_6_0, il_6_0, ie_6_1, il_6_1, ie_6_2, il_6_2, ie_6_3, il_6_3, ie_6_4, ie_6_5, ie_6_7, ie_6_8, ie_7_m1, ie_7_0, il_7_0, ie_7_1, il_7_1, ie_7_2, il_7_2, ie_7_3, il_7_3, ie_7_4, ie_7_5, ie_7_6, ie_7_8, ie_8_m1, ie_8_0, il_8_0, ie_8_1, il_8_1, ie_8_2, il_8_2, ie_8_3, il_8_3, ie_8_4, ie_8_5, ie_8_6, ie_8_7, Nat.reduceAdd, Nat.reduceSub, Nat.reduceLT, Nat.reduceLeDiff, Nat.reduceBEq, Bool.or_false, Bool.false_or, Bool.or_true, Bool.true_or, Bool.or_self, Bool.false_eq_true, ↓reduceIte, Nat.le_refl, Nat.zero_le, nI_p1, Option.toList, not_true_eq_false, not_false_eq_true, qX7_read_0, qX7_read_1, qX7_read_2, qX7_read_5, qX7_read_6, qX7_read_9, qX7_read_10, qX7_read_13, qX7_read_14, qX7_read_15, qX7_read_18, qX7_read_20, qX7_read_23, qX7_read_24, qX7_read_27, qX7_read_28, qX7_read_31, qX7_read_34, qX7_read_35, qX7_read_36, qX7_read_37, qX7_read_40, qX7_read_41, qX7_read_44, qX7_read_45, qX7_read_48, qX7_read_49, qX7_read_50, qX7_read_53, qX7_read_54, qX7_read_57, qX7_read_58, qX7_read_61, qX7_read_62, qX7_read_63, qX7_read_66, qX7_read_67, qX7_read_70, qX7_read_71, qX7_read_74, qX7_read_75, qX7_read_76, qX7_read_79, qX7_read_80, qX7_read_83, qX7_read_84, qX7_read_87, qX7_read_88, qX7_read_89, qX7_read_90, qX7_read_93, qX7_read_94, qX7_read_95, qX7_read_98, qX7_read_99, qX7_read_100, qX7_read_103, qX7_read_104, qX7_read_107, qX7_read_108, qX7_read_109, qX7_read_112, qX7_read_113, qX7_read_114, q1, mr.ko, k16, e122, e12, q2]
      exact key true false (by simp [q1]) (by simp [q2])
  · by_cases q2 : nr < 12
    · refine ry1_ok K FokX7 none noini [28] 60 ?_
      simp only [ry1_s, ry_s, ry_0, hit, true_and, and_true, List.map_cons, List.map_nil, List.length_cons, List.length_nil, List.replicate, List.cons_append, List.nil_append, List.append_nil, List.length_append, List.set_cons_zero, List.set_cons_succ, lgt_0, lgt_s, lhas_0, lhas_s, isI_i, isRf_r, isRf_n, inc_i, of1, ofm1, rokI_i, rokI_0, rokI_1, rokI_b, okv_i, okv_z0, okv_z1, okv_or, okv_on, okv_ar, okv_b, isA_s, alen_s, cat_i, cat_r, cat_n, finC_s, hPe, rv, nar1, nar0,  b2i_0, oI_n, oI_s, d24, d168, d100, Int32.le_refl, vpT, nIc8, nIc12, nIc40, nIc200, hup_at, and_self, and_false, false_and, Nat.reduceEqDiff, Nat.reduceEqDiff, reduceCtorEq, ie_m1_0, il_m1_0, ie_m1_1, il_m1_1, ie_m1_2, il_m1_2, ie_m1_3, il_m1_3, ie_m1_4, ie_m1_5, ie_m1_6, ie_m1_7, ie_m1_8, ie_0_m1, il_0_0, ie_0_1, il_0_1, ie_0_2, il_0_2, ie_0_3, il_0_3, ie_0_4, ie_0_5, ie_0_6, ie_0_7, ie_0_8, ie_1_m1, ie_1_0, il_1_0, il_1_1, ie_1_2, il_1_2, ie_1_3, il_1_3, ie_1_4, ie_1_5, ie_1_6, ie_1_7, ie_1_8, ie_2_m1, ie_2_0, il_2_0, ie_2_1, il_2_1, il_2_2, ie_2_3, il_2_3, ie_2_4, ie_2_5, ie_2_6, ie_2_7, ie_2_8, ie_3_m1, ie_3_0, il_3_0, ie_3_1, il_3_1, ie_3_2, il_3_2, il_3_3, ie_3_4, ie_3_5, ie_3_6, ie_3_7, ie_3_8, ie_4_m1, ie_4_0, il_4_0, ie_4_1, il_4_1, ie_4_2, il_4_2, ie_4_3, il_4_3, ie_4_5, ie_4_6, ie_4_7, ie_4_8, ie_5_m1, ie_5_0, il_5_0, ie_5_1, il_5_1, ie_5_2, il_5_2, ie_5_3, il_5_3, ie_5_4, ie_5_6, ie_5_7, ie_5_8, ie_6_m1, ie_6_0, il_6_0, ie_6_1, il_6_1, ie_6_2, il_6_2, ie_6_3, il_6_3, ie_6_4, ie_6_5, ie_6_7, ie_6_8, ie_7_m1, ie_7_0, il_7_0, ie_7_1, il_7_1, ie_7_2, il_7_2, ie_7_3, il_7_3, ie_7_4, ie_7_5, ie_7_6, ie_7_8, ie_8_m1, ie_8_0, il_8_0, ie_8_1, il_8_1, ie_8_2, il_8_2, ie_8_3, il_8_3, ie_8_4, ie_8_5, ie_8_6, ie_8_7, Nat.reduceAdd, Nat.reduceSub, Nat.reduceLT, Nat.reduceLeDiff, Nat.reduceBEq, Bool.or_false, Bool.false_or, Bool.or_true, Bool.true_or, Bool.or_self, Bool.false_eq_true, ↓reduceIte, Nat.le_refl, Nat.zero_le, nI_p1, Option.toList, not_true_eq_false, not_false_eq_true, qX7_read_0, qX7_read_1, qX7_read_2, qX7_read_5, qX7_read_6, qX7_read_9, qX7_read_10, qX7_read_13, qX7_read_14, qX7_read_15, qX7_read_18, qX7_read_20, qX7_read_23, qX7_read_24, qX7_read_27, qX7_read_28, qX7_read_31, qX7_read_34, qX7_read_35, qX7_read_36, qX7_read_37, qX7_read_40, qX7_read_41, qX7_read_44, qX7_read_45, qX7_read_48, qX7_read_49, qX7_read_50, qX7_read_53, qX7_read_54, qX7_read_57, qX7_read_58, qX7_read_61, qX7_read_62, qX7_read_63, qX7_read_66, qX7_read_67, qX7_read_70, qX7_read_71, qX7_read_74, qX7_read_75, qX7_read_76, qX7_read_79, qX7_read_80, qX7_read_83, qX7_read_84, qX7_read_87, qX7_read_88, qX7_read_89, qX7_read_90, qX7_read_93, qX7_read_94, qX7_read_95, qX7_read_98, qX7_read_99, qX7_read_100, qX7_read_103, qX7_read_104, qX7_read_107, qX7_read_108, qX7_read_109, qX7_read_112, qX7_read_113, qX7_read_114, q1, mr.ko, k16, e122, e12, q2]
      exact key false true (by simp [q1]) (by simp [q2])
    · refine ry1_ok K FokX7 none noini [28] 60 ?_
      simp only [ry1_s, ry_s, ry_0, hit, true_and, and_true, List.map_cons, List.map_nil, List.length_cons, List.length_nil, List.replicate, List.cons_append, List.nil_append, List.append_nil, List.length_append, List.set_cons_zero, List.set_cons_succ, lgt_0, lgt_s, lhas_0, lhas_s, isI_i, isRf_r, isRf_n, inc_i, of1, ofm1, rokI_i, rokI_0, rokI_1, rokI_b, okv_i, okv_z0, okv_z1, okv_or, okv_on, okv_ar, okv_b, isA_s, alen_s, cat_i, cat_r, cat_n, finC_s, hPe, rv, nar1, nar0,  b2i_0, oI_n, oI_s, d24, d168, d100, Int32.le_refl, vpT, nIc8, nIc12, nIc40, nIc200, hup_at, and_self, and_false, false_and, Nat.reduceEqDiff, Nat.reduceEqDiff, reduceCtorEq, ie_m1_0, il_m1_0, ie_m1_1, il_m1_1, ie_m1_2, il_m1_2, ie_m1_3, il_m1_3, ie_m1_4, ie_m1_5, ie_m1_6, ie_m1_7, ie_m1_8, ie_0_m1, il_0_0, ie_0_1, il_0_1, ie_0_2, il_0_2, ie_0_3, il_0_3, ie_0_4, ie_0_5, ie_0_6, ie_0_7, ie_0_8, ie_1_m1, ie_1_0, il_1_0, il_1_1, ie_1_2, il_1_2, ie_1_3, il_1_3, ie_1_4, ie_1_5, ie_1_6, ie_1_7, ie_1_8, ie_2_m1, ie_2_0, il_2_0, ie_2_1, il_2_1, il_2_2, ie_2_3, il_2_3, ie_2_4, ie_2_5, ie_2_6, ie_2_7, ie_2_8, ie_3_m1, ie_3_0, il_3_0, ie_3_1, il_3_1, ie_3_2, il_3_2, il_3_3, ie_3_4, ie_3_5, ie_3_6, ie_3_7, ie_3_8, ie_4_m1, ie_4_0, il_4_0, ie_4_1, il_4_1, ie_4_2, il_4_2, ie_4_3, il_4_3, ie_4_5, ie_4_6, ie_4_7, ie_4_8, ie_5_m1, ie_5_0, il_5_0, ie_5_1, il_5_1, ie_5_2, il_5_2, ie_5_3, il_5_3, ie_5_4, ie_5_6, ie_5_7, ie_5_8, ie_6_m1, ie_6_0, il_6_0, ie_6_1, il_6_1, ie_6_2, il_6_2, ie_6_3, il_6_3, ie_6_4, ie_6_5, ie_6_7, ie_6_8, ie_7_m1, ie_7_0, il_7_0, ie_7_1, il_7_1, ie_7_2, il_7_2, ie_7_3, il_7_3, ie_7_4, ie_7_5, ie_7_6, ie_7_8, ie_8_m1, ie_8_0, il_8_0, ie_8_1, il_8_1, ie_8_2, il_8_2, ie_8_3, il_8_3, ie_8_4, ie_8_5, ie_8_6, ie_8_7, Nat.reduceAdd, Nat.reduceSub, Nat.reduceLT, Nat.reduceLeDiff, Nat.reduceBEq, Bool.or_false, Bool.false_or, Bool.or_true, Bool.true_or, Bool.or_self, Bool.false_eq_true, ↓reduceIte, Nat.le_refl, Nat.zero_le, nI_p1, Option.toList, not_true_eq_false, not_false_eq_true, qX7_read_0, qX7_read_1, qX7_read_2, qX7_read_5, qX7_read_6, qX7_read_9, qX7_read_10, qX7_read_13, qX7_read_14, qX7_read_15, qX7_read_18, qX7_read_20, qX7_read_23, qX7_read_24, qX7_read_27, qX7_read_28, qX7_read_31, qX7_read_34, qX7_read_35, qX7_read_36, qX7_read_37, qX7_read_40, qX7_read_41, qX7_read_44, qX7_read_45, qX7_read_48, qX7_read_49, qX7_read_50, qX7_read_53, qX7_read_54, qX7_read_57, qX7_read_58, qX7_read_61, qX7_read_62, qX7_read_63, qX7_read_66, qX7_read_67, qX7_read_70, qX7_read_71, qX7_read_74, qX7_read_75, qX7_read_76, qX7_read_79, qX7_read_80, qX7_read_83, qX7_read_84, qX7_read_87, qX7_read_88, qX7_read_89, qX7_read_90, qX7_read_93, qX7_read_94, qX7_read_95, qX7_read_98, qX7_read_99, qX7_read_100, qX7_read_103, qX7_read_104, qX7_read_107, qX7_read_108, qX7_read_109, qX7_read_112, qX7_read_113, qX7_read_114, q1, mr.ko, k16, e122, e12, q2]
      exact key false false (by simp [q1]) (by simp [q2])
end M19
