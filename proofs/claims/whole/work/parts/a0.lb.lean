theorem x_nI (x : Int32) : x = nI x.toBitVec.toNat := by
  apply Int32.toBitVec_inj.1
  show x.toBitVec = BitVec.ofNat 32 x.toBitVec.toNat
  simp
theorem and_nI (a b : Nat) : nI a &&& nI b = nI (a &&& b) := by
  apply Int32.toBitVec_inj.1
  show BitVec.ofNat 32 a &&& BitVec.ofNat 32 b = BitVec.ofNat 32 (a &&& b)
  apply BitVec.eq_of_getLsbD_eq
  intro i hi
  simp [hi]
theorem and31 (x : Int32) : ∃ k, k < 32 ∧ x &&& 31 = nI k := by
  refine ⟨x.toBitVec.toNat % 32, Nat.mod_lt _ (by omega), ?_⟩
  have h : x &&& 31 = nI x.toBitVec.toNat &&& nI 31 := by rw [← x_nI x]; rfl
  rw [h, and_nI, show (31 : Nat) = 2 ^ 5 - 1 from rfl, Nat.and_two_pow_sub_one_eq_mod]
theorem ge_lt {n t : Nat} (hn : n ≤ 2048) (ht : t < 2048) : (nI n - 4 < nI t) = (n < t + 4) := by
  by_cases h : 4 ≤ n
  · rw [show (4 : Int32) = nI 4 from rfl, nJ_sb h, nJ_lt (by omega) (by omega)]
    exact propext ⟨fun _ => by omega, fun _ => by omega⟩
  · have h1 : nI n - 4 < nI t := by
      have h2 : nI n - 4 < 0 := by
        rcases (show n = 0 ∨ n = 1 ∨ n = 2 ∨ n = 3 by omega) with rfl | rfl | rfl | rfl <;> decide
      exact Int32.lt_of_lt_of_le h2 (nI_pos' (by omega))
    exact propext ⟨fun _ => by omega, fun _ => h1⟩
section LOOP
variable {p : Program} {l : Launch} {e : Env} {R : Room} {s : State} {m : MethodId} {args : Array Value} {below : List Frame} {meth : Method} {c : Code} {D : Dg} {b : Nat} {P : Option Value → Hp → Prop} {X : String → Hp → Prop}
variable {nm : String} {tb : List ExceptionTableEntry} {b9 n9 o q a0 : Nat} {xs : Nat → Int32} {am : Nat → Nat}
theorem lw_loop (hfl : l.flags = flags0) (K : Ok ((p, l, e, R), (s, m, args, below), (meth, c, D, b), (P, X, 601024, 7293034)) RL cL_law 7 (some .boolean) nm 12 tb) (hX : va_X b9 n9 xs s s.heap) (hbl : b9 < s.heap.size) (hbA : ¬ b ≤ b9) (hn9 : n9 ≤ 2048) (hP1 : ∀ h, P (some (.int 1)) h) : ∀ j t, t + j = 513 → 4 * t ≤ n9 + 3 → ∀ h, LWd o am q a0 h → ∀ L5 L6, V ((p, l, e, R), (s, m, args, below), (meth, c, D, b), (P, X, 601024, 7293034)) h (63 + 490 * t) (3048 + 2950 * t) 23 [some (.ref b9), some (.ref a0), some (.ref o), some (.ref q), some (.int (nI (4 * t))), L5, L6] [] := by
  intro j
  induction j with
  | zero => intro t h1 h2; omega
  | succ j ih =>
    intro t h1 h2 h lw L5 L6
    have hlt := ge_lt (n := n9) (t := 4 * t) hn9
    refine ry1_ok K FokL none noini [26] 60 ?_
    simp only [ry1_s, ry_s, ry_0, hit, true_and, and_true, List.map_cons, List.map_nil, List.length_cons, List.length_nil, List.replicate, List.cons_append, List.nil_append, List.append_nil, List.length_append, List.set_cons_zero, List.set_cons_succ, lgt_0, lgt_s, lhas_0, lhas_s, isI_i, isRf_r, isRf_n, inc_i, of1, ofm1, rokI_i, rokI_0, rokI_1, rokI_b, okv_i, okv_z0, okv_z1, okv_or, okv_on, okv_ar, okv_b, isA_s, alen_s, cat_i, cat_r, cat_n, finC_s, rv, nar1, nar0,  b2i_0, oI_n, oI_s, d24, d168, d100, Int32.le_refl, vpT, nIc8, nIc12, nIc40, nIc200, hup_at, and_self, and_false, false_and, Nat.reduceEqDiff, Nat.reduceEqDiff, reduceCtorEq, ie_m1_0, il_m1_0, ie_m1_1, il_m1_1, ie_m1_2, il_m1_2, ie_m1_3, il_m1_3, ie_m1_4, ie_m1_5, ie_m1_6, ie_m1_7, ie_m1_8, ie_0_m1, il_0_0, ie_0_1, il_0_1, ie_0_2, il_0_2, ie_0_3, il_0_3, ie_0_4, ie_0_5, ie_0_6, ie_0_7, ie_0_8, ie_1_m1, ie_1_0, il_1_0, il_1_1, ie_1_2, il_1_2, ie_1_3, il_1_3, ie_1_4, ie_1_5, ie_1_6, ie_1_7, ie_1_8, ie_2_m1, ie_2_0, il_2_0, ie_2_1, il_2_1, il_2_2, ie_2_3, il_2_3, ie_2_4, ie_2_5, ie_2_6, ie_2_7, ie_2_8, ie_3_m1, ie_3_0, il_3_0, ie_3_1, il_3_1, ie_3_2, il_3_2, il_3_3, ie_3_4, ie_3_5, ie_3_6, ie_3_7, ie_3_8, ie_4_m1, ie_4_0, il_4_0, ie_4_1, il_4_1, ie_4_2, il_4_2, ie_4_3, il_4_3, ie_4_5, ie_4_6, ie_4_7, ie_4_8, ie_5_m1, ie_5_0, il_5_0, ie_5_1, il_5_1, ie_5_2, il_5_2, ie_5_3, il_5_3, ie_5_4, ie_5_6, ie_5_7, ie_5_8, ie_6_m1, ie_6_0, il_6_0, ie_6_1, il_6_1, ie_6_2, il_6_2, ie_6_3, il_6_3, ie_6_4, ie_6_5, ie_6_7, ie_6_8, ie_7_m1, ie_7_0, il_7_0, ie_7_1, il_7_1, ie_7_2, il_7_2, ie_7_3, il_7_3, ie_7_4, ie_7_5, ie_7_6, ie_7_8, ie_8_m1, ie_8_0, il_8_0, ie_8_1, il_8_1, ie_8_2, il_8_2, ie_8_3, il_8_3, ie_8_4, ie_8_5, ie_8_6, ie_8_7, Nat.reduceAdd, Nat.reduceSub, Nat.reduceLT, Nat.reduceLeDiff, Nat.reduceBEq, Bool.or_false, Bool.false_or, Bool.or_true, Bool.true_or, Bool.or_self, Bool.false_eq_true, ↓reduceIte, Nat.le_refl, Nat.zero_le, nI_p1, Option.toList, not_true_eq_false, not_false_eq_true, isRf_o, isR_o, isR_a, cat_o, okv_fo, okv_fa, orf_s, orf_n, both_t, both_f, rfn_n, rfn_s, eq_self, forall_const, qL_law_0, qL_law_3, qL_law_4, qL_law_7r, qL_law_7n, qL_law_8, qL_law_11, qL_law_12, qL_law_15r, qL_law_15n, qL_law_16, qL_law_17, qL_law_19r, qL_law_19n, qL_law_20, qL_law_21, qL_law_23, qL_law_25, qL_law_26, qL_law_27, qL_law_28, qL_law_29, qL_law_32, qL_law_33, qL_law_35, qL_law_36, qL_law_38, qL_law_39, qL_law_1629, qL_law_1632, qL_law_1635, qL_law_1636]
    refine v_slenA K hX hbl hbA dL_law_26 ?_
    by_cases hx : n9 < 4 * t + 4
    · have hlt9 : nI n9 - 4 < nI (4 * t) := by
        by_cases h5 : 4 * t < 2048
        · rw [hlt h5]; exact hx
        · have e4 : nI n9 - 4 = nI (n9 - 4) := by rw [show (4 : Int32) = nI 4 from rfl, nJ_sb (by omega)]
          rw [e4, nI_ltI (by omega) (by omega)]
          omega
      refine ry1_ok K FokL none noini [] 60 ?_
      simp only [ry1_s, ry_s, ry_0, hit, true_and, and_true, List.map_cons, List.map_nil, List.length_cons, List.length_nil, List.replicate, List.cons_append, List.nil_append, List.append_nil, List.length_append, List.set_cons_zero, List.set_cons_succ, lgt_0, lgt_s, lhas_0, lhas_s, isI_i, isRf_r, isRf_n, inc_i, of1, ofm1, rokI_i, rokI_0, rokI_1, rokI_b, okv_i, okv_z0, okv_z1, okv_or, okv_on, okv_ar, okv_b, isA_s, alen_s, cat_i, cat_r, cat_n, finC_s, rv, nar1, nar0,  b2i_0, oI_n, oI_s, d24, d168, d100, Int32.le_refl, vpT, nIc8, nIc12, nIc40, nIc200, hup_at, and_self, and_false, false_and, Nat.reduceEqDiff, Nat.reduceEqDiff, reduceCtorEq, ie_m1_0, il_m1_0, ie_m1_1, il_m1_1, ie_m1_2, il_m1_2, ie_m1_3, il_m1_3, ie_m1_4, ie_m1_5, ie_m1_6, ie_m1_7, ie_m1_8, ie_0_m1, il_0_0, ie_0_1, il_0_1, ie_0_2, il_0_2, ie_0_3, il_0_3, ie_0_4, ie_0_5, ie_0_6, ie_0_7, ie_0_8, ie_1_m1, ie_1_0, il_1_0, il_1_1, ie_1_2, il_1_2, ie_1_3, il_1_3, ie_1_4, ie_1_5, ie_1_6, ie_1_7, ie_1_8, ie_2_m1, ie_2_0, il_2_0, ie_2_1, il_2_1, il_2_2, ie_2_3, il_2_3, ie_2_4, ie_2_5, ie_2_6, ie_2_7, ie_2_8, ie_3_m1, ie_3_0, il_3_0, ie_3_1, il_3_1, ie_3_2, il_3_2, il_3_3, ie_3_4, ie_3_5, ie_3_6, ie_3_7, ie_3_8, ie_4_m1, ie_4_0, il_4_0, ie_4_1, il_4_1, ie_4_2, il_4_2, ie_4_3, il_4_3, ie_4_5, ie_4_6, ie_4_7, ie_4_8, ie_5_m1, ie_5_0, il_5_0, ie_5_1, il_5_1, ie_5_2, il_5_2, ie_5_3, il_5_3, ie_5_4, ie_5_6, ie_5_7, ie_5_8, ie_6_m1, ie_6_0, il_6_0, ie_6_1, il_6_1, ie_6_2, il_6_2, ie_6_3, il_6_3, ie_6_4, ie_6_5, ie_6_7, ie_6_8, ie_7_m1, ie_7_0, il_7_0, ie_7_1, il_7_1, ie_7_2, il_7_2, ie_7_3, il_7_3, ie_7_4, ie_7_5, ie_7_6, ie_7_8, ie_8_m1, ie_8_0, il_8_0, ie_8_1, il_8_1, ie_8_2, il_8_2, ie_8_3, il_8_3, ie_8_4, ie_8_5, ie_8_6, ie_8_7, Nat.reduceAdd, Nat.reduceSub, Nat.reduceLT, Nat.reduceLeDiff, Nat.reduceBEq, Bool.or_false, Bool.false_or, Bool.or_true, Bool.true_or, Bool.or_self, Bool.false_eq_true, ↓reduceIte, Nat.le_refl, Nat.zero_le, nI_p1, Option.toList, not_true_eq_false, not_false_eq_true, isRf_o, isR_o, isR_a, cat_o, okv_fo, okv_fa, orf_s, orf_n, both_t, both_f, rfn_n, rfn_s, eq_self, forall_const, qL_law_0, qL_law_3, qL_law_4, qL_law_7r, qL_law_7n, qL_law_8, qL_law_11, qL_law_12, qL_law_15r, qL_law_15n, qL_law_16, qL_law_17, qL_law_19r, qL_law_19n, qL_law_20, qL_law_21, qL_law_23, qL_law_25, qL_law_26, qL_law_27, qL_law_28, qL_law_29, qL_law_32, qL_law_33, qL_law_35, qL_law_36, qL_law_38, qL_law_39, qL_law_1629, qL_law_1632, qL_law_1635, qL_law_1636, hlt9]
      exact ⟨hP1 _, by omega, by omega⟩
    · have hlt9 : ¬ nI n9 - 4 < nI (4 * t) := by rw [ge_lt hn9 (by omega)]; exact hx
      refine ry1_ok K FokL none noini [35] 60 ?_
      simp only [ry1_s, ry_s, ry_0, hit, true_and, and_true, List.map_cons, List.map_nil, List.length_cons, List.length_nil, List.replicate, List.cons_append, List.nil_append, List.append_nil, List.length_append, List.set_cons_zero, List.set_cons_succ, lgt_0, lgt_s, lhas_0, lhas_s, isI_i, isRf_r, isRf_n, inc_i, of1, ofm1, rokI_i, rokI_0, rokI_1, rokI_b, okv_i, okv_z0, okv_z1, okv_or, okv_on, okv_ar, okv_b, isA_s, alen_s, cat_i, cat_r, cat_n, finC_s, rv, nar1, nar0,  b2i_0, oI_n, oI_s, d24, d168, d100, Int32.le_refl, vpT, nIc8, nIc12, nIc40, nIc200, hup_at, and_self, and_false, false_and, Nat.reduceEqDiff, Nat.reduceEqDiff, reduceCtorEq, ie_m1_0, il_m1_0, ie_m1_1, il_m1_1, ie_m1_2, il_m1_2, ie_m1_3, il_m1_3, ie_m1_4, ie_m1_5, ie_m1_6, ie_m1_7, ie_m1_8, ie_0_m1, il_0_0, ie_0_1, il_0_1, ie_0_2, il_0_2, ie_0_3, il_0_3, ie_0_4, ie_0_5, ie_0_6, ie_0_7, ie_0_8, ie_1_m1, ie_1_0, il_1_0, il_1_1, ie_1_2, il_1_2, ie_1_3, il_1_3, ie_1_4, ie_1_5, ie_1_6, ie_1_7, ie_1_8, ie_2_m1, ie_2_0, il_2_0, ie_2_1, il_2_1, il_2_2, ie_2_3, il_2_3, ie_2_4, ie_2_5, ie_2_6, ie_2_7, ie_2_8, ie_3_m1, ie_3_0, il_3_0, ie_3_1, il_3_1, ie_3_2, il_3_2, il_3_3, ie_3_4, ie_3_5, ie_3_6, ie_3_7, ie_3_8, ie_4_m1, ie_4_0, il_4_0, ie_4_1, il_4_1, ie_4_2, il_4_2, ie_4_3, il_4_3, ie_4_5, ie_4_6, ie_4_7, ie_4_8, ie_5_m1, ie_5_0, il_5_0, ie_5_1, il_5_1, ie_5_2, il_5_2, ie_5_3, il_5_3, ie_5_4, ie_5_6, ie_5_7, ie_5_8, ie_6_m1, ie_6_0, il_6_0, ie_6_1, il_6_1, ie_6_2, il_6_2, ie_6_3, il_6_3, ie_6_4, ie_6_5, ie_6_7, ie_6_8, ie_7_m1, ie_7_0, il_7_0, ie_7_1, il_7_1, ie_7_2, il_7_2, ie_7_3, il_7_3, ie_7_4, ie_7_5, ie_7_6, ie_7_8, ie_8_m1, ie_8_0, il_8_0, ie_8_1, il_8_1, ie_8_2, il_8_2, ie_8_3, il_8_3, ie_8_4, ie_8_5, ie_8_6, ie_8_7, Nat.reduceAdd, Nat.reduceSub, Nat.reduceLT, Nat.reduceLeDiff, Nat.reduceBEq, Bool.or_false, Bool.false_or, Bool.or_true, Bool.true_or, Bool.or_self, Bool.false_eq_true, ↓reduceIte, Nat.le_refl, Nat.zero_le, nI_p1, Option.toList, not_true_eq_false, not_false_eq_true, isRf_o, isR_o, isR_a, cat_o, okv_fo, okv_fa, orf_s, orf_n, both_t, both_f, rfn_n, rfn_s, eq_self, forall_const, qL_law_0, qL_law_3, qL_law_4, qL_law_7r, qL_law_7n, qL_law_8, qL_law_11, qL_law_12, qL_law_15r, qL_law_15n, qL_law_16, qL_law_17, qL_law_19r, qL_law_19n, qL_law_20, qL_law_21, qL_law_23, qL_law_25, qL_law_26, qL_law_27, qL_law_28, qL_law_29, qL_law_32, qL_law_33, qL_law_35, qL_law_36, qL_law_38, qL_law_39, qL_law_1629, qL_law_1632, qL_law_1635, qL_law_1636, hlt9]
      refine v_sldN K hX hbl hbA (by omega) hn9 dL_law_35 ?_
      refine ry1_ok K FokL none noini [39] 60 ?_
      simp only [ry1_s, ry_s, ry_0, hit, true_and, and_true, List.map_cons, List.map_nil, List.length_cons, List.length_nil, List.replicate, List.cons_append, List.nil_append, List.append_nil, List.length_append, List.set_cons_zero, List.set_cons_succ, lgt_0, lgt_s, lhas_0, lhas_s, isI_i, isRf_r, isRf_n, inc_i, of1, ofm1, rokI_i, rokI_0, rokI_1, rokI_b, okv_i, okv_z0, okv_z1, okv_or, okv_on, okv_ar, okv_b, isA_s, alen_s, cat_i, cat_r, cat_n, finC_s, rv, nar1, nar0,  b2i_0, oI_n, oI_s, d24, d168, d100, Int32.le_refl, vpT, nIc8, nIc12, nIc40, nIc200, hup_at, and_self, and_false, false_and, Nat.reduceEqDiff, Nat.reduceEqDiff, reduceCtorEq, ie_m1_0, il_m1_0, ie_m1_1, il_m1_1, ie_m1_2, il_m1_2, ie_m1_3, il_m1_3, ie_m1_4, ie_m1_5, ie_m1_6, ie_m1_7, ie_m1_8, ie_0_m1, il_0_0, ie_0_1, il_0_1, ie_0_2, il_0_2, ie_0_3, il_0_3, ie_0_4, ie_0_5, ie_0_6, ie_0_7, ie_0_8, ie_1_m1, ie_1_0, il_1_0, il_1_1, ie_1_2, il_1_2, ie_1_3, il_1_3, ie_1_4, ie_1_5, ie_1_6, ie_1_7, ie_1_8, ie_2_m1, ie_2_0, il_2_0, ie_2_1, il_2_1, il_2_2, ie_2_3, il_2_3, ie_2_4, ie_2_5, ie_2_6, ie_2_7, ie_2_8, ie_3_m1, ie_3_0, il_3_0, ie_3_1, il_3_1, ie_3_2, il_3_2, il_3_3, ie_3_4, ie_3_5, ie_3_6, ie_3_7, ie_3_8, ie_4_m1, ie_4_0, il_4_0, ie_4_1, il_4_1, ie_4_2, il_4_2, ie_4_3, il_4_3, ie_4_5, ie_4_6, ie_4_7, ie_4_8, ie_5_m1, ie_5_0, il_5_0, ie_5_1, il_5_1, ie_5_2, il_5_2, ie_5_3, il_5_3, ie_5_4, ie_5_6, ie_5_7, ie_5_8, ie_6_m1, ie_6_0, il_6_0, ie_6_1, il_6_1, ie_6_2, il_6_2, ie_6_3, il_6_3, ie_6_4, ie_6_5, ie_6_7, ie_6_8, ie_7_m1, ie_7_0, il_7_0, ie_7_1, il_7_1, ie_7_2, il_7_2, ie_7_3, il_7_3, ie_7_4, ie_7_5, ie_7_6, ie_7_8, ie_8_m1, ie_8_0, il_8_0, ie_8_1, il_8_1, ie_8_2, il_8_2, ie_8_3, il_8_3, ie_8_4, ie_8_5, ie_8_6, ie_8_7, Nat.reduceAdd, Nat.reduceSub, Nat.reduceLT, Nat.reduceLeDiff, Nat.reduceBEq, Bool.or_false, Bool.false_or, Bool.or_true, Bool.true_or, Bool.or_self, Bool.false_eq_true, ↓reduceIte, Nat.le_refl, Nat.zero_le, nI_p1, Option.toList, not_true_eq_false, not_false_eq_true, isRf_o, isR_o, isR_a, cat_o, okv_fo, okv_fa, orf_s, orf_n, both_t, both_f, rfn_n, rfn_s, eq_self, forall_const, qL_law_0, qL_law_3, qL_law_4, qL_law_7r, qL_law_7n, qL_law_8, qL_law_11, qL_law_12, qL_law_15r, qL_law_15n, qL_law_16, qL_law_17, qL_law_19r, qL_law_19n, qL_law_20, qL_law_21, qL_law_23, qL_law_25, qL_law_26, qL_law_27, qL_law_28, qL_law_29, qL_law_32, qL_law_33, qL_law_35, qL_law_36, qL_law_38, qL_law_39, qL_law_1629, qL_law_1632, qL_law_1635, qL_law_1636]
      obtain ⟨k, hk, ek⟩ := and31 (xs (4 * t))
      rw [ek]
      have kn : ∀ h', LWd o am q a0 h' → ∀ L5 L6, V ((p, l, e, R), (s, m, args, below), (meth, c, D, b), (P, X, 601024, 7293034)) h' (63 + 490 * t + 490) (3048 + 2950 * t + 2950) 1629 [some (.ref b9), some (.ref a0), some (.ref o), some (.ref q), some (.int (nI (4 * t))), L5, L6] [] := by
        intro h' lw' L5 L6
        have kk := ih (t + 1) (by omega) (by omega) h' lw' L5 L6
        have x1 : 63 + 490 * (t + 1) = 63 + 490 * t + 490 := by omega
        have x2 : 3048 + 2950 * (t + 1) = 3048 + 2950 * t + 2950 := by rw [Nat.mul_add, Nat.mul_one, Nat.add_assoc]
        have x3 : 4 * (t + 1) = 4 * t + 4 := by omega
        rw [x1, x2, x3] at kk
        refine ry1_ok K FokL none noini [23] 60 ?_
        simp only [ry1_s, ry_s, ry_0, hit, true_and, and_true, List.map_cons, List.map_nil, List.length_cons, List.length_nil, List.replicate, List.cons_append, List.nil_append, List.append_nil, List.length_append, List.set_cons_zero, List.set_cons_succ, lgt_0, lgt_s, lhas_0, lhas_s, isI_i, isRf_r, isRf_n, inc_i, of1, ofm1, rokI_i, rokI_0, rokI_1, rokI_b, okv_i, okv_z0, okv_z1, okv_or, okv_on, okv_ar, okv_b, isA_s, alen_s, cat_i, cat_r, cat_n, finC_s, rv, nar1, nar0,  b2i_0, oI_n, oI_s, d24, d168, d100, Int32.le_refl, vpT, nIc8, nIc12, nIc40, nIc200, hup_at, and_self, and_false, false_and, Nat.reduceEqDiff, Nat.reduceEqDiff, reduceCtorEq, ie_m1_0, il_m1_0, ie_m1_1, il_m1_1, ie_m1_2, il_m1_2, ie_m1_3, il_m1_3, ie_m1_4, ie_m1_5, ie_m1_6, ie_m1_7, ie_m1_8, ie_0_m1, il_0_0, ie_0_1, il_0_1, ie_0_2, il_0_2, ie_0_3, il_0_3, ie_0_4, ie_0_5, ie_0_6, ie_0_7, ie_0_8, ie_1_m1, ie_1_0, il_1_0, il_1_1, ie_1_2, il_1_2, ie_1_3, il_1_3, ie_1_4, ie_1_5, ie_1_6, ie_1_7, ie_1_8, ie_2_m1, ie_2_0, il_2_0, ie_2_1, il_2_1, il_2_2, ie_2_3, il_2_3, ie_2_4, ie_2_5, ie_2_6, ie_2_7, ie_2_8, ie_3_m1, ie_3_0, il_3_0, ie_3_1, il_3_1, ie_3_2, il_3_2, il_3_3, ie_3_4, ie_3_5, ie_3_6, ie_3_7, ie_3_8, ie_4_m1, ie_4_0, il_4_0, ie_4_1, il_4_1, ie_4_2, il_4_2, ie_4_3, il_4_3, ie_4_5, ie_4_6, ie_4_7, ie_4_8, ie_5_m1, ie_5_0, il_5_0, ie_5_1, il_5_1, ie_5_2, il_5_2, ie_5_3, il_5_3, ie_5_4, ie_5_6, ie_5_7, ie_5_8, ie_6_m1, ie_6_0, il_6_0, ie_6_1, il_6_1, ie_6_2, il_6_2, ie_6_3, il_6_3, ie_6_4, ie_6_5, ie_6_7, ie_6_8, ie_7_m1, ie_7_0, il_7_0, ie_7_1, il_7_1, ie_7_2, il_7_2, ie_7_3, il_7_3, ie_7_4, ie_7_5, ie_7_6, ie_7_8, ie_8_m1, ie_8_0, il_8_0, ie_8_1, il_8_1, ie_8_2, il_8_2, ie_8_3, il_8_3, ie_8_4, ie_8_5, ie_8_6, ie_8_7, Nat.reduceAdd, Nat.reduceSub, Nat.reduceLT, Nat.reduceLeDiff, Nat.reduceBEq, Bool.or_false, Bool.false_or, Bool.or_true, Bool.true_or, Bool.or_self, Bool.false_eq_true, ↓reduceIte, Nat.le_refl, Nat.zero_le, nI_p1, Option.toList, not_true_eq_false, not_false_eq_true, isRf_o, isR_o, isR_a, cat_o, okv_fo, okv_fa, orf_s, orf_n, both_t, both_f, rfn_n, rfn_s, eq_self, forall_const, qL_law_0, qL_law_3, qL_law_4, qL_law_7r, qL_law_7n, qL_law_8, qL_law_11, qL_law_12, qL_law_15r, qL_law_15n, qL_law_16, qL_law_17, qL_law_19r, qL_law_19n, qL_law_20, qL_law_21, qL_law_23, qL_law_25, qL_law_26, qL_law_27, qL_law_28, qL_law_29, qL_law_32, qL_law_33, qL_law_35, qL_law_36, qL_law_38, qL_law_39, qL_law_1629, qL_law_1632, qL_law_1635, qL_law_1636, show Int32.ofInt 4 = 4 from rfl, nJ_p4]
        exact kk
      have hcm : 63 + 490 * t + 490 ≤ 601024 ∧ 3048 + 2950 * t + 2950 ≤ 7293034 := ⟨by omega, by omega⟩
      have hi : 4 * t + 3 < n9 := by omega
      clear ih h1 h2 hx hlt9 hlt ek
      match k, hk with
      | 0, _ =>
        refine v_tabIn K dL_law_39 (by decide) (by decide) rfl (tgt := 160) (by decide) ?_
        exact lc_pass hfl K hX hbl hbA hn9 hi lw hcm kn _ _
      | 1, _ =>
        refine v_tabIn K dL_law_39 (by decide) (by decide) rfl (tgt := 216) (by decide) ?_
        exact lc_worker hfl K hX hbl hbA hn9 hi lw hcm kn _ _
      | 2, _ =>
        refine v_tabIn K dL_law_39 (by decide) (by decide) rfl (tgt := 296) (by decide) ?_
        exact lc_shift hfl K hX hbl hbA hn9 hi lw hcm kn _ _
      | 3, _ =>
        refine v_tabIn K dL_law_39 (by decide) (by decide) rfl (tgt := 376) (by decide) ?_
        exact lc_hold hfl K hX hbl hbA hn9 hi lw hcm kn _ _
      | 4, _ =>
        refine v_tabIn K dL_law_39 (by decide) (by decide) rfl (tgt := 444) (by decide) ?_
        exact lc_stamp hfl K hX hbl hbA hn9 hi lw hcm kn _ _
      | 5, _ =>
        refine v_tabIn K dL_law_39 (by decide) (by decide) rfl (tgt := 524) (by decide) ?_
        exact lc_holder hfl K hX hbl hbA hn9 hi lw hcm kn _ _
      | 6, _ =>
        refine v_tabIn K dL_law_39 (by decide) (by decide) rfl (tgt := 580) (by decide) ?_
        exact lc_shiftOf hfl K hX hbl hbA hn9 hi lw hcm kn _ _
      | 7, _ =>
        refine v_tabIn K dL_law_39 (by decide) (by decide) rfl (tgt := 648) (by decide) ?_
        exact lc_rest hfl K hX hbl hbA hn9 hi lw hcm kn _ _
      | 8, _ =>
        refine v_tabIn K dL_law_39 (by decide) (by decide) rfl (tgt := 704) (by decide) ?_
        exact lc_put hfl K hX hbl hbA hn9 hi lw hcm kn _ _
      | 9, _ =>
        refine v_tabIn K dL_law_39 (by decide) (by decide) rfl (tgt := 762) (by decide) ?_
        exact lc_empty hfl K hX hbl hbA hn9 hi lw hcm kn _ _
      | 10, _ =>
        refine v_tabIn K dL_law_39 (by decide) (by decide) rfl (tgt := 775) (by decide) ?_
        exact lc_wrongAt hfl K hX hbl hbA hn9 hi lw hcm kn _ _
      | 11, _ =>
        refine v_tabIn K dL_law_39 (by decide) (by decide) rfl (tgt := 788) (by decide) ?_
        exact lc_read hfl K hX hbl hbA hn9 hi lw hcm kn _ _
      | 12, _ =>
        refine v_tabIn K dL_law_39 (by decide) (by decide) rfl (tgt := 832) (by decide) ?_
        exact lc_drop hfl K hX hbl hbA hn9 hi lw hcm kn _ _
      | 13, _ =>
        refine v_tabIn K dL_law_39 (by decide) (by decide) rfl (tgt := 888) (by decide) ?_
        exact lc_breaks hfl K hX hbl hbA hn9 hi lw hcm kn _ _
      | 14, _ =>
        refine v_tabIn K dL_law_39 (by decide) (by decide) rfl (tgt := 963) (by decide) ?_
        exact lc_breaches hfl K hX hbl hbA hn9 hi lw hcm kn _ _
      | 15, _ =>
        refine v_tabIn K dL_law_39 (by decide) (by decide) rfl (tgt := 1031) (by decide) ?_
        exact lc_claims hfl K hX hbl hbA hn9 hi lw hcm kn _ _
      | 16, _ =>
        refine v_tabIn K dL_law_39 (by decide) (by decide) rfl (tgt := 1044) (by decide) ?_
        exact lc_state hfl K hX hbl hbA hn9 hi lw hcm kn _ _
      | 17, _ =>
        refine v_tabIn K dL_law_39 (by decide) (by decide) rfl (tgt := 1100) (by decide) ?_
        exact lc_about hfl K hX hbl hbA hn9 hi lw hcm kn _ _
      | 18, _ =>
        refine v_tabIn K dL_law_39 (by decide) (by decide) rfl (tgt := 1156) (by decide) ?_
        exact lc_worth hfl K hX hbl hbA hn9 hi lw hcm kn _ _
      | 19, _ =>
        refine v_tabIn K dL_law_39 (by decide) (by decide) rfl (tgt := 1212) (by decide) ?_
        exact lc_pay hfl K hX hbl hbA hn9 hi lw hcm kn _ _
      | 20, _ =>
        refine v_tabIn K dL_law_39 (by decide) (by decide) rfl (tgt := 1268) (by decide) ?_
        exact lc_takeBack hfl K hX hbl hbA hn9 hi lw hcm kn _ _
      | 21, _ =>
        refine v_tabIn K dL_law_39 (by decide) (by decide) rfl (tgt := 1324) (by decide) ?_
        exact lc_wages hfl K hX hbl hbA hn9 hi lw hcm kn _ _
      | 22, _ =>
        refine v_tabIn K dL_law_39 (by decide) (by decide) rfl (tgt := 1380) (by decide) ?_
        exact lc_offer hfl K hX hbl hbA hn9 hi lw hcm kn _ _
      | 23, _ =>
        refine v_tabIn K dL_law_39 (by decide) (by decide) rfl (tgt := 1448) (by decide) ?_
        exact lc_withdraw hfl K hX hbl hbA hn9 hi lw hcm kn _ _
      | 24, _ =>
        refine v_tabIn K dL_law_39 (by decide) (by decide) rfl (tgt := 1504) (by decide) ?_
        exact lc_offers hfl K hX hbl hbA hn9 hi lw hcm kn _ _
      | 25, _ =>
        refine v_tabIn K dL_law_39 (by decide) (by decide) rfl (tgt := 1517) (by decide) ?_
        exact lc_ring hfl K hX hbl hbA hn9 hi lw hcm kn _ _
      | 26, _ =>
        refine v_tabIn K dL_law_39 (by decide) (by decide) rfl (tgt := 1573) (by decide) ?_
        exact lc_swap hfl K hX hbl hbA hn9 hi lw hcm kn _ _
      | k + 27, hk =>
        refine v_tabOut K dL_law_39 (by omega) (by omega) (tgt := 1629) (by decide) ?_
        exact v_widen (Nat.le_add_right _ _) (Nat.le_add_right _ _) (kn h lw _ _)
end LOOP
