section C13
variable {l : Launch} {D : Dg} {b : Nat} {h : Hp} {N : Nat → Nat} {ad : Nat → Nat → Nat} {Z : ZS}
theorem u_Offer_init (hfl : l.flags = flags0) (rr : RR N ad Z h) {c w g t : Nat} (hc : c < N 5) (hw : w < N 1) (hg : g < N 2) (ht : t < N 2) : Cal l D b iX1_init 1 0 0 [.ref (ad 5 c), .ref (ad 1 w), .ref (ad 2 g), .ref (ad 2 t)] h (fun v h' => v = none ∧ CTo N ad (zui Z.1 5 c 3 1, zuo (zuo (zuo Z.2 5 c 0 (some w)) 5 c 1 (some g)) 5 c 2 (some t)) h h') nox := by
  refine v_entry iX1_init pl1 mX1_init (by simp only [List.forall_mem_cons, List.not_mem_nil, false_implies, cat_o, cat_r, cat_i, cat_n, and_self, implies_true]) hfl ?_
  rintro ⟨⟨p, l9, e, R⟩, ⟨sz, mi, args, below⟩, ⟨meth, cx, D9, b9⟩, ⟨P, X, mc, ms⟩⟩ rfl rfl rfl hPX K
  injection hPX with hP hPX
  injection hPX with hX hPX
  injection hPX with hMC hMS
  subst hMC hMS
  have hPe := fun r h9 => congrFun (congrFun hP r) h9
  refine ry1_ok K FokX1 (some 1) (ini_ok rfl (by intro r hr; cases hr; decide)) [1] 60 ?_
  simp only [ry1_s, ry_s, ry_0, hit, true_and, and_true, List.map_cons, List.map_nil, List.length_cons, List.length_nil, List.replicate, List.cons_append, List.nil_append, List.append_nil, List.length_append, List.set_cons_zero, List.set_cons_succ, lgt_0, lgt_s, lhas_0, lhas_s, isI_i, isRf_r, isRf_n, inc_i, of1, ofm1, rokI_i, rokI_0, rokI_1, rokI_b, okv_i, okv_z0, okv_z1, okv_or, okv_on, okv_ar, okv_b, isA_s, alen_s, cat_i, cat_r, cat_n, finC_s, hPe, rv, nar1, nar0,  b2i_0, oI_n, oI_s, d24, d168, d100, Int32.le_refl, vpT, nIc8, nIc12, nIc40, nIc200, hup_at, and_self, and_false, false_and, Nat.reduceEqDiff, Nat.reduceEqDiff, reduceCtorEq, ie_m1_0, il_m1_0, ie_m1_1, il_m1_1, ie_m1_2, il_m1_2, ie_m1_3, il_m1_3, ie_m1_4, ie_m1_5, ie_m1_6, ie_m1_7, ie_m1_8, ie_0_m1, il_0_0, ie_0_1, il_0_1, ie_0_2, il_0_2, ie_0_3, il_0_3, ie_0_4, ie_0_5, ie_0_6, ie_0_7, ie_0_8, ie_1_m1, ie_1_0, il_1_0, il_1_1, ie_1_2, il_1_2, ie_1_3, il_1_3, ie_1_4, ie_1_5, ie_1_6, ie_1_7, ie_1_8, ie_2_m1, ie_2_0, il_2_0, ie_2_1, il_2_1, il_2_2, ie_2_3, il_2_3, ie_2_4, ie_2_5, ie_2_6, ie_2_7, ie_2_8, ie_3_m1, ie_3_0, il_3_0, ie_3_1, il_3_1, ie_3_2, il_3_2, il_3_3, ie_3_4, ie_3_5, ie_3_6, ie_3_7, ie_3_8, ie_4_m1, ie_4_0, il_4_0, ie_4_1, il_4_1, ie_4_2, il_4_2, ie_4_3, il_4_3, ie_4_5, ie_4_6, ie_4_7, ie_4_8, ie_5_m1, ie_5_0, il_5_0, ie_5_1, il_5_1, ie_5_2, il_5_2, ie_5_3, il_5_3, ie_5_4, ie_5_6, ie_5_7, ie_5_8, ie_6_m1, ie_6_0, il_6_0, ie_6_1, il_6_1, ie_6_2, il_6_2, ie_6_3, il_6_3, ie_6_4, ie_6_5, ie_6_7, ie_6_8, ie_7_m1, ie_7_0, il_7_0, ie_7_1, il_7_1, ie_7_2, il_7_2, ie_7_3, il_7_3, ie_7_4, ie_7_5, ie_7_6, ie_7_8, ie_8_m1, ie_8_0, il_8_0, ie_8_1, il_8_1, ie_8_2, il_8_2, ie_8_3, il_8_3, ie_8_4, ie_8_5, ie_8_6, ie_8_7, Nat.reduceAdd, Nat.reduceSub, Nat.reduceLT, Nat.reduceLeDiff, Nat.reduceBEq, Bool.or_false, Bool.false_or, Bool.or_true, Bool.true_or, Bool.or_self, Bool.false_eq_true, ↓reduceIte, Nat.le_refl, Nat.zero_le, nI_p1, Option.toList, not_true_eq_false, not_false_eq_true, isRf_o, isR_o, isR_a, cat_o, okv_fo, okv_fa, orf_s, orf_n, both_t, both_f, rfn_n, rfn_s, eq_self, forall_const, qX1_init_0, qX1_init_1, qX1_init_4, qX1_init_5, qX1_init_6, qX1_init_9, qX1_init_10, qX1_init_11, qX1_init_14, qX1_init_15, qX1_init_16, qX1_init_19, qX1_init_20, qX1_init_21, qX1_init_24]
  refine v_oinit K (List.mem_filter.mpr ⟨by decide +kernel, by decide +kernel⟩) rfl (by decide) (by decide) dX1_init_1 ?_
  refine ry1_ok K FokX1 (some 1) (ini_ok rfl (by intro r hr; cases hr; decide)) [] 60 ?_
  simp only [ry1_s, ry_s, ry_0, hit, true_and, and_true, List.map_cons, List.map_nil, List.length_cons, List.length_nil, List.replicate, List.cons_append, List.nil_append, List.append_nil, List.length_append, List.set_cons_zero, List.set_cons_succ, lgt_0, lgt_s, lhas_0, lhas_s, isI_i, isRf_r, isRf_n, inc_i, of1, ofm1, rokI_i, rokI_0, rokI_1, rokI_b, okv_i, okv_z0, okv_z1, okv_or, okv_on, okv_ar, okv_b, isA_s, alen_s, cat_i, cat_r, cat_n, finC_s, hPe, rv, nar1, nar0,  b2i_0, oI_n, oI_s, d24, d168, d100, Int32.le_refl, vpT, nIc8, nIc12, nIc40, nIc200, hup_at, and_self, and_false, false_and, Nat.reduceEqDiff, Nat.reduceEqDiff, reduceCtorEq, ie_m1_0, il_m1_0, ie_m1_1, il_m1_1, ie_m1_2, il_m1_2, ie_m1_3, il_m1_3, ie_m1_4, ie_m1_5, ie_m1_6, ie_m1_7, ie_m1_8, ie_0_m1, il_0_0, ie_0_1, il_0_1, ie_0_2, il_0_2, ie_0_3, il_0_3, ie_0_4, ie_0_5, ie_0_6, ie_0_7, ie_0_8, ie_1_m1, ie_1_0, il_1_0, il_1_1, ie_1_2, il_1_2, ie_1_3, il_1_3, ie_1_4, ie_1_5, ie_1_6, ie_1_7, ie_1_8, ie_2_m1, ie_2_0, il_2_0, ie_2_1, il_2_1, il_2_2, ie_2_3, il_2_3, ie_2_4, ie_2_5, ie_2_6, ie_2_7, ie_2_8, ie_3_m1, ie_3_0, il_3_0, ie_3_1, il_3_1, ie_3_2, il_3_2, il_3_3, ie_3_4, ie_3_5, ie_3_6, ie_3_7, ie_3_8, ie_4_m1, ie_4_0, il_4_0, ie_4_1, il_4_1, ie_4_2, il_4_2, ie_4_3, il_4_3, ie_4_5, ie_4_6, ie_4_7, ie_4_8, ie_5_m1, ie_5_0, il_5_0, ie_5_1, il_5_1, ie_5_2, il_5_2, ie_5_3, il_5_3, ie_5_4, ie_5_6, ie_5_7, ie_5_8, ie_6_m1, ie_6_0, il_6_0, ie_6_1, il_6_1, ie_6_2, il_6_2, ie_6_3, il_6_3, ie_6_4, ie_6_5, ie_6_7, ie_6_8, ie_7_m1, ie_7_0, il_7_0, ie_7_1, il_7_1, ie_7_2, il_7_2, ie_7_3, il_7_3, ie_7_4, ie_7_5, ie_7_6, ie_7_8, ie_8_m1, ie_8_0, il_8_0, ie_8_1, il_8_1, ie_8_2, il_8_2, ie_8_3, il_8_3, ie_8_4, ie_8_5, ie_8_6, ie_8_7, Nat.reduceAdd, Nat.reduceSub, Nat.reduceLT, Nat.reduceLeDiff, Nat.reduceBEq, Bool.or_false, Bool.false_or, Bool.or_true, Bool.true_or, Bool.or_self, Bool.false_eq_true, ↓reduceIte, Nat.le_refl, Nat.zero_le, nI_p1, Option.toList, not_true_eq_false, not_false_eq_true, isRf_o, isR_o, isR_a, cat_o, okv_fo, okv_fa, orf_s, orf_n, both_t, both_f, rfn_n, rfn_s, eq_self, forall_const, qX1_init_0, qX1_init_1, qX1_init_4, qX1_init_5, qX1_init_6, qX1_init_9, qX1_init_10, qX1_init_11, qX1_init_14, qX1_init_15, qX1_init_16, qX1_init_19, qX1_init_20, qX1_init_21, qX1_init_24, rr.k5 hc, rr.f5_0 hc, rr.f5_1 hc, rr.f5_2 hc, rr.f5_3 hc]
  exact (((((CTo.rf rr).puti (k := 5) (i := c) 3 1 hc rfl).puto (k := 5) (i := c) (k9 := 1) 0 (some w) hc rfl (fun j hj => by cases hj; exact hw)).puto (k := 5) (i := c) (k9 := 2) 1 (some g) hc rfl (fun j hj => by cases hj; exact hg)).puto (k := 5) (i := c) (k9 := 2) 2 (some t) hc rfl (fun j hj => by cases hj; exact ht))
theorem u_Shift_init (hfl : l.flags = flags0) (rr : RR N ad Z h) {c : Nat} (hc : c < N 2) (n x y z : Int32) : Cal l D b iX4_init 1 0 0 [.ref (ad 2 c), .int n, .int x, .int y, .int z] h (fun v h' => v = none ∧ CTo N ad (zui (zui (zui (zui (zui (zui Z.1 2 c 0 n) 2 c 1 z) 2 c 2 x) 2 c 3 (x + y)) 2 c 4 x) 2 c 5 (x + y), Z.2) h h') nox := by
  refine v_entry iX4_init pl4 mX4_init (by simp only [List.forall_mem_cons, List.not_mem_nil, false_implies, cat_o, cat_r, cat_i, cat_n, and_self, implies_true]) hfl ?_
  rintro ⟨⟨p, l9, e, R⟩, ⟨sz, mi, args, below⟩, ⟨meth, cx, D9, b9⟩, ⟨P, X, mc, ms⟩⟩ rfl rfl rfl hPX K
  injection hPX with hP hPX
  injection hPX with hX hPX
  injection hPX with hMC hMS
  subst hMC hMS
  have hPe := fun r h9 => congrFun (congrFun hP r) h9
  refine ry1_ok K FokX4 (some 4) (ini_ok rfl (by intro r hr; cases hr; decide)) [1] 60 ?_
  simp only [ry1_s, ry_s, ry_0, hit, true_and, and_true, List.map_cons, List.map_nil, List.length_cons, List.length_nil, List.replicate, List.cons_append, List.nil_append, List.append_nil, List.length_append, List.set_cons_zero, List.set_cons_succ, lgt_0, lgt_s, lhas_0, lhas_s, isI_i, isRf_r, isRf_n, inc_i, of1, ofm1, rokI_i, rokI_0, rokI_1, rokI_b, okv_i, okv_z0, okv_z1, okv_or, okv_on, okv_ar, okv_b, isA_s, alen_s, cat_i, cat_r, cat_n, finC_s, hPe, rv, nar1, nar0,  b2i_0, oI_n, oI_s, d24, d168, d100, Int32.le_refl, vpT, nIc8, nIc12, nIc40, nIc200, hup_at, and_self, and_false, false_and, Nat.reduceEqDiff, Nat.reduceEqDiff, reduceCtorEq, ie_m1_0, il_m1_0, ie_m1_1, il_m1_1, ie_m1_2, il_m1_2, ie_m1_3, il_m1_3, ie_m1_4, ie_m1_5, ie_m1_6, ie_m1_7, ie_m1_8, ie_0_m1, il_0_0, ie_0_1, il_0_1, ie_0_2, il_0_2, ie_0_3, il_0_3, ie_0_4, ie_0_5, ie_0_6, ie_0_7, ie_0_8, ie_1_m1, ie_1_0, il_1_0, il_1_1, ie_1_2, il_1_2, ie_1_3, il_1_3, ie_1_4, ie_1_5, ie_1_6, ie_1_7, ie_1_8, ie_2_m1, ie_2_0, il_2_0, ie_2_1, il_2_1, il_2_2, ie_2_3, il_2_3, ie_2_4, ie_2_5, ie_2_6, ie_2_7, ie_2_8, ie_3_m1, ie_3_0, il_3_0, ie_3_1, il_3_1, ie_3_2, il_3_2, il_3_3, ie_3_4, ie_3_5, ie_3_6, ie_3_7, ie_3_8, ie_4_m1, ie_4_0, il_4_0, ie_4_1, il_4_1, ie_4_2, il_4_2, ie_4_3, il_4_3, ie_4_5, ie_4_6, ie_4_7, ie_4_8, ie_5_m1, ie_5_0, il_5_0, ie_5_1, il_5_1, ie_5_2, il_5_2, ie_5_3, il_5_3, ie_5_4, ie_5_6, ie_5_7, ie_5_8, ie_6_m1, ie_6_0, il_6_0, ie_6_1, il_6_1, ie_6_2, il_6_2, ie_6_3, il_6_3, ie_6_4, ie_6_5, ie_6_7, ie_6_8, ie_7_m1, ie_7_0, il_7_0, ie_7_1, il_7_1, ie_7_2, il_7_2, ie_7_3, il_7_3, ie_7_4, ie_7_5, ie_7_6, ie_7_8, ie_8_m1, ie_8_0, il_8_0, ie_8_1, il_8_1, ie_8_2, il_8_2, ie_8_3, il_8_3, ie_8_4, ie_8_5, ie_8_6, ie_8_7, Nat.reduceAdd, Nat.reduceSub, Nat.reduceLT, Nat.reduceLeDiff, Nat.reduceBEq, Bool.or_false, Bool.false_or, Bool.or_true, Bool.true_or, Bool.or_self, Bool.false_eq_true, ↓reduceIte, Nat.le_refl, Nat.zero_le, nI_p1, Option.toList, not_true_eq_false, not_false_eq_true, isRf_o, isR_o, isR_a, cat_o, okv_fo, okv_fa, orf_s, orf_n, both_t, both_f, rfn_n, rfn_s, eq_self, forall_const, qX4_init_0, qX4_init_1, qX4_init_4, qX4_init_5, qX4_init_6, qX4_init_9, qX4_init_10, qX4_init_12, qX4_init_15, qX4_init_16, qX4_init_17, qX4_init_20, qX4_init_21, qX4_init_22, qX4_init_23, qX4_init_24, qX4_init_27, qX4_init_28, qX4_init_29, qX4_init_32, qX4_init_33, qX4_init_34, qX4_init_35, qX4_init_36, qX4_init_39]
  refine v_oinit K (List.mem_filter.mpr ⟨by decide +kernel, by decide +kernel⟩) rfl (by decide) (by decide) dX4_init_1 ?_
  refine ry1_ok K FokX4 (some 4) (ini_ok rfl (by intro r hr; cases hr; decide)) [] 60 ?_
  simp only [ry1_s, ry_s, ry_0, hit, true_and, and_true, List.map_cons, List.map_nil, List.length_cons, List.length_nil, List.replicate, List.cons_append, List.nil_append, List.append_nil, List.length_append, List.set_cons_zero, List.set_cons_succ, lgt_0, lgt_s, lhas_0, lhas_s, isI_i, isRf_r, isRf_n, inc_i, of1, ofm1, rokI_i, rokI_0, rokI_1, rokI_b, okv_i, okv_z0, okv_z1, okv_or, okv_on, okv_ar, okv_b, isA_s, alen_s, cat_i, cat_r, cat_n, finC_s, hPe, rv, nar1, nar0,  b2i_0, oI_n, oI_s, d24, d168, d100, Int32.le_refl, vpT, nIc8, nIc12, nIc40, nIc200, hup_at, and_self, and_false, false_and, Nat.reduceEqDiff, Nat.reduceEqDiff, reduceCtorEq, ie_m1_0, il_m1_0, ie_m1_1, il_m1_1, ie_m1_2, il_m1_2, ie_m1_3, il_m1_3, ie_m1_4, ie_m1_5, ie_m1_6, ie_m1_7, ie_m1_8, ie_0_m1, il_0_0, ie_0_1, il_0_1, ie_0_2, il_0_2, ie_0_3, il_0_3, ie_0_4, ie_0_5, ie_0_6, ie_0_7, ie_0_8, ie_1_m1, ie_1_0, il_1_0, il_1_1, ie_1_2, il_1_2, ie_1_3, il_1_3, ie_1_4, ie_1_5, ie_1_6, ie_1_7, ie_1_8, ie_2_m1, ie_2_0, il_2_0, ie_2_1, il_2_1, il_2_2, ie_2_3, il_2_3, ie_2_4, ie_2_5, ie_2_6, ie_2_7, ie_2_8, ie_3_m1, ie_3_0, il_3_0, ie_3_1, il_3_1, ie_3_2, il_3_2, il_3_3, ie_3_4, ie_3_5, ie_3_6, ie_3_7, ie_3_8, ie_4_m1, ie_4_0, il_4_0, ie_4_1, il_4_1, ie_4_2, il_4_2, ie_4_3, il_4_3, ie_4_5, ie_4_6, ie_4_7, ie_4_8, ie_5_m1, ie_5_0, il_5_0, ie_5_1, il_5_1, ie_5_2, il_5_2, ie_5_3, il_5_3, ie_5_4, ie_5_6, ie_5_7, ie_5_8, ie_6_m1, ie_6_0, il_6_0, ie_6_1, il_6_1, ie_6_2, il_6_2, ie_6_3, il_6_3, ie_6_4, ie_6_5, ie_6_7, ie_6_8, ie_7_m1, ie_7_0, il_7_0, ie_7_1, il_7_1, ie_7_2, il_7_2, ie_7_3, il_7_3, ie_7_4, ie_7_5, ie_7_6, ie_7_8, ie_8_m1, ie_8_0, il_8_0, ie_8_1, il_8_1, ie_8_2, il_8_2, ie_8_3, il_8_3, ie_8_4, ie_8_5, ie_8_6, ie_8_7, Nat.reduceAdd, Nat.reduceSub, Nat.reduceLT, Nat.reduceLeDiff, Nat.reduceBEq, Bool.or_false, Bool.false_or, Bool.or_true, Bool.true_or, Bool.or_self, Bool.false_eq_true, ↓reduceIte, Nat.le_refl, Nat.zero_le, nI_p1, Option.toList, not_true_eq_false, not_false_eq_true, isRf_o, isR_o, isR_a, cat_o, okv_fo, okv_fa, orf_s, orf_n, both_t, both_f, rfn_n, rfn_s, eq_self, forall_const, qX4_init_0, qX4_init_1, qX4_init_4, qX4_init_5, qX4_init_6, qX4_init_9, qX4_init_10, qX4_init_12, qX4_init_15, qX4_init_16, qX4_init_17, qX4_init_20, qX4_init_21, qX4_init_22, qX4_init_23, qX4_init_24, qX4_init_27, qX4_init_28, qX4_init_29, qX4_init_32, qX4_init_33, qX4_init_34, qX4_init_35, qX4_init_36, qX4_init_39, rr.k2 hc, rr.f2_0 hc, rr.f2_1 hc, rr.f2_2 hc, rr.f2_3 hc, rr.f2_4 hc, rr.f2_5 hc, rr.f2_6 hc, rr.f2_7 hc]
  exact ((((((CTo.rf rr).puti (k := 2) (i := c) 0 n hc rfl).puti (k := 2) (i := c) 1 z hc rfl).puti (k := 2) (i := c) 2 x hc rfl).puti (k := 2) (i := c) 3 (x + y) hc rfl).puti (k := 2) (i := c) 4 x hc rfl).puti (k := 2) (i := c) 5 (x + y) hc rfl
theorem u_Rule_init (hfl : l.flags = flags0) (rr : RR N ad Z h) {c : Nat} (hc : c < N 3) (h6 : 0 < N 6) (n : Int32) : Cal l D b iX2_init 1 0 0 [.ref (ad 3 c), .int n, .ref (ad 6 0)] h (fun v h' => v = none ∧ CTo N ad (zui (zui (zui (zui (zui Z.1 3 c 0 n) 3 c 1 (Z.1 6 0 4)) 3 c 2 (Z.1 6 0 5)) 3 c 3 (Z.1 6 0 6)) 3 c 4 (Z.1 6 0 7), Z.2) h h') nox := by
  refine v_entry iX2_init pl2 mX2_init (by simp only [List.forall_mem_cons, List.not_mem_nil, false_implies, cat_o, cat_r, cat_i, cat_n, and_self, implies_true]) hfl ?_
  rintro ⟨⟨p, l9, e, R⟩, ⟨sz, mi, args, below⟩, ⟨meth, cx, D9, b9⟩, ⟨P, X, mc, ms⟩⟩ rfl rfl rfl hPX K
  injection hPX with hP hPX
  injection hPX with hX hPX
  injection hPX with hMC hMS
  subst hMC hMS
  have hPe := fun r h9 => congrFun (congrFun hP r) h9
  refine ry1_ok K FokX2 (some 2) (ini_ok rfl (by intro r hr; cases hr; decide)) [1] 60 ?_
  simp only [ry1_s, ry_s, ry_0, hit, true_and, and_true, List.map_cons, List.map_nil, List.length_cons, List.length_nil, List.replicate, List.cons_append, List.nil_append, List.append_nil, List.length_append, List.set_cons_zero, List.set_cons_succ, lgt_0, lgt_s, lhas_0, lhas_s, isI_i, isRf_r, isRf_n, inc_i, of1, ofm1, rokI_i, rokI_0, rokI_1, rokI_b, okv_i, okv_z0, okv_z1, okv_or, okv_on, okv_ar, okv_b, isA_s, alen_s, cat_i, cat_r, cat_n, finC_s, hPe, rv, nar1, nar0,  b2i_0, oI_n, oI_s, d24, d168, d100, Int32.le_refl, vpT, nIc8, nIc12, nIc40, nIc200, hup_at, and_self, and_false, false_and, Nat.reduceEqDiff, Nat.reduceEqDiff, reduceCtorEq, ie_m1_0, il_m1_0, ie_m1_1, il_m1_1, ie_m1_2, il_m1_2, ie_m1_3, il_m1_3, ie_m1_4, ie_m1_5, ie_m1_6, ie_m1_7, ie_m1_8, ie_0_m1, il_0_0, ie_0_1, il_0_1, ie_0_2, il_0_2, ie_0_3, il_0_3, ie_0_4, ie_0_5, ie_0_6, ie_0_7, ie_0_8, ie_1_m1, ie_1_0, il_1_0, il_1_1, ie_1_2, il_1_2, ie_1_3, il_1_3, ie_1_4, ie_1_5, ie_1_6, ie_1_7, ie_1_8, ie_2_m1, ie_2_0, il_2_0, ie_2_1, il_2_1, il_2_2, ie_2_3, il_2_3, ie_2_4, ie_2_5, ie_2_6, ie_2_7, ie_2_8, ie_3_m1, ie_3_0, il_3_0, ie_3_1, il_3_1, ie_3_2, il_3_2, il_3_3, ie_3_4, ie_3_5, ie_3_6, ie_3_7, ie_3_8, ie_4_m1, ie_4_0, il_4_0, ie_4_1, il_4_1, ie_4_2, il_4_2, ie_4_3, il_4_3, ie_4_5, ie_4_6, ie_4_7, ie_4_8, ie_5_m1, ie_5_0, il_5_0, ie_5_1, il_5_1, ie_5_2, il_5_2, ie_5_3, il_5_3, ie_5_4, ie_5_6, ie_5_7, ie_5_8, ie_6_m1, ie_6_0, il_6_0, ie_6_1, il_6_1, ie_6_2, il_6_2, ie_6_3, il_6_3, ie_6_4, ie_6_5, ie_6_7, ie_6_8, ie_7_m1, ie_7_0, il_7_0, ie_7_1, il_7_1, ie_7_2, il_7_2, ie_7_3, il_7_3, ie_7_4, ie_7_5, ie_7_6, ie_7_8, ie_8_m1, ie_8_0, il_8_0, ie_8_1, il_8_1, ie_8_2, il_8_2, ie_8_3, il_8_3, ie_8_4, ie_8_5, ie_8_6, ie_8_7, Nat.reduceAdd, Nat.reduceSub, Nat.reduceLT, Nat.reduceLeDiff, Nat.reduceBEq, Bool.or_false, Bool.false_or, Bool.or_true, Bool.true_or, Bool.or_self, Bool.false_eq_true, ↓reduceIte, Nat.le_refl, Nat.zero_le, nI_p1, Option.toList, not_true_eq_false, not_false_eq_true, isRf_o, isR_o, isR_a, cat_o, okv_fo, okv_fa, orf_s, orf_n, both_t, both_f, rfn_n, rfn_s, eq_self, forall_const, qX2_init_0, qX2_init_1, qX2_init_4, qX2_init_5, qX2_init_6, qX2_init_9, qX2_init_10, qX2_init_11, qX2_init_14, qX2_init_17, qX2_init_18, qX2_init_19, qX2_init_22, qX2_init_25, qX2_init_26, qX2_init_27, qX2_init_30, qX2_init_33, qX2_init_34, qX2_init_35, qX2_init_38, qX2_init_41]
  refine v_oinit K (List.mem_filter.mpr ⟨by decide +kernel, by decide +kernel⟩) rfl (by decide) (by decide) dX2_init_1 ?_
  refine ry1_ok K FokX2 (some 2) (ini_ok rfl (by intro r hr; cases hr; decide)) [] 60 ?_
  simp only [ry1_s, ry_s, ry_0, hit, true_and, and_true, List.map_cons, List.map_nil, List.length_cons, List.length_nil, List.replicate, List.cons_append, List.nil_append, List.append_nil, List.length_append, List.set_cons_zero, List.set_cons_succ, lgt_0, lgt_s, lhas_0, lhas_s, isI_i, isRf_r, isRf_n, inc_i, of1, ofm1, rokI_i, rokI_0, rokI_1, rokI_b, okv_i, okv_z0, okv_z1, okv_or, okv_on, okv_ar, okv_b, isA_s, alen_s, cat_i, cat_r, cat_n, finC_s, hPe, rv, nar1, nar0,  b2i_0, oI_n, oI_s, d24, d168, d100, Int32.le_refl, vpT, nIc8, nIc12, nIc40, nIc200, hup_at, and_self, and_false, false_and, Nat.reduceEqDiff, Nat.reduceEqDiff, reduceCtorEq, ie_m1_0, il_m1_0, ie_m1_1, il_m1_1, ie_m1_2, il_m1_2, ie_m1_3, il_m1_3, ie_m1_4, ie_m1_5, ie_m1_6, ie_m1_7, ie_m1_8, ie_0_m1, il_0_0, ie_0_1, il_0_1, ie_0_2, il_0_2, ie_0_3, il_0_3, ie_0_4, ie_0_5, ie_0_6, ie_0_7, ie_0_8, ie_1_m1, ie_1_0, il_1_0, il_1_1, ie_1_2, il_1_2, ie_1_3, il_1_3, ie_1_4, ie_1_5, ie_1_6, ie_1_7, ie_1_8, ie_2_m1, ie_2_0, il_2_0, ie_2_1, il_2_1, il_2_2, ie_2_3, il_2_3, ie_2_4, ie_2_5, ie_2_6, ie_2_7, ie_2_8, ie_3_m1, ie_3_0, il_3_0, ie_3_1, il_3_1, ie_3_2, il_3_2, il_3_3, ie_3_4, ie_3_5, ie_3_6, ie_3_7, ie_3_8, ie_4_m1, ie_4_0, il_4_0, ie_4_1, il_4_1, ie_4_2, il_4_2, ie_4_3, il_4_3, ie_4_5, ie_4_6, ie_4_7, ie_4_8, ie_5_m1, ie_5_0, il_5_0, ie_5_1, il_5_1, ie_5_2, il_5_2, ie_5_3, il_5_3, ie_5_4, ie_5_6, ie_5_7, ie_5_8, ie_6_m1, ie_6_0, il_6_0, ie_6_1, il_6_1, ie_6_2, il_6_2, ie_6_3, il_6_3, ie_6_4, ie_6_5, ie_6_7, ie_6_8, ie_7_m1, ie_7_0, il_7_0, ie_7_1, il_7_1, ie_7_2, il_7_2, ie_7_3, il_7_3, ie_7_4, ie_7_5, ie_7_6, ie_7_8, ie_8_m1, ie_8_0, il_8_0, ie_8_1, il_8_1, ie_8_2, il_8_2, ie_8_3, il_8_3, ie_8_4, ie_8_5, ie_8_6, ie_8_7, Nat.reduceAdd, Nat.reduceSub, Nat.reduceLT, Nat.reduceLeDiff, Nat.reduceBEq, Bool.or_false, Bool.false_or, Bool.or_true, Bool.true_or, Bool.or_self, Bool.false_eq_true, ↓reduceIte, Nat.le_refl, Nat.zero_le, nI_p1, Option.toList, not_true_eq_false, not_false_eq_true, isRf_o, isR_o, isR_a, cat_o, okv_fo, okv_fa, orf_s, orf_n, both_t, both_f, rfn_n, rfn_s, eq_self, forall_const, qX2_init_0, qX2_init_1, qX2_init_4, qX2_init_5, qX2_init_6, qX2_init_9, qX2_init_10, qX2_init_11, qX2_init_14, qX2_init_17, qX2_init_18, qX2_init_19, qX2_init_22, qX2_init_25, qX2_init_26, qX2_init_27, qX2_init_30, qX2_init_33, qX2_init_34, qX2_init_35, qX2_init_38, qX2_init_41, rr.k3 hc, rr.f3_0 hc, rr.f3_1 hc, rr.f3_2 hc, rr.f3_3 hc, rr.f3_4 hc, rr.f3_5 hc, rr.k6 h6, rr.f6_0 h6, rr.f6_1 h6, rr.f6_2 h6, rr.f6_3 h6, rr.f6_4 h6, rr.f6_5 h6, rr.f6_6 h6, rr.f6_7 h6, rr.aq h6 hc]
  exact (((((CTo.rf rr).puti (k := 3) (i := c) 0 n hc rfl).puti (k := 3) (i := c) 1 (Z.1 6 0 4) hc rfl).puti (k := 3) (i := c) 2 (Z.1 6 0 5) hc rfl).puti (k := 3) (i := c) 3 (Z.1 6 0 6) hc rfl).puti (k := 3) (i := c) 4 (Z.1 6 0 7) hc rfl
end C13
/-- an offer is put down -/
def OFP (N : Nat → Nat) (Z : ZS) (w g t : Nat) (Z' : ZS) : Prop :=
  Z'.1 0 0 10 = nI (N 5 + 1) ∧ (∀ k i f, ¬ (k = 0 ∧ i = 0 ∧ f = 10) → ¬ (k = 5 ∧ i = N 5) → Z'.1 k i f = Z.1 k i f) ∧ Z'.1 5 (N 5) 3 = 1 ∧ (Z'.2 5 (N 5) 0 = some w ∧ Z'.2 5 (N 5) 1 = some g ∧ Z'.2 5 (N 5) 2 = some t) ∧ Z'.2 11 0 (N 5) = some (N 5) ∧ ∀ k i f, ¬ (k = 5 ∧ i = N 5) → ¬ (k = 11 ∧ i = 0 ∧ f = N 5) → Z'.2 k i f = Z.2 k i f
/-- a shift is put down -/
def SHP (N : Nat → Nat) (Z : ZS) (x y z : Int32) (Z' : ZS) : Prop :=
  Z'.1 0 0 7 = nI (N 2 + 1) ∧ (∀ k i f, ¬ (k = 0 ∧ i = 0 ∧ f = 7) → ¬ (k = 2 ∧ i = N 2) → Z'.1 k i f = Z.1 k i f) ∧ (Z'.1 2 (N 2) 0 = nI (N 2) ∧ Z'.1 2 (N 2) 1 = z ∧ Z'.1 2 (N 2) 2 = x ∧ Z'.1 2 (N 2) 3 = x + y ∧ Z'.1 2 (N 2) 4 = x ∧ Z'.1 2 (N 2) 5 = x + y) ∧ (Z'.2 2 (N 2) 6 = none ∧ Z'.2 2 (N 2) 7 = none) ∧ Z'.2 8 0 (N 2) = some (N 2) ∧ ∀ k i f, ¬ (k = 2 ∧ i = N 2) → ¬ (k = 8 ∧ i = 0 ∧ f = N 2) → Z'.2 k i f = Z.2 k i f
section O7A
variable {N : Nat → Nat} {Z Z' : ZS} {S : MS}
theorem inv_offer (i : INV N Z S) {w g t : Nat} (hlt : N 5 < 40) (hw : w < 8) (hg : g < N 2) (ht : t < N 2) (hgw : Z.2 2 g 6 = some w) (htv : ∃ v, Z.2 2 t 6 = some v ∧ v ≠ w) (p : OFP N Z w g t Z') : INV (nup N 5) Z' (fup (thr S 0).1 28 (nI (N 5 + 1)), aup (aup (aup S.2 29 (N 5) (nI g)) 30 (N 5) (nI t)) 31 (N 5) 1) := by
  obtain ⟨p1, p2, p3, ⟨p4, p5, p6⟩, p7, p8⟩ := p
  have n5 : nup N 5 5 = N 5 + 1 := rfl
  have i1 : ∀ k i f, k ≠ 0 → k ≠ 5 → Z'.1 k i f = Z.1 k i f := fun k i f h0 h5 => p2 k i f (fun z => h0 z.1) (fun z => h5 z.1)
  have i0 : ∀ f, f ≠ 10 → Z'.1 0 0 f = Z.1 0 0 f := fun f hf => p2 0 0 f (fun z => hf z.2.2) (fun z => by simp at z)
  have i5 : ∀ o f, o ≠ N 5 → Z'.1 5 o f = Z.1 5 o f := fun o f ho => p2 5 o f (fun z => by simp at z) (fun z => ho z.2)
  have o1 : ∀ k i f, k ≠ 5 → k ≠ 11 → Z'.2 k i f = Z.2 k i f := fun k i f h5 h11 => p8 k i f (fun z => h5 z.1) (fun z => h11 z.1)
  have o5 : ∀ o f, o ≠ N 5 → Z'.2 5 o f = Z.2 5 o f := fun o f ho => p8 5 o f (fun z => ho z.2) (fun z => by simp at z)
  have o11 : ∀ f, f ≠ N 5 → Z'.2 11 0 f = Z.2 11 0 f := fun f hf => p8 11 0 f (fun z => by simp at z) (fun z => hf z.2.2)
  have hb : ∀ s r, bkz Z' s r = bkz Z s r := fun s r => bkz_cg (o1 2 s 6 (by decide) (by decide)) (fun w _ => ⟨by funext j; exact o1 14 w j (by decide) (by decide), fun _ t f _ => i1 2 t f (by decide) (by decide)⟩) (fun f => i1 2 s f (by decide) (by decide)) (fun f => i1 3 r f (by decide) (by decide))
  obtain ⟨⟨st, ⟨rct, rwk, rsh, rru, rcl, rof, rtx⟩, ⟨io, ir, iu⟩, ich, iun, ist, iex⟩, jf, oi, rng, r21⟩ := i
  refine ⟨⟨?_, ⟨?_, fun v hv => ?_, fun s hs => ?_, fun r hr => ?_, fun c hc => ?_, fun o ho => ?_, fun j hj => ?_⟩, ⟨io.cg (fun w j _ => o1 14 w j (by decide) (by decide)) (fun s _ => o1 2 s 6 (by decide) (by decide)) (fun s => i1 2 s 4 (by decide) (by decide)) rfl, fun s hs => ?_, fun r hr => ?_⟩, fun s hs => ?_, fun c c' hc hc' => ?_, fun c hc => ?_, fun c w s r hc => ?_⟩, ⟨fun c w s r hc => ?_, fun s r hs hr v hv => ?_⟩, fun o ho => ?_, ?_, r21⟩
  · obtain ⟨⟨a0, a1, a2, a3, a4, a5, a6, a7, a8⟩, b1, b2, b3, ⟨c1, c2, c3, c4, c5⟩, ⟨d1, d2, d3, d4⟩, e1, e2, e3, e4⟩ := st
    refine ⟨⟨a0, a1, a2, a3, a4, by rw [n5]; omega, a6, fun k h1 h2 => ?_, a8⟩, fun f hf => ?_, fun v hv => ?_, ?_, ⟨fun j hj => ?_, fun j hj => ?_, fun j hj => ?_, fun j hj => ?_, fun j hj => ?_⟩, ⟨?_, ?_, ?_, ?_⟩, fun s hs => ?_, fun s hs => ?_, fun c hc => ?_, fun o ho => ?_⟩
    · show (if k = 5 then N 5 + 1 else N k) = 1
      rw [if_neg (by omega)]; exact a7 k h1 h2
    · rw [o1 0 0 f (by decide) (by decide)]; exact b1 f hf
    · rw [o1 1 v 1 (by decide) (by decide), i1 1 v 0 (by decide) (by decide)]; exact b2 v hv
    · rw [o1 6 0 0 (by decide) (by decide)]; exact b3
    · rw [o1 7 0 j (by decide) (by decide)]; exact c1 j hj
    · rw [o1 8 0 j (by decide) (by decide)]; exact c2 j hj
    · rw [o1 9 0 j (by decide) (by decide)]; exact c3 j hj
    · rw [o1 10 0 j (by decide) (by decide)]; exact c4 j hj
    · rw [n5]
      by_cases e : j = N 5
      · subst e; rw [p7, if_pos (by omega)]
      · rw [o11 j e, c5 j hj]
        by_cases e2 : j < N 5
        · rw [if_pos e2, if_pos (by omega)]
        · rw [if_neg e2, if_neg (by omega)]
    · rw [i0 7 (by decide)]; exact d1
    · rw [i0 8 (by decide)]; exact d2
    · rw [i0 9 (by decide)]; exact d3
    · rw [n5]; exact p1
    · rw [i1 2 s 0 (by decide) (by decide)]; exact e1 s hs
    · rw [i1 3 s 0 (by decide) (by decide)]; exact e2 s hs
    · rw [o1 4 c 0 (by decide) (by decide), o1 4 c 1 (by decide) (by decide), o1 4 c 2 (by decide) (by decide)]; exact e3 c hc
    · by_cases e : o = N 5
      · subst e; exact ⟨w, g, t, p4, p5, p6⟩
      · rw [o5 o 0 e, o5 o 1 e, o5 o 2 e]; exact e4 o (by rw [n5] at ho; omega)
  · obtain ⟨a1, a2, a3, a4, a5, a6⟩ := rct
    refine ⟨a1, a2, a3, rfl, ?_, ?_⟩
    · rw [i0 11 (by decide)]; exact a5
    · rw [i1 6 0 1 (by decide) (by decide)]; exact a6
  · rw [i1 1 v 2 (by decide) (by decide), i1 1 v 3 (by decide) (by decide)]; exact rwk v hv
  · rw [i1 2 s 1 (by decide) (by decide), i1 2 s 2 (by decide) (by decide), i1 2 s 3 (by decide) (by decide), i1 2 s 4 (by decide) (by decide), i1 2 s 5 (by decide) (by decide), o1 2 s 6 (by decide) (by decide)]; exact rsh s hs
  · rw [i1 3 r 1 (by decide) (by decide), i1 3 r 2 (by decide) (by decide), i1 3 r 3 (by decide) (by decide), i1 3 r 4 (by decide) (by decide), i1 3 r 5 (by decide) (by decide)]; exact rru r hr
  · rw [i1 4 c 4 (by decide) (by decide), i1 4 c 5 (by decide) (by decide), o1 4 c 0 (by decide) (by decide), o1 4 c 1 (by decide) (by decide), o1 4 c 2 (by decide) (by decide)]; exact rcl c hc
  · by_cases e : o = N 5
    · subst e
      rw [p5, p6, p3]
      simp [aup, oI]
    · rw [o5 o 1 e, o5 o 2 e, i5 o 3 e]
      have := rof o (by rw [n5] at ho; omega)
      simp [aup, e]
      exact this
  · rw [i1 13 0 j (by decide) (by decide)]; exact rtx j hj
  · rw [i1 2 s 4 (by decide) (by decide)]; exact ir s hs
  · rw [i1 3 r 1 (by decide) (by decide), i1 3 r 2 (by decide) (by decide)]; exact iu r hr
  · obtain ⟨Ls, l1, l2⟩ := ich s hs
    refine ⟨Ls, ?_, fun c => by rw [o1 4 c 1 (by decide) (by decide)]; exact l2 c⟩
    rw [o1 2 s 7 (by decide) (by decide)]
    exact lnk_cg (Z := Z) Ls _ (fun c _ => o1 4 c 3 (by decide) (by decide)) l1
  · rw [o1 4 c 0 (by decide) (by decide), o1 4 c 1 (by decide) (by decide), o1 4 c 2 (by decide) (by decide), o1 4 c' 0 (by decide) (by decide), o1 4 c' 1 (by decide) (by decide), o1 4 c' 2 (by decide) (by decide)]
    exact iun c c' hc hc'
  · rw [i1 4 c 4 (by decide) (by decide)]; exact ist c hc
  · rw [o1 4 c 0 (by decide) (by decide), o1 4 c 1 (by decide) (by decide), o1 4 c 2 (by decide) (by decide)]
    exact iex c w s r hc
  · rw [o1 4 c 0 (by decide) (by decide), o1 4 c 1 (by decide) (by decide), o1 4 c 2 (by decide) (by decide), i1 4 c 4 (by decide) (by decide), o1 2 s 6 (by decide) (by decide), hb]
    exact jf.1 c w s r hc
  · rw [o1 2 s 6 (by decide) (by decide)] at hv
    rw [hb]
    intro hbk
    rcases jf.2 s r hs hr v hv hbk with ⟨c, hc, z0, z1, z2, z4⟩ | ⟨h1, h2⟩
    · exact Or.inl ⟨c, hc, by rw [o1 4 c 0 (by decide) (by decide)]; exact z0, by rw [o1 4 c 1 (by decide) (by decide)]; exact z1, by rw [o1 4 c 2 (by decide) (by decide)]; exact z2, by rw [i1 4 c 4 (by decide) (by decide)]; exact z4⟩
    · refine Or.inr ⟨h1, fun c hc => ?_⟩
      rw [o1 4 c 0 (by decide) (by decide), o1 4 c 1 (by decide) (by decide), o1 4 c 2 (by decide) (by decide)]
      exact h2 c hc
  · by_cases e : o = N 5
    · subst e
      refine ⟨Or.inr p3, w, g, t, p4, p5, p6, hw, hg, ht, fun _ => ?_⟩
      rw [o1 2 g 6 (by decide) (by decide), o1 2 t 6 (by decide) (by decide)]
      exact ⟨hgw, htv⟩
    · obtain ⟨b0, w, g, t, b1, b2, b3, b4, b5, b6, b7⟩ := oi o (by rw [n5] at ho; omega)
      rw [o5 o 0 e, o5 o 1 e, o5 o 2 e, i5 o 3 e]
      refine ⟨b0, w, g, t, b1, b2, b3, b4, b5, b6, fun z => ?_⟩
      rw [o1 2 g 6 (by decide) (by decide), o1 2 t 6 (by decide) (by decide)]
      exact b7 z
  · rw [i0 11 (by decide), i1 6 0 1 (by decide) (by decide)]
    exact rng
theorem inv_shift (i : INV N Z S) {x y z : Int32} (hlt : N 2 < 40) (hwf : ∀ w j t, w < 8 → Z.2 14 w j = some t → t < N 2) (hx : ∃ m, m ≤ 2000 ∧ x = nI m) (p : SHP N Z x y z Z') : INV (nup N 2) Z' (fup (thr S 0).1 3 (nI (N 2 + 1)), aup (aup (aup (aup (aup (aup S.2 4 (N 2) x) 5 (N 2) (x + y)) 8 (N 2) x) 9 (N 2) (x + y)) 6 (N 2) z) 7 (N 2) (-1)) := by
  obtain ⟨p1, p2, ⟨p30, p31, p32, p33, p34, p35⟩, ⟨p4, p5⟩, p7, p8⟩ := p
  have n2 : nup N 2 2 = N 2 + 1 := rfl
  have i1 : ∀ k i f, k ≠ 0 → k ≠ 2 → Z'.1 k i f = Z.1 k i f := fun k i f h0 h5 => p2 k i f (fun z => h0 z.1) (fun z => h5 z.1)
  have i0 : ∀ f, f ≠ 7 → Z'.1 0 0 f = Z.1 0 0 f := fun f hf => p2 0 0 f (fun z => hf z.2.2) (fun z => by simp at z)
  have i2 : ∀ o f, o ≠ N 2 → Z'.1 2 o f = Z.1 2 o f := fun o f ho => p2 2 o f (fun z => by simp at z) (fun z => ho z.2)
  have o1 : ∀ k i f, k ≠ 2 → k ≠ 8 → Z'.2 k i f = Z.2 k i f := fun k i f h5 h11 => p8 k i f (fun z => h5 z.1) (fun z => h11 z.1)
  have o2 : ∀ o f, o ≠ N 2 → Z'.2 2 o f = Z.2 2 o f := fun o f ho => p8 2 o f (fun z => ho z.2) (fun z => by simp at z)
  have o8 : ∀ f, f ≠ N 2 → Z'.2 8 0 f = Z.2 8 0 f := fun f hf => p8 8 0 f (fun z => by simp at z) (fun z => hf z.2.2)
  obtain ⟨⟨st, ⟨rct, rwk, rsh, rru, rcl, rof, rtx⟩, ⟨io, ir, iu⟩, ich, iun, ist, iex⟩, jf, oi, rng, r21⟩ := i
  have hb : ∀ s r, s < N 2 → bkz Z' s r = bkz Z s r := fun s r hs => bkz_cg (o2 s 6 (by omega)) (fun w hw => ⟨by funext j; exact o1 14 w j (by decide) (by decide), fun j t f ht => i2 t f (by have := hwf w j t (io.2 s w hs hw) ht; omega)⟩) (fun f => i2 s f (by omega)) (fun f => i1 3 r f (by decide) (by decide))
  refine ⟨⟨?_, ⟨?_, fun v hv => ?_, fun s hs => ?_, fun r hr => ?_, fun c hc => ?_, fun o ho => ?_, fun j hj => ?_⟩, ⟨⟨fun w hw => ?_, fun s w hs he => ?_⟩, fun s hs => ?_, fun r hr => ?_⟩, fun s hs => ?_, fun c c' hc hc' => ?_, fun c hc => ?_, fun c w s r hc z0 z1 z2 => ?_⟩, ⟨fun c w s r hc z0 z1 z2 => ?_, fun s r hs hr v hv => ?_⟩, fun o ho => ?_, ?_, r21⟩
  · obtain ⟨⟨a0, a1, a2, a3, a4, a5, a6, a7, a8⟩, b1, b2, b3, ⟨c1, c2, c3, c4, c5⟩, ⟨d1, d2, d3, d4⟩, e1, e2, e3, e4⟩ := st
    refine ⟨⟨a0, a1, by rw [n2]; omega, a3, a4, a5, a6, fun k h1 h2 => ?_, a8⟩, fun f hf => ?_, fun v hv => ?_, ?_, ⟨fun j hj => ?_, fun j hj => ?_, fun j hj => ?_, fun j hj => ?_, fun j hj => ?_⟩, ⟨?_, ?_, ?_, ?_⟩, fun s hs => ?_, fun s hs => ?_, fun c hc => ?_, fun o ho => ?_⟩
    · show (if k = 2 then N 2 + 1 else N k) = 1
      rw [if_neg (by omega)]; exact a7 k h1 h2
    · rw [o1 0 0 f (by decide) (by decide)]; exact b1 f hf
    · rw [o1 1 v 1 (by decide) (by decide), i1 1 v 0 (by decide) (by decide)]; exact b2 v hv
    · rw [o1 6 0 0 (by decide) (by decide)]; exact b3
    · rw [o1 7 0 j (by decide) (by decide)]; exact c1 j hj
    · rw [n2]
      by_cases e : j = N 2
      · subst e; rw [p7, if_pos (by omega)]
      · rw [o8 j e, c2 j hj]
        by_cases e2 : j < N 2
        · rw [if_pos e2, if_pos (by omega)]
        · rw [if_neg e2, if_neg (by omega)]
    · rw [o1 9 0 j (by decide) (by decide)]; exact c3 j hj
    · rw [o1 10 0 j (by decide) (by decide)]; exact c4 j hj
    · rw [o1 11 0 j (by decide) (by decide)]; exact c5 j hj
    · rw [n2]; exact p1
    · rw [i0 8 (by decide)]; exact d2
    · rw [i0 9 (by decide)]; exact d3
    · rw [i0 10 (by decide)]; exact d4
    · by_cases e : s = N 2
      · subst e; exact p30
      · rw [i2 s 0 e]; exact e1 s (by rw [n2] at hs; omega)
    · rw [i1 3 s 0 (by decide) (by decide)]; exact e2 s hs
    · rw [o1 4 c 0 (by decide) (by decide), o1 4 c 1 (by decide) (by decide), o1 4 c 2 (by decide) (by decide)]; exact e3 c hc
    · rw [o1 5 o 0 (by decide) (by decide), o1 5 o 1 (by decide) (by decide), o1 5 o 2 (by decide) (by decide)]; exact e4 o ho
  · obtain ⟨a1, a2, a3, a4, a5, a6⟩ := rct
    refine ⟨rfl, a2, a3, a4, ?_, ?_⟩
    · rw [i0 11 (by decide)]; exact a5
    · rw [i1 6 0 1 (by decide) (by decide)]; exact a6
  · rw [i1 1 v 2 (by decide) (by decide), i1 1 v 3 (by decide) (by decide)]; exact rwk v hv
  · by_cases e : s = N 2
    · subst e
      rw [p31, p32, p33, p34, p35, p4]
      simp [aup, oI]
    · rw [i2 s 1 e, i2 s 2 e, i2 s 3 e, i2 s 4 e, i2 s 5 e, o2 s 6 e]
      have := rsh s (by rw [n2] at hs; omega)
      simp [aup, e]
      exact this
  · rw [i1 3 r 1 (by decide) (by decide), i1 3 r 2 (by decide) (by decide), i1 3 r 3 (by decide) (by decide), i1 3 r 4 (by decide) (by decide), i1 3 r 5 (by decide) (by decide)]; exact rru r hr
  · rw [i1 4 c 4 (by decide) (by decide), i1 4 c 5 (by decide) (by decide), o1 4 c 0 (by decide) (by decide), o1 4 c 1 (by decide) (by decide), o1 4 c 2 (by decide) (by decide)]; exact rcl c hc
  · rw [i1 5 o 3 (by decide) (by decide), o1 5 o 1 (by decide) (by decide), o1 5 o 2 (by decide) (by decide)]; exact rof o ho
  · rw [i1 13 0 j (by decide) (by decide)]; exact rtx j hj
  · obtain ⟨ls, a1, a2, a3⟩ := io.1 w hw
    refine ⟨ls, fun j hj => by rw [o1 14 w j (by decide) (by decide)]; exact a1 j hj, fun t => ?_, ?_⟩
    · rw [a2 t, n2]
      by_cases e : t = N 2
      · subst e
        rw [p4]
        exact ⟨fun z => absurd z.1 (by omega), fun z => (nomatch z.2)⟩
      · rw [o2 t 6 e]
        exact ⟨fun z => ⟨by omega, z.2⟩, fun z => ⟨by omega, z.2⟩⟩
    · refine List.Pairwise.imp_of_mem (fun {a c} ha hc hh => ?_) a3
      have ha2 := ((a2 a).mp ha).1
      have hc2 := ((a2 c).mp hc).1
      unfold LTk at hh ⊢
      dsimp only at hh ⊢
      rw [i2 a 4 (by omega), i2 c 4 (by omega)]
      exact hh
  · by_cases e : s = N 2
    · subst e; rw [p4] at he; cases he
    · rw [o2 s 6 e] at he; exact io.2 s w (by rw [n2] at hs; omega) he
  · by_cases e : s = N 2
    · subst e; rw [p34]; exact hx
    · rw [i2 s 4 e]; exact ir s (by rw [n2] at hs; omega)
  · rw [i1 3 r 1 (by decide) (by decide), i1 3 r 2 (by decide) (by decide)]; exact iu r hr
  · by_cases e : s = N 2
    · subst e
      refine ⟨[], p5, fun c => ⟨fun z => (nomatch z), fun ⟨z1, z2⟩ => ?_⟩⟩
      rw [o1 4 c 1 (by decide) (by decide)] at z2
      obtain ⟨w', s', r', y0, y1, y2⟩ := st.cl z1
      have := (iex c w' s' r' z1 y0 y1 y2).2.1
      rw [y1] at z2
      cases z2
      omega
    · obtain ⟨Ls, l1, l2⟩ := ich s (by rw [n2] at hs; omega)
      refine ⟨Ls, ?_, fun c => by rw [o1 4 c 1 (by decide) (by decide)]; exact l2 c⟩
      rw [o2 s 7 e]
      exact lnk_cg (Z := Z) Ls _ (fun c _ => o1 4 c 3 (by decide) (by decide)) l1
  · rw [o1 4 c 0 (by decide) (by decide), o1 4 c 1 (by decide) (by decide), o1 4 c 2 (by decide) (by decide), o1 4 c' 0 (by decide) (by decide), o1 4 c' 1 (by decide) (by decide), o1 4 c' 2 (by decide) (by decide)]
    exact iun c c' hc hc'
  · rw [i1 4 c 4 (by decide) (by decide)]; exact ist c hc
  · rw [o1 4 c 0 (by decide) (by decide)] at z0
    rw [o1 4 c 1 (by decide) (by decide)] at z1
    rw [o1 4 c 2 (by decide) (by decide)] at z2
    obtain ⟨q1, q2, q3⟩ := iex c w s r hc z0 z1 z2
    exact ⟨q1, by rw [n2]; omega, q3⟩
  · rw [o1 4 c 0 (by decide) (by decide)] at z0
    rw [o1 4 c 1 (by decide) (by decide)] at z1
    rw [o1 4 c 2 (by decide) (by decide)] at z2
    obtain ⟨q1, q2, q3⟩ := iex c w s r hc z0 z1 z2
    rw [i1 4 c 4 (by decide) (by decide), o2 s 6 (by omega), hb s r q2]
    exact jf.1 c w s r hc z0 z1 z2
  · by_cases e : s = N 2
    · subst e; rw [p4] at hv; cases hv
    · have hs2 : s < N 2 := by rw [n2] at hs; omega
      rw [o2 s 6 e] at hv
      rw [hb s r hs2]
      intro hbk
      rcases jf.2 s r hs2 hr v hv hbk with ⟨c, hc, z0, z1, z2, z4⟩ | ⟨h1, h2⟩
      · exact Or.inl ⟨c, hc, by rw [o1 4 c 0 (by decide) (by decide)]; exact z0, by rw [o1 4 c 1 (by decide) (by decide)]; exact z1, by rw [o1 4 c 2 (by decide) (by decide)]; exact z2, by rw [i1 4 c 4 (by decide) (by decide)]; exact z4⟩
      · refine Or.inr ⟨h1, fun c hc => ?_⟩
        rw [o1 4 c 0 (by decide) (by decide), o1 4 c 1 (by decide) (by decide), o1 4 c 2 (by decide) (by decide)]
        exact h2 c hc
  · obtain ⟨b0, w, g, t, b1, b2, b3, b4, b5, b6, b7⟩ := oi o ho
    rw [o1 5 o 0 (by decide) (by decide), o1 5 o 1 (by decide) (by decide), o1 5 o 2 (by decide) (by decide), i1 5 o 3 (by decide) (by decide)]
    refine ⟨b0, w, g, t, b1, b2, b3, b4, by rw [n2]; omega, by rw [n2]; omega, fun z => ?_⟩
    rw [o2 g 6 (by omega), o2 t 6 (by omega)]
    exact b7 z
  · rw [i0 11 (by decide), i1 6 0 1 (by decide) (by decide)]
    exact rng
end O7A
