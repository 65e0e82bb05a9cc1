/-- a claim is put down -/
def MKP (N : Nat → Nat) (Z : ZS) (w s r : Nat) (Z' : ZS) : Prop :=
  Z'.1 0 0 9 = nI (N 4 + 1) ∧ (∀ k i f, ¬ (k = 0 ∧ i = 0 ∧ f = 9) → ¬ (k = 4 ∧ i = N 4) → Z'.1 k i f = Z.1 k i f) ∧ (Z'.1 4 (N 4) 4 = 0 ∧ Z'.1 4 (N 4) 5 = 0) ∧ (Z'.2 4 (N 4) 0 = some w ∧ Z'.2 4 (N 4) 1 = some s ∧ Z'.2 4 (N 4) 2 = some r ∧ Z'.2 4 (N 4) 3 = Z.2 2 s 7) ∧ (Z'.2 2 s 7 = some (N 4) ∧ Z'.2 10 0 (N 4) = some (N 4)) ∧
  ∀ k i f, ¬ (k = 4 ∧ i = N 4) → ¬ (k = 2 ∧ i = s ∧ f = 7) → ¬ (k = 10 ∧ i = 0 ∧ f = N 4) → Z'.2 k i f = Z.2 k i f
section C8
variable {l : Launch} {D : Dg} {b : Nat} {h : Hp} {N : Nat → Nat} {ad : Nat → Nat → Nat} {Z : ZS}
theorem u_makeClaim (hfl : l.flags = flags0) (rr : RR N ad Z h) (st : St N Z) {w s r : Nat} (hw : w < N 1) (hs : s < N 2) (hr : r < N 3) : Cal l D b iX6_makeClaim 2 1 6 [.ref (ad 0 0), .ref (ad 1 w), .ref (ad 2 s), .ref (ad 3 r)] h (fun v h' => v = none ∧ ((¬ N 4 < 200 ∧ h' = h) ∨ (N 4 < 200 ∧ ∃ q Z', MKP N Z w s r Z' ∧ CNw N ad h (nup N 4) (adp ad 4 (N 4) q) Z' h'))) nox := by
  refine v_entry iX6_makeClaim pl6 mX6_makeClaim (by simp only [List.forall_mem_cons, List.not_mem_nil, false_implies, cat_o, cat_r, cat_i, cat_n, and_self, implies_true]) hfl ?_
  rintro ⟨⟨p, l9, e, R⟩, ⟨sz, mi, args, below⟩, ⟨meth, cx, D9, b9⟩, ⟨P, X, mc, ms⟩⟩ rfl rfl rfl hPX K
  injection hPX with hP hPX
  injection hPX with hX hPX
  injection hPX with hMC hMS
  subst hMC hMS
  have hPe := fun r h9 => congrFun (congrFun hP r) h9
  have hx := st.n0
  have hA := st.nA 10 (by decide)
  have h4 := st.1.2.2.2.2.1
  by_cases hlt : N 4 < 200
  · have q1 : nI (N 4) < nI 200 := by rw [nJ_lt (by omega) (by omega)]; exact hlt
    refine ry1_ok K FokX6 none noini [13] 60 ?_
    simp only [ry1_s, ry_s, ry_0, hit, true_and, and_true, List.map_cons, List.map_nil, List.length_cons, List.length_nil, List.replicate, List.cons_append, List.nil_append, List.append_nil, List.length_append, List.set_cons_zero, List.set_cons_succ, lgt_0, lgt_s, lhas_0, lhas_s, isI_i, isRf_r, isRf_n, inc_i, of1, ofm1, rokI_i, rokI_0, rokI_1, rokI_b, okv_i, okv_z0, okv_z1, okv_or, okv_on, okv_ar, okv_b, isA_s, alen_s, cat_i, cat_r, cat_n, finC_s, hPe, rv, nar1, nar0,  b2i_0, oI_n, oI_s, d24, d168, d100, Int32.le_refl, vpT, nIc8, nIc12, nIc40, nIc200, hup_at, and_self, and_false, false_and, Nat.reduceEqDiff, Nat.reduceEqDiff, reduceCtorEq, ie_m1_0, il_m1_0, ie_m1_1, il_m1_1, ie_m1_2, il_m1_2, ie_m1_3, il_m1_3, ie_m1_4, ie_m1_5, ie_m1_6, ie_m1_7, ie_m1_8, ie_0_m1, il_0_0, ie_0_1, il_0_1, ie_0_2, il_0_2, ie_0_3, il_0_3, ie_0_4, ie_0_5, ie_0_6, ie_0_7, ie_0_8, ie_1_m1, ie_1_0, il_1_0, il_1_1, ie_1_2, il_1_2, ie_1_3, il_1_3, ie_1_4, ie_1_5, ie_1_6, ie_1_7, ie_1_8, ie_2_m1, ie_2_0, il_2_0, ie_2_1, il_2_1, il_2_2, ie_2_3, il_2_3, ie_2_4, ie_2_5, ie_2_6, ie_2_7, ie_2_8, ie_3_m1, ie_3_0, il_3_0, ie_3_1, il_3_1, ie_3_2, il_3_2, il_3_3, ie_3_4, ie_3_5, ie_3_6, ie_3_7, ie_3_8, ie_4_m1, ie_4_0, il_4_0, ie_4_1, il_4_1, ie_4_2, il_4_2, ie_4_3, il_4_3, ie_4_5, ie_4_6, ie_4_7, ie_4_8, ie_5_m1, ie_5_0, il_5_0, ie_5_1, il_5_1, ie_5_2, il_5_2, ie_5_3, il_5_3, ie_5_4, ie_5_6, ie_5_7, ie_5_8, ie_6_m1, ie_6_0, il_6_0, ie_6_1, il_6_1, ie_6_2, il_6_2, ie_6_3, il_6_3, ie_6_4, ie_6_5, ie_6_7, ie_6_8, ie_7_m1, ie_7_0, il_7_0, ie_7_1, il_7_1, ie_7_2, il_7_2, ie_7_3, il_7_3, ie_7_4, ie_7_5, ie_7_6, ie_7_8, ie_8_m1, ie_8_0, il_8_0, ie_8_1, il_8_1, ie_8_2, il_8_2, ie_8_3, il_8_3, ie_8_4, ie_8_5, ie_8_6, ie_8_7, Nat.reduceAdd, Nat.reduceSub, Nat.reduceLT, Nat.reduceLeDiff, Nat.reduceBEq, Bool.or_false, Bool.false_or, Bool.or_true, Bool.true_or, Bool.or_self, Bool.false_eq_true, ↓reduceIte, Nat.le_refl, Nat.zero_le, nI_p1, Option.toList, not_true_eq_false, not_false_eq_true, isRf_o, isR_o, isR_a, cat_o, okv_fo, okv_fa, orf_s, orf_n, both_t, both_f, rfn_n, rfn_s, eq_self, forall_const, qX6_makeClaim_0, qX6_makeClaim_1, qX6_makeClaim_4, qX6_makeClaim_5, qX6_makeClaim_8, qX6_makeClaim_9, qX6_makeClaim_12, qX6_makeClaim_13, qX6_makeClaim_16, qX6_makeClaim_17, qX6_makeClaim_18, qX6_makeClaim_19, qX6_makeClaim_20, qX6_makeClaim_23r, qX6_makeClaim_23n, qX6_makeClaim_25, qX6_makeClaim_26, qX6_makeClaim_28, qX6_makeClaim_31, qX6_makeClaim_32, qX6_makeClaim_35, qX6_makeClaim_36, qX6_makeClaim_39, qX6_makeClaim_41r, qX6_makeClaim_41n, qX6_makeClaim_42, qX6_makeClaim_43, qX6_makeClaim_44, qX6_makeClaim_47, qX6_makeClaim_48, qX6_makeClaim_49, qX6_makeClaim_52, qX6_makeClaim_23_o, qX6_makeClaim_41_o, rr.k0 hx, rr.f0_0 hx, rr.f0_1 hx, rr.f0_2 hx, rr.f0_3 hx, rr.f0_4 hx, rr.f0_5 hx, rr.f0_6 hx, rr.f0_7 hx, rr.f0_8 hx, rr.f0_9 hx, rr.f0_10 hx, rr.f0_11 hx, st.x (f := 3) (by decide), rr.k10 hA, rr.e10 (hi := hA), st.c9, q1]
    refine v_new K (ci := 0) (r := (RX0, TX0, 6)) rfl (List.mem_filter.mpr ⟨by decide +kernel, by decide +kernel⟩) (List.mem_filter.mpr ⟨by decide +kernel, by decide +kernel⟩) (List.mem_filter.mpr ⟨by decide +kernel, by decide +kernel⟩) ⟨by decide, by decide⟩ dX6_makeClaim_13 (fun q hq hbq => ?_)
    have t1 := CNw.new rr 4 hq (g := fun k => defaultValue (vft 0 k)) (fun f => match f with
      | 0 => rfl
      | 1 => rfl
      | 2 => rfl
      | 3 => rfl
      | 4 => rfl
      | _ + 5 => rfl)
    have e00 : ad 0 0 = adp ad 4 (N 4) q 0 0 := (adp_old hx).symm
    have e1 : ad 1 w = adp ad 4 (N 4) q 1 w := (adp_old hw).symm
    have e2 : ad 2 s = adp ad 4 (N 4) q 2 s := (adp_old hs).symm
    have e3 : ad 3 r = adp ad 4 (N 4) q 3 r := (adp_old hr).symm
    have e4 : q = adp ad 4 (N 4) q 4 (N 4) := (adp_new ad 4 (N 4) q).symm
    have t1 : CNw N ad h (nup N 4) (adp ad 4 (N 4) q) (zal Z 4 (N 4)) (kup h.1 q (.inl 0), rup h.2 q (fun k => defaultValue (vft 0 k))) := t1
    generalize hh1 : ((kup h.1 q (.inl 0), rup h.2 q (fun k => defaultValue (vft 0 k))) : Hp) = h1 at t1 ⊢
    rw [e00, e1, e2, e3]
    generalize hst1 : (Value.ref q) = vq
    have evq : vq = .ref (adp ad 4 (N 4) q 4 (N 4)) := by rw [← hst1, adp_new]
    subst evq
    have rr1 := t1.1
    have hx1 : 0 < nup N 4 0 := Nat.lt_of_lt_of_le hx (nup_ge N 4 0)
    have hw1 : w < nup N 4 1 := Nat.lt_of_lt_of_le hw (nup_ge N 4 1)
    have hs1 : s < nup N 4 2 := Nat.lt_of_lt_of_le hs (nup_ge N 4 2)
    have hr1 : r < nup N 4 3 := Nat.lt_of_lt_of_le hr (nup_ge N 4 3)
    have hA1 : 0 < nup N 4 10 := Nat.lt_of_lt_of_le hA (nup_ge N 4 10)
    have hc1 : N 4 < nup N 4 4 := nup_s N 4
    refine ry1_ok K FokX6 none noini [] 60 ?_
    simp only [ry1_s, ry_s, ry_0, hit, true_and, and_true, List.map_cons, List.map_nil, List.length_cons, List.length_nil, List.replicate, List.cons_append, List.nil_append, List.append_nil, List.length_append, List.set_cons_zero, List.set_cons_succ, lgt_0, lgt_s, lhas_0, lhas_s, isI_i, isRf_r, isRf_n, inc_i, of1, ofm1, rokI_i, rokI_0, rokI_1, rokI_b, okv_i, okv_z0, okv_z1, okv_or, okv_on, okv_ar, okv_b, isA_s, alen_s, cat_i, cat_r, cat_n, finC_s, hPe, rv, nar1, nar0,  b2i_0, oI_n, oI_s, d24, d168, d100, Int32.le_refl, vpT, nIc8, nIc12, nIc40, nIc200, hup_at, and_self, and_false, false_and, Nat.reduceEqDiff, Nat.reduceEqDiff, reduceCtorEq, ie_m1_0, il_m1_0, ie_m1_1, il_m1_1, ie_m1_2, il_m1_2, ie_m1_3, il_m1_3, ie_m1_4, ie_m1_5, ie_m1_6, ie_m1_7, ie_m1_8, ie_0_m1, il_0_0, ie_0_1, il_0_1, ie_0_2, il_0_2, ie_0_3, il_0_3, ie_0_4, ie_0_5, ie_0_6, ie_0_7, ie_0_8, ie_1_m1, ie_1_0, il_1_0, il_1_1, ie_1_2, il_1_2, ie_1_3, il_1_3, ie_1_4, ie_1_5, ie_1_6, ie_1_7, ie_1_8, ie_2_m1, ie_2_0, il_2_0, ie_2_1, il_2_1, il_2_2, ie_2_3, il_2_3, ie_2_4, ie_2_5, ie_2_6, ie_2_7, ie_2_8, ie_3_m1, ie_3_0, il_3_0, ie_3_1, il_3_1, ie_3_2, il_3_2, il_3_3, ie_3_4, ie_3_5, ie_3_6, ie_3_7, ie_3_8, ie_4_m1, ie_4_0, il_4_0, ie_4_1, il_4_1, ie_4_2, il_4_2, ie_4_3, il_4_3, ie_4_5, ie_4_6, ie_4_7, ie_4_8, ie_5_m1, ie_5_0, il_5_0, ie_5_1, il_5_1, ie_5_2, il_5_2, ie_5_3, il_5_3, ie_5_4, ie_5_6, ie_5_7, ie_5_8, ie_6_m1, ie_6_0, il_6_0, ie_6_1, il_6_1, ie_6_2, il_6_2, ie_6_3, il_6_3, ie_6_4, ie_6_5, ie_6_7, ie_6_8, ie_7_m1, ie_7_0, il_7_0, ie_7_1, il_7_1, ie_7_2, il_7_2, ie_7_3, il_7_3, ie_7_4, ie_7_5, ie_7_6, ie_7_8, ie_8_m1, ie_8_0, il_8_0, ie_8_1, il_8_1, ie_8_2, il_8_2, ie_8_3, il_8_3, ie_8_4, ie_8_5, ie_8_6, ie_8_7, Nat.reduceAdd, Nat.reduceSub, Nat.reduceLT, Nat.reduceLeDiff, Nat.reduceBEq, Bool.or_false, Bool.false_or, Bool.or_true, Bool.true_or, Bool.or_self, Bool.false_eq_true, ↓reduceIte, Nat.le_refl, Nat.zero_le, nI_p1, Option.toList, not_true_eq_false, not_false_eq_true, isRf_o, isR_o, isR_a, cat_o, okv_fo, okv_fa, orf_s, orf_n, both_t, both_f, rfn_n, rfn_s, eq_self, forall_const, qX6_makeClaim_0, qX6_makeClaim_1, qX6_makeClaim_4, qX6_makeClaim_5, qX6_makeClaim_8, qX6_makeClaim_9, qX6_makeClaim_12, qX6_makeClaim_13, qX6_makeClaim_16, qX6_makeClaim_17, qX6_makeClaim_18, qX6_makeClaim_19, qX6_makeClaim_20, qX6_makeClaim_23r, qX6_makeClaim_23n, qX6_makeClaim_25, qX6_makeClaim_26, qX6_makeClaim_28, qX6_makeClaim_31, qX6_makeClaim_32, qX6_makeClaim_35, qX6_makeClaim_36, qX6_makeClaim_39, qX6_makeClaim_41r, qX6_makeClaim_41n, qX6_makeClaim_42, qX6_makeClaim_43, qX6_makeClaim_44, qX6_makeClaim_47, qX6_makeClaim_48, qX6_makeClaim_49, qX6_makeClaim_52, qX6_makeClaim_23_o, qX6_makeClaim_41_o]
    refine v_callI K (u_Claim_init hfl rr1 hc1 hw1 hs1 hr1) kX6_321 rfl (by decide) rfl (Nat.le_of_ble_eq_true rfl) rfl dX6_makeClaim_20 ⟨by omega, by omega⟩ ?_; rintro _ h2 ⟨rfl, t2⟩
    have q2 : (∀ k i f, ¬ (k = 4 ∧ i = N 4) → (zui (zal Z 4 (N 4)).1 4 (N 4) 4 0) k i f = Z.1 k i f) ∧ (zui (zal Z 4 (N 4)).1 4 (N 4) 4 0 4 (N 4) 4 = 0 ∧ zui (zal Z 4 (N 4)).1 4 (N 4) 4 0 4 (N 4) 5 = 0) := by
      refine ⟨fun k i f hn => ?_, ?_, ?_⟩
      · have : ¬ (k = 4 ∧ i = N 4 ∧ f = 4) := fun z => hn ⟨z.1, z.2.1⟩
        simp [zui, zal, hn, this]
      · simp [zui]
      · simp [zui, zal]
    have q3 : (∀ k i f, ¬ (k = 4 ∧ i = N 4) → (zuo (zuo (zuo (zuo (zal Z 4 (N 4)).2 4 (N 4) 0 (some w)) 4 (N 4) 1 (some s)) 4 (N 4) 2 (some r)) 4 (N 4) 3 ((zal Z 4 (N 4)).2 2 s 7)) k i f = Z.2 k i f) ∧ ((zuo (zuo (zuo (zuo (zal Z 4 (N 4)).2 4 (N 4) 0 (some w)) 4 (N 4) 1 (some s)) 4 (N 4) 2 (some r)) 4 (N 4) 3 ((zal Z 4 (N 4)).2 2 s 7)) 4 (N 4) 0 = some w ∧ (zuo (zuo (zuo (zuo (zal Z 4 (N 4)).2 4 (N 4) 0 (some w)) 4 (N 4) 1 (some s)) 4 (N 4) 2 (some r)) 4 (N 4) 3 ((zal Z 4 (N 4)).2 2 s 7)) 4 (N 4) 1 = some s ∧ (zuo (zuo (zuo (zuo (zal Z 4 (N 4)).2 4 (N 4) 0 (some w)) 4 (N 4) 1 (some s)) 4 (N 4) 2 (some r)) 4 (N 4) 3 ((zal Z 4 (N 4)).2 2 s 7)) 4 (N 4) 2 = some r ∧ (zuo (zuo (zuo (zuo (zal Z 4 (N 4)).2 4 (N 4) 0 (some w)) 4 (N 4) 1 (some s)) 4 (N 4) 2 (some r)) 4 (N 4) 3 ((zal Z 4 (N 4)).2 2 s 7)) 4 (N 4) 3 = Z.2 2 s 7) := by
      refine ⟨fun k i f hn => ?_, ?_, ?_, ?_, ?_⟩
      · have e0 : ∀ j, ¬ (k = 4 ∧ i = N 4 ∧ f = j) := fun j z => hn ⟨z.1, z.2.1⟩
        simp [zuo, zal, hn, e0]
      · simp [zuo]
      · simp [zuo]
      · simp [zuo]
      · simp [zuo, zal]
    refine v_heap2 (Q := fun z => ((∀ k i f, ¬ (k = 4 ∧ i = N 4) → z.1 k i f = Z.1 k i f) ∧ (z.1 4 (N 4) 4 = 0 ∧ z.1 4 (N 4) 5 = 0)) ∧ ((∀ k i f, ¬ (k = 4 ∧ i = N 4) → z.2 k i f = Z.2 k i f) ∧ (z.2 4 (N 4) 0 = some w ∧ z.2 4 (N 4) 1 = some s ∧ z.2 4 (N 4) 2 = some r ∧ z.2 4 (N 4) 3 = Z.2 2 s 7))) t2 ⟨q2, q3⟩ (fun h3 Z3 f3 t3 => ?_)
    clear q2 q3 t2
    obtain ⟨⟨f1, f2⟩, f4, f5⟩ := f3
    have rr3 := t3.1
    have x3 : Z3.2 0 0 3 = some 0 := (f4 0 0 3 (by simp)).trans (st.x (by decide))
    have x9 : Z3.1 0 0 9 = nI (N 4) := (f1 0 0 9 (by simp)).trans st.c9
    have e10 : N 4 < 200 := hlt
    refine ry1_ok K FokX6 none noini [] 60 ?_
    simp only [ry1_s, ry_s, ry_0, hit, true_and, and_true, List.map_cons, List.map_nil, List.length_cons, List.length_nil, List.replicate, List.cons_append, List.nil_append, List.append_nil, List.length_append, List.set_cons_zero, List.set_cons_succ, lgt_0, lgt_s, lhas_0, lhas_s, isI_i, isRf_r, isRf_n, inc_i, of1, ofm1, rokI_i, rokI_0, rokI_1, rokI_b, okv_i, okv_z0, okv_z1, okv_or, okv_on, okv_ar, okv_b, isA_s, alen_s, cat_i, cat_r, cat_n, finC_s, hPe, rv, nar1, nar0,  b2i_0, oI_n, oI_s, d24, d168, d100, Int32.le_refl, vpT, nIc8, nIc12, nIc40, nIc200, hup_at, and_self, and_false, false_and, Nat.reduceEqDiff, Nat.reduceEqDiff, reduceCtorEq, ie_m1_0, il_m1_0, ie_m1_1, il_m1_1, ie_m1_2, il_m1_2, ie_m1_3, il_m1_3, ie_m1_4, ie_m1_5, ie_m1_6, ie_m1_7, ie_m1_8, ie_0_m1, il_0_0, ie_0_1, il_0_1, ie_0_2, il_0_2, ie_0_3, il_0_3, ie_0_4, ie_0_5, ie_0_6, ie_0_7, ie_0_8, ie_1_m1, ie_1_0, il_1_0, il_1_1, ie_1_2, il_1_2, ie_1_3, il_1_3, ie_1_4, ie_1_5, ie_1_6, ie_1_7, ie_1_8, ie_2_m1, ie_2_0, il_2_0, ie_2_1, il_2_1, il_2_2, ie_2_3, il_2_3, ie_2_4, ie_2_5, ie_2_6, ie_2_7, ie_2_8, ie_3_m1, ie_3_0, il_3_0, ie_3_1, il_3_1, ie_3_2, il_3_2, il_3_3, ie_3_4, ie_3_5, ie_3_6, ie_3_7, ie_3_8, ie_4_m1, ie_4_0, il_4_0, ie_4_1, il_4_1, ie_4_2, il_4_2, ie_4_3, il_4_3, ie_4_5, ie_4_6, ie_4_7, ie_4_8, ie_5_m1, ie_5_0, il_5_0, ie_5_1, il_5_1, ie_5_2, il_5_2, ie_5_3, il_5_3, ie_5_4, ie_5_6, ie_5_7, ie_5_8, ie_6_m1, ie_6_0, il_6_0, ie_6_1, il_6_1, ie_6_2, il_6_2, ie_6_3, il_6_3, ie_6_4, ie_6_5, ie_6_7, ie_6_8, ie_7_m1, ie_7_0, il_7_0, ie_7_1, il_7_1, ie_7_2, il_7_2, ie_7_3, il_7_3, ie_7_4, ie_7_5, ie_7_6, ie_7_8, ie_8_m1, ie_8_0, il_8_0, ie_8_1, il_8_1, ie_8_2, il_8_2, ie_8_3, il_8_3, ie_8_4, ie_8_5, ie_8_6, ie_8_7, Nat.reduceAdd, Nat.reduceSub, Nat.reduceLT, Nat.reduceLeDiff, Nat.reduceBEq, Bool.or_false, Bool.false_or, Bool.or_true, Bool.true_or, Bool.or_self, Bool.false_eq_true, ↓reduceIte, Nat.le_refl, Nat.zero_le, nI_p1, Option.toList, not_true_eq_false, not_false_eq_true, isRf_o, isR_o, isR_a, cat_o, okv_fo, okv_fa, orf_s, orf_n, both_t, both_f, rfn_n, rfn_s, eq_self, forall_const, qX6_makeClaim_0, qX6_makeClaim_1, qX6_makeClaim_4, qX6_makeClaim_5, qX6_makeClaim_8, qX6_makeClaim_9, qX6_makeClaim_12, qX6_makeClaim_13, qX6_makeClaim_16, qX6_makeClaim_17, qX6_makeClaim_18, qX6_makeClaim_19, qX6_makeClaim_20, qX6_makeClaim_23r, qX6_makeClaim_23n, qX6_makeClaim_25, qX6_makeClaim_26, qX6_makeClaim_28, qX6_makeClaim_31, qX6_makeClaim_32, qX6_makeClaim_35, qX6_makeClaim_36, qX6_makeClaim_39, qX6_makeClaim_41r, qX6_makeClaim_41n, qX6_makeClaim_42, qX6_makeClaim_43, qX6_makeClaim_44, qX6_makeClaim_47, qX6_makeClaim_48, qX6_makeClaim_49, qX6_makeClaim_52, qX6_makeClaim_23_o, qX6_makeClaim_41_o, rr3.k0 hx1, rr3.f0_0 hx1, rr3.f0_1 hx1, rr3.f0_2 hx1, rr3.f0_3 hx1, rr3.f0_4 hx1, rr3.f0_5 hx1, rr3.f0_6 hx1, rr3.f0_7 hx1, rr3.f0_8 hx1, rr3.f0_9 hx1, rr3.f0_10 hx1, rr3.f0_11 hx1, x3, x9, rr3.k2 hs1, rr3.f2_0 hs1, rr3.f2_1 hs1, rr3.f2_2 hs1, rr3.f2_3 hs1, rr3.f2_4 hs1, rr3.f2_5 hs1, rr3.f2_6 hs1, rr3.f2_7 hs1, rr3.k10 hA1, rr3.e10 (hi := hA1), rr3.k4 hc1, e10, nIc200, show vec 7 = 0 from rfl, rr3.aq hx1 hA1]
    have t4 := ((t3.puto (k := 2) (i := s) (k9 := 4) 7 (some (N 4)) hs1 rfl (fun j hj => by cases hj; exact hc1)).puto (k := 10) (i := 0) (k9 := 4) (N 4) (some (N 4)) hA1 rfl (fun j hj => by cases hj; exact hc1)).puti (k := 0) (i := 0) 9 (nI (N 4 + 1)) hx1 rfl
    refine Or.inr ⟨q, _, ?_, t1.tr (CNw.of t4)⟩
    refine ⟨?_, fun k i f n1 n2 => ?_, ⟨?_, ?_⟩, ⟨?_, ?_, ?_, ?_⟩, ⟨?_, ?_⟩, fun k i f n1 n2 n3 => ?_⟩
    · simp [zui]
    · simp only [zui, if_neg n1]; exact f1 k i f n2
    · simp only [zui]; exact f2.1
    · simp only [zui]; exact f2.2
    · simp [zuo, f5.1]
    · simp [zuo, f5.2.1]
    · simp [zuo, f5.2.2.1]
    · simp [zuo, f5.2.2.2]
    · simp [zuo]
    · simp [zuo]
    · simp only [zuo, if_neg n3, if_neg n2]; exact f4 k i f n1
  · have q1 : ¬ nI (N 4) < nI 200 := by rw [nJ_lt (by omega) (by omega)]; exact hlt
    refine ry1_ok K FokX6 none noini [] 60 ?_
    simp only [ry1_s, ry_s, ry_0, hit, true_and, and_true, List.map_cons, List.map_nil, List.length_cons, List.length_nil, List.replicate, List.cons_append, List.nil_append, List.append_nil, List.length_append, List.set_cons_zero, List.set_cons_succ, lgt_0, lgt_s, lhas_0, lhas_s, isI_i, isRf_r, isRf_n, inc_i, of1, ofm1, rokI_i, rokI_0, rokI_1, rokI_b, okv_i, okv_z0, okv_z1, okv_or, okv_on, okv_ar, okv_b, isA_s, alen_s, cat_i, cat_r, cat_n, finC_s, hPe, rv, nar1, nar0,  b2i_0, oI_n, oI_s, d24, d168, d100, Int32.le_refl, vpT, nIc8, nIc12, nIc40, nIc200, hup_at, and_self, and_false, false_and, Nat.reduceEqDiff, Nat.reduceEqDiff, reduceCtorEq, ie_m1_0, il_m1_0, ie_m1_1, il_m1_1, ie_m1_2, il_m1_2, ie_m1_3, il_m1_3, ie_m1_4, ie_m1_5, ie_m1_6, ie_m1_7, ie_m1_8, ie_0_m1, il_0_0, ie_0_1, il_0_1, ie_0_2, il_0_2, ie_0_3, il_0_3, ie_0_4, ie_0_5, ie_0_6, ie_0_7, ie_0_8, ie_1_m1, ie_1_0, il_1_0, il_1_1, ie_1_2, il_1_2, ie_1_3, il_1_3, ie_1_4, ie_1_5, ie_1_6, ie_1_7, ie_1_8, ie_2_m1, ie_2_0, il_2_0, ie_2_1, il_2_1, il_2_2, ie_2_3, il_2_3, ie_2_4, ie_2_5, ie_2_6, ie_2_7, ie_2_8, ie_3_m1, ie_3_0, il_3_0, ie_3_1, il_3_1, ie_3_2, il_3_2, il_3_3, ie_3_4, ie_3_5, ie_3_6, ie_3_7, ie_3_8, ie_4_m1, ie_4_0, il_4_0, ie_4_1, il_4_1, ie_4_2, il_4_2, ie_4_3, il_4_3, ie_4_5, ie_4_6, ie_4_7, ie_4_8, ie_5_m1, ie_5_0, il_5_0, ie_5_1, il_5_1, ie_5_2, il_5_2, ie_5_3, il_5_3, ie_5_4, ie_5_6, ie_5_7, ie_5_8, ie_6_m1, ie_6_0, il_6_0, ie_6_1, il_6_1, ie_6_2, il_6_2, ie_6_3, il_6_3, ie_6_4, ie_6_5, ie_6_7, ie_6_8, ie_7_m1, ie_7_0, il_7_0, ie_7_1, il_7_1, ie_7_2, il_7_2, ie_7_3, il_7_3, ie_7_4, ie_7_5, ie_7_6, ie_7_8, ie_8_m1, ie_8_0, il_8_0, ie_8_1, il_8_1, ie_8_2, il_8_2, ie_8_3, il_8_3, ie_8_4, ie_8_5, ie_8_6, ie_8_7, Nat.reduceAdd, Nat.reduceSub, Nat.reduceLT, Nat.reduceLeDiff, Nat.reduceBEq, Bool.or_false, Bool.false_or, Bool.or_true, Bool.true_or, Bool.or_self, Bool.false_eq_true, ↓reduceIte, Nat.le_refl, Nat.zero_le, nI_p1, Option.toList, not_true_eq_false, not_false_eq_true, isRf_o, isR_o, isR_a, cat_o, okv_fo, okv_fa, orf_s, orf_n, both_t, both_f, rfn_n, rfn_s, eq_self, forall_const, qX6_makeClaim_0, qX6_makeClaim_1, qX6_makeClaim_4, qX6_makeClaim_5, qX6_makeClaim_8, qX6_makeClaim_9, qX6_makeClaim_12, qX6_makeClaim_13, qX6_makeClaim_16, qX6_makeClaim_17, qX6_makeClaim_18, qX6_makeClaim_19, qX6_makeClaim_20, qX6_makeClaim_23r, qX6_makeClaim_23n, qX6_makeClaim_25, qX6_makeClaim_26, qX6_makeClaim_28, qX6_makeClaim_31, qX6_makeClaim_32, qX6_makeClaim_35, qX6_makeClaim_36, qX6_makeClaim_39, qX6_makeClaim_41r, qX6_makeClaim_41n, qX6_makeClaim_42, qX6_makeClaim_43, qX6_makeClaim_44, qX6_makeClaim_47, qX6_makeClaim_48, qX6_makeClaim_49, qX6_makeClaim_52, qX6_makeClaim_23_o, qX6_makeClaim_41_o, rr.k0 hx, rr.f0_0 hx, rr.f0_1 hx, rr.f0_2 hx, rr.f0_3 hx, rr.f0_4 hx, rr.f0_5 hx, rr.f0_6 hx, rr.f0_7 hx, rr.f0_8 hx, rr.f0_9 hx, rr.f0_10 hx, rr.f0_11 hx, st.x (f := 3) (by decide), rr.k10 hA, rr.e10 (hi := hA), st.c9, q1]
    exact Or.inl hlt
end C8
