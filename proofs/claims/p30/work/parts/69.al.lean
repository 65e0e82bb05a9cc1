def nup (N : Nat → Nat) (k0 : Nat) : Nat → Nat := fun k => if k = k0 then N k0 + 1 else N k
def adp (ad : Nat → Nat → Nat) (k0 i0 q : Nat) : Nat → Nat → Nat := fun k i => if k = k0 ∧ i = i0 then q else ad k i
def zal (Z : ZS) (k0 i0 : Nat) : ZS := (fun k i f => if k = k0 ∧ i = i0 then 0 else Z.1 k i f, fun k i f => if k = k0 ∧ i = i0 then none else Z.2 k i f)
theorem nup_ge (N : Nat → Nat) (k0 k : Nat) : N k ≤ nup N k0 k := by unfold nup; split <;> rename_i h <;> first | (subst h; omega) | omega
theorem nup_c {N : Nat → Nat} {k0 k i : Nat} (h : i < nup N k0 k) : (k = k0 ∧ i = N k0) ∨ i < N k := by
  unfold nup at h
  split at h
  · rename_i e; subst e; by_cases e2 : i = N k
    · exact Or.inl ⟨rfl, e2⟩
    · exact Or.inr (by omega)
  · exact Or.inr h
theorem nup_s (N : Nat → Nat) (k0 : Nat) : N k0 < nup N k0 k0 := by unfold nup; rw [if_pos rfl]; omega
theorem adp_old {N : Nat → Nat} {ad : Nat → Nat → Nat} {k0 k i q : Nat} (h : i < N k) : adp ad k0 (N k0) q k i = ad k i := by
  unfold adp
  rw [if_neg]
  rintro ⟨e1, e2⟩
  subst e1
  omega
theorem adp_new (ad : Nat → Nat → Nat) (k0 i0 q : Nat) : adp ad k0 i0 q k0 i0 = q := by unfold adp; rw [if_pos ⟨rfl, rfl⟩]
theorem RR.new {N : Nat → Nat} {ad : Nat → Nat → Nat} {Z : ZS} {h : Hp} (r : RR N ad Z h) (k0 : Nat) {q : Nat} (hq : h.1 q = none) {g : Nat → Value} (hg : ∀ f, g f = match tyf k0 f with
    | none => .int 0
    | some _ => .null) : RR (nup N k0) (adp ad k0 (N k0) q) (zal Z k0 (N k0)) (kup h.1 q (kap k0), rup h.2 q g) := by
  obtain ⟨r1, r2, r3, r4⟩ := r
  have hne : ∀ k i, i < N k → ad k i ≠ q := fun k i hi e => by have := r1 k i hi; rw [e, hq] at this; cases this
  refine ⟨fun k i hi => ?_, fun k i f hi => ?_, fun k i f k' j hi ht hz => ?_, fun k i k' i' hi hi' he => ?_⟩
  · rcases nup_c hi with ⟨rfl, rfl⟩ | h9
    · rw [adp_new]; show (if q = q then some (kap k) else _) = _; rw [if_pos rfl]
    · rw [adp_old h9]
      show (if ad k i = q then _ else h.1 (ad k i)) = _
      rw [if_neg (hne k i h9)]
      exact r1 k i h9
  · rcases nup_c hi with ⟨rfl, rfl⟩ | h9
    · rw [adp_new]
      show (if q = q then g else _) f = _
      rw [if_pos rfl, hg]
      unfold zv
      cases tyf k f with
      | none => show Value.int 0 = .int ((zal Z k (N k)).1 k (N k) f); simp [zal]
      | some k' => show Value.null = orf _ k' ((zal Z k (N k)).2 k (N k) f); simp [zal, orf]
    · rw [adp_old h9]
      show (if ad k i = q then g else h.2 (ad k i)) f = _
      rw [if_neg (hne k i h9), r2 k i f h9]
      have hn : ¬ (k = k0 ∧ i = N k0) := fun ⟨a, c⟩ => by subst a; omega
      unfold zv
      cases ht : tyf k f with
      | none => simp [zal, hn]
      | some k' =>
        show orf ad k' (Z.2 k i f) = orf _ k' ((zal Z k0 (N k0)).2 k i f)
        have e9 : (zal Z k0 (N k0)).2 k i f = Z.2 k i f := by simp [zal, hn]
        rw [e9]
        cases hz : Z.2 k i f with
        | none => rfl
        | some j =>
          show Value.ref (ad k' j) = .ref (adp ad k0 (N k0) q k' j)
          rw [adp_old (r3 k i f k' j h9 ht hz)]
  · have hz : (if k = k0 ∧ i = N k0 then none else Z.2 k i f) = some j := hz
    split at hz
    · cases hz
    · rename_i hn
      have h9 : i < N k := by
        rcases nup_c hi with h | h
        · exact absurd h hn
        · exact h
      exact Nat.lt_of_lt_of_le (r3 k i f k' j h9 ht hz) (nup_ge N k0 k')
  · rcases nup_c hi with ⟨rfl, rfl⟩ | h9
    · rcases nup_c hi' with ⟨rfl, rfl⟩ | h8
      · exact ⟨rfl, rfl⟩
      · rw [adp_new, adp_old h8] at he
        exact absurd he.symm (hne _ _ h8)
    · rcases nup_c hi' with ⟨rfl, rfl⟩ | h8
      · rw [adp_new, adp_old h9] at he
        exact absurd he (hne _ _ h9)
      · rw [adp_old h9, adp_old h8] at he
        exact r4 _ _ _ _ h9 h8 he
/-- the class's own cells, grown -/
def CNw (N : Nat → Nat) (ad : Nat → Nat → Nat) (h : Hp) (N' : Nat → Nat) (ad' : Nat → Nat → Nat) (Z' : ZS) (h' : Hp) : Prop :=
  RR N' ad' Z' h' ∧ (∀ k, N k ≤ N' k) ∧ (∀ k i, i < N k → ad' k i = ad k i) ∧ (∀ a, h.1 a ≠ none → h'.1 a = h.1 a) ∧ (∀ a, h.1 a ≠ none → ¬ cwn N ad a → h'.2 a = h.2 a) ∧ ∀ k i, N k ≤ i → i < N' k → h.1 (ad' k i) = none
theorem CNw.of {N : Nat → Nat} {ad : Nat → Nat → Nat} {Z' : ZS} {h h' : Hp} (t : CTo N ad Z' h h') : CNw N ad h N ad Z' h' := ⟨t.1, fun _ => Nat.le_refl _, fun _ _ _ => rfl, fun a _ => by rw [t.2.1], fun a _ hc => t.2.2 a hc, fun k i h1 h2 => absurd h2 (by omega)⟩
theorem CNw.tr {N N1 N2 : Nat → Nat} {ad ad1 ad2 : Nat → Nat → Nat} {Z1 Z2 : ZS} {h h1 h2 : Hp} (a : CNw N ad h N1 ad1 Z1 h1) (c : CNw N1 ad1 h1 N2 ad2 Z2 h2) : CNw N ad h N2 ad2 Z2 h2 := by
  obtain ⟨a1, a2, a3, a4, a5, a6⟩ := a
  obtain ⟨c1, c2, c3, c4, c5, c6⟩ := c
  refine ⟨c1, fun k => Nat.le_trans (a2 k) (c2 k), fun k i hi => (c3 k i (Nat.lt_of_lt_of_le hi (a2 k))).trans (a3 k i hi), fun x hx => ?_, fun x hx hn => ?_, fun k i h3 h4 => ?_⟩
  · have h9 : h1.1 x ≠ none := by rw [a4 x hx]; exact hx
    rw [c4 x h9, a4 x hx]
  · have h9 : h1.1 x ≠ none := by rw [a4 x hx]; exact hx
    have hn1 : ¬ cwn N1 ad1 x := by
      rintro ⟨k, i, hi, rfl⟩
      by_cases hl : i < N k
      · exact hn ⟨k, i, hl, a3 k i hl⟩
      · exact hx (a6 k i (by omega) hi)
    rw [c5 x h9 hn1, a5 x hx hn]
  · by_cases hl : i < N1 k
    · rw [c3 k i hl]
      exact a6 k i h3 hl
    · have h9 := c6 k i (by omega) h4
      cases hx : h.1 (ad2 k i) with
      | none => rfl
      | some κ =>
        have := a4 (ad2 k i) (by rw [hx]; exact fun z => nomatch z)
        rw [h9, hx] at this
        cases this
theorem CNw.new {N : Nat → Nat} {ad : Nat → Nat → Nat} {Z : ZS} {h : Hp} (r : RR N ad Z h) (k0 : Nat) {q : Nat} (hq : h.1 q = none) {g : Nat → Value} (hg : ∀ f, g f = match tyf k0 f with
    | none => .int 0
    | some _ => .null) : CNw N ad h (nup N k0) (adp ad k0 (N k0) q) (zal Z k0 (N k0)) (kup h.1 q (kap k0), rup h.2 q g) := by
  refine ⟨r.new k0 hq hg, nup_ge N k0, fun k i hi => adp_old hi, fun a ha => ?_, fun a ha _ => ?_, fun k i h1 h2 => ?_⟩
  · show (if a = q then _ else h.1 a) = _
    rw [if_neg (fun e => ha (by rw [e]; exact hq))]
  · show (if a = q then g else h.2 a) = _
    rw [if_neg (fun e => ha (by rw [e]; exact hq))]
  · rcases nup_c h2 with ⟨rfl, rfl⟩ | h9
    · rw [adp_new]; exact hq
    · omega
section C7
variable {l : Launch} {D : Dg} {b : Nat} {h : Hp} {N : Nat → Nat} {ad : Nat → Nat → Nat} {Z : ZS}
theorem u_Claim_init (hfl : l.flags = flags0) (rr : RR N ad Z h) {c w s r : Nat} (hc : c < N 4) (hw : w < N 1) (hs : s < N 2) (hr : r < N 3) : Cal l D b iX0_init 1 0 0 [.ref (ad 4 c), .ref (ad 1 w), .ref (ad 2 s), .ref (ad 3 r)] h (fun v h' => v = none ∧ CTo N ad (zui Z.1 4 c 4 0, zuo (zuo (zuo (zuo Z.2 4 c 0 (some w)) 4 c 1 (some s)) 4 c 2 (some r)) 4 c 3 (Z.2 2 s 7)) h h') nox := by
  refine v_entry iX0_init pl0 mX0_init (by simp only [List.forall_mem_cons, List.not_mem_nil, false_implies, cat_o, cat_r, cat_i, cat_n, and_self, implies_true]) hfl ?_
  rintro ⟨⟨p, l9, e, R⟩, ⟨sz, mi, args, below⟩, ⟨meth, cx, D9, b9⟩, ⟨P, X, mc, ms⟩⟩ rfl rfl rfl hPX K
  injection hPX with hP hPX
  injection hPX with hX hPX
  injection hPX with hMC hMS
  subst hMC hMS
  have hPe := fun r h9 => congrFun (congrFun hP r) h9
  refine ry1_ok K FokX0 (some 0) (ini_ok rfl (by intro r hr; cases hr; decide)) [1] 60 ?_
  simp only [ry1_s, ry_s, ry_0, hit, true_and, and_true, List.map_cons, List.map_nil, List.length_cons, List.length_nil, List.replicate, List.cons_append, List.nil_append, List.append_nil, List.length_append, List.set_cons_zero, List.set_cons_succ, lgt_0, lgt_s, lhas_0, lhas_s, isI_i, isRf_r, isRf_n, inc_i, of1, ofm1, rokI_i, rokI_0, rokI_1, rokI_b, okv_i, okv_z0, okv_z1, okv_or, okv_on, okv_ar, okv_b, isA_s, alen_s, cat_i, cat_r, cat_n, finC_s, hPe, rv, nar1, nar0,  b2i_0, oI_n, oI_s, d24, d168, d100, Int32.le_refl, vpT, nIc8, nIc12, nIc40, nIc200, hup_at, and_self, and_false, false_and, Nat.reduceEqDiff, Nat.reduceEqDiff, reduceCtorEq, ie_m1_0, il_m1_0, ie_m1_1, il_m1_1, ie_m1_2, il_m1_2, ie_m1_3, il_m1_3, ie_m1_4, ie_m1_5, ie_m1_6, ie_m1_7, ie_m1_8, ie_0_m1, il_0_0, ie_0_1, il_0_1, ie_0_2, il_0_2, ie_0_3, il_0_3, ie_0_4, ie_0_5, ie_0_6, ie_0_7, ie_0_8, ie_1_m1, ie_1_0, il_1_0, il_1_1, ie_1_2, il_1_2, ie_1_3, il_1_3, ie_1_4, ie_1_5, ie_1_6, ie_1_7, ie_1_8, ie_2_m1, ie_2_0, il_2_0, ie_2_1, il_2_1, il_2_2, ie_2_3, il_2_3, ie_2_4, ie_2_5, ie_2_6, ie_2_7, ie_2_8, ie_3_m1, ie_3_0, il_3_0, ie_3_1, il_3_1, ie_3_2, il_3_2, il_3_3, ie_3_4, ie_3_5, ie_3_6, ie_3_7, ie_3_8, ie_4_m1, ie_4_0, il_4_0, ie_4_1, il_4_1, ie_4_2, il_4_2, ie_4_3, il_4_3, ie_4_5, ie_4_6, ie_4_7, ie_4_8, ie_5_m1, ie_5_0, il_5_0, ie_5_1, il_5_1, ie_5_2, il_5_2, ie_5_3, il_5_3, ie_5_4, ie_5_6, ie_5_7, ie_5_8, ie_6_m1, ie_6_0, il_6_0, ie_6_1, il_6_1, ie_6_2, il_6_2, ie_6_3, il_6_3, ie_6_4, ie_6_5, ie_6_7, ie_6_8, ie_7_m1, ie_7_0, il_7_0, ie_7_1, il_7_1, ie_7_2, il_7_2, ie_7_3, il_7_3, ie_7_4, ie_7_5, ie_7_6, ie_7_8, ie_8_m1, ie_8_0, il_8_0, ie_8_1, il_8_1, ie_8_2, il_8_2, ie_8_3, il_8_3, ie_8_4, ie_8_5, ie_8_6, ie_8_7, Nat.reduceAdd, Nat.reduceSub, Nat.reduceLT, Nat.reduceLeDiff, Nat.reduceBEq, Bool.or_false, Bool.false_or, Bool.or_true, Bool.true_or, Bool.or_self, Bool.false_eq_true, ↓reduceIte, Nat.le_refl, Nat.zero_le, nI_p1, Option.toList, not_true_eq_false, not_false_eq_true, isRf_o, isR_o, isR_a, cat_o, okv_fo, okv_fa, orf_s, orf_n, both_t, both_f, rfn_n, rfn_s, eq_self, forall_const, qX0_init_0, qX0_init_1, qX0_init_4, qX0_init_5, qX0_init_6, qX0_init_9, qX0_init_10, qX0_init_11, qX0_init_14, qX0_init_15, qX0_init_16, qX0_init_19, qX0_init_20, qX0_init_21, qX0_init_24, qX0_init_25, qX0_init_26, qX0_init_29, qX0_init_32]
  refine v_oinit K (List.mem_filter.mpr ⟨by decide +kernel, by decide +kernel⟩) rfl (by decide) (by decide) dX0_init_1 ?_
  refine ry1_ok K FokX0 (some 0) (ini_ok rfl (by intro r hr; cases hr; decide)) [] 60 ?_
  simp only [ry1_s, ry_s, ry_0, hit, true_and, and_true, List.map_cons, List.map_nil, List.length_cons, List.length_nil, List.replicate, List.cons_append, List.nil_append, List.append_nil, List.length_append, List.set_cons_zero, List.set_cons_succ, lgt_0, lgt_s, lhas_0, lhas_s, isI_i, isRf_r, isRf_n, inc_i, of1, ofm1, rokI_i, rokI_0, rokI_1, rokI_b, okv_i, okv_z0, okv_z1, okv_or, okv_on, okv_ar, okv_b, isA_s, alen_s, cat_i, cat_r, cat_n, finC_s, hPe, rv, nar1, nar0,  b2i_0, oI_n, oI_s, d24, d168, d100, Int32.le_refl, vpT, nIc8, nIc12, nIc40, nIc200, hup_at, and_self, and_false, false_and, Nat.reduceEqDiff, Nat.reduceEqDiff, reduceCtorEq, ie_m1_0, il_m1_0, ie_m1_1, il_m1_1, ie_m1_2, il_m1_2, ie_m1_3, il_m1_3, ie_m1_4, ie_m1_5, ie_m1_6, ie_m1_7, ie_m1_8, ie_0_m1, il_0_0, ie_0_1, il_0_1, ie_0_2, il_0_2, ie_0_3, il_0_3, ie_0_4, ie_0_5, ie_0_6, ie_0_7, ie_0_8, ie_1_m1, ie_1_0, il_1_0, il_1_1, ie_1_2, il_1_2, ie_1_3, il_1_3, ie_1_4, ie_1_5, ie_1_6, ie_1_7, ie_1_8, ie_2_m1, ie_2_0, il_2_0, ie_2_1, il_2_1, il_2_2, ie_2_3, il_2_3, ie_2_4, ie_2_5, ie_2_6, ie_2_7, ie_2_8, ie_3_m1, ie_3_0, il_3_0, ie_3_1, il_3_1, ie_3_2, il_3_2, il_3_3, ie_3_4, ie_3_5, ie_3_6, ie_3_7, ie_3_8, ie_4_m1, ie_4_0, il_4_0, ie_4_1, il_4_1, ie_4_2, il_4_2, ie_4_3, il_4_3, ie_4_5, ie_4_6, ie_4_7, ie_4_8, ie_5_m1, ie_5_0, il_5_0, ie_5_1, il_5_1, ie_5_2, il_5_2, ie_5_3, il_5_3, ie_5_4, ie_5_6, ie_5_7, ie_5_8, ie_6_m1, ie_6_0, il_6_0, ie_6_1, il_6_1, ie_6_2, il_6_2, ie_6_3, il_6_3, ie_6_4, ie_6_5, ie_6_7, ie_6_8, ie_7_m1, ie_7_0, il_7_0, ie_7_1, il_7_1, ie_7_2, il_7_2, ie_7_3, il_7_3, ie_7_4, ie_7_5, ie_7_6, ie_7_8, ie_8_m1, ie_8_0, il_8_0, ie_8_1, il_8_1, ie_8_2, il_8_2, ie_8_3, il_8_3, ie_8_4, ie_8_5, ie_8_6, ie_8_7, Nat.reduceAdd, Nat.reduceSub, Nat.reduceLT, Nat.reduceLeDiff, Nat.reduceBEq, Bool.or_false, Bool.false_or, Bool.or_true, Bool.true_or, Bool.or_self, Bool.false_eq_true, ↓reduceIte, Nat.le_refl, Nat.zero_le, nI_p1, Option.toList, not_true_eq_false, not_false_eq_true, isRf_o, isR_o, isR_a, cat_o, okv_fo, okv_fa, orf_s, orf_n, both_t, both_f, rfn_n, rfn_s, eq_self, forall_const, qX0_init_0, qX0_init_1, qX0_init_4, qX0_init_5, qX0_init_6, qX0_init_9, qX0_init_10, qX0_init_11, qX0_init_14, qX0_init_15, qX0_init_16, qX0_init_19, qX0_init_20, qX0_init_21, qX0_init_24, qX0_init_25, qX0_init_26, qX0_init_29, qX0_init_32, rr.k4 hc, rr.f4_0 hc, rr.f4_1 hc, rr.f4_2 hc, rr.f4_3 hc, rr.f4_4 hc, rr.f4_5 hc, rr.k2 hs, rr.f2_0 hs, rr.f2_1 hs, rr.f2_2 hs, rr.f2_3 hs, rr.f2_4 hs, rr.f2_5 hs, rr.f2_6 hs, rr.f2_7 hs]
  exact (((((CTo.rf rr).puti (k := 4) (i := c) 4 0 hc rfl).puto (k := 4) (i := c) (k9 := 1) 0 (some w) hc rfl (fun j hj => by cases hj; exact hw)).puto (k := 4) (i := c) (k9 := 2) 1 (some s) hc rfl (fun j hj => by cases hj; exact hs)).puto (k := 4) (i := c) (k9 := 3) 2 (some r) hc rfl (fun j hj => by cases hj; exact hr)).puto (k := 4) (i := c) (k9 := 4) 3 (Z.2 2 s 7) hc rfl (fun j hj => rr.wf (k := 2) (f := 7) hs rfl hj)
end C7
