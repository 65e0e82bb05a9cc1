def gn (S : MS) (c : Nat) : Nat := (S.2 29 c).toNatClampNeg
def wn (S : MS) (c : Nat) : Nat := (S.2 30 c).toNatClampNeg
def hn (S : MS) (s : Nat) : Nat := (S.2 7 s).toNatClampNeg
/-- what the rows of offers hold -/
def OfW (S : MS) (no : Nat) : Prop := no ≤ 40 ∧ S.1 28 = nI no ∧ ∀ c, c < no → gn S c < 40 ∧ wn S c < 40 ∧ S.2 29 c = nI (gn S c) ∧ S.2 30 c = nI (wn S c)
/-- only the row of the ring differs -/
def rEq (S S' : MS) : Prop := (∀ k, k ≠ 32 → S'.1 k = S.1 k) ∧ ∀ k, k ≠ 33 → S'.2 k = S.2 k
theorem rEq.rf {S : MS} : rEq S S := ⟨fun _ _ => rfl, fun _ _ => rfl⟩
def rgo (S : MS) (no f : Nat) : Nat → Option Nat → List Nat → Option (List Nat)
  | 0, _, _ => none
  | _ + 1, none, _ => none
  | k + 1, some a, acc => if acc.any (fun c => decide (S.2 7 (gn S c) = S.2 7 (gn S a))) then none else if S.2 30 a = S.2 29 f then some (acc ++ [a]) else rgo S no f k (gvr S no (S.2 30 a)) (acc ++ [a])
def rlen (r : Option (List Nat)) : Int32 := match r with
  | none => 0
  | some ls => nI ls.length
def fnr (S : MS) (no f : Nat) : Option (List Nat) := rgo S no f 8 (if S.2 31 f = 0 then none else some f) []
section M6
variable {l : Launch} {D : Dg} {b : Nat} {h : Hp} {o : Nat} {ad : Nat → Nat} {S : MS}
theorem t_isInRing (hfl : l.flags = flags0) (mr : MRel o ad S h) {no : Nat} (w : Int32) (acc : List Nat) (hO : OfW S no) (hl : acc.length ≤ 8) (hr : S.1 32 = nI acc.length) (ha : ∀ j c, acc[j]? = some c → S.2 33 j = nI c ∧ c < no) : Cal l D b iX7_isInRing 0 0 0 [.ref o, .int w] h (rv (.int (b2i (acc.any (fun c => decide (S.2 7 (gn S c) = w))))) h) nox := by
  refine v_entry iX7_isInRing pl7 mX7_isInRing (by simp [Value.category]) hfl ?_
  rintro ⟨⟨p, l9, e, R⟩, ⟨sz, mi, args, below⟩, ⟨meth, cx, D9, b9⟩, ⟨P, X, mc, ms⟩⟩ rfl rfl rfl hPX K
  injection hPX with hP hPX
  injection hPX with hX hPX
  injection hPX with hMC hMS
  subst hMC hMS
  have hPe := fun r h9 => congrFun (congrFun hP r) h9
  refine ry1_ok K FokX7 none noini [4] 60 ?_
  simp only [ry1_s, ry_s, ry_0, hit, true_and, and_true, List.map_cons, List.map_nil, List.length_cons, List.length_nil, List.replicate, List.cons_append, List.nil_append, List.append_nil, List.length_append, List.set_cons_zero, List.set_cons_succ, lgt_0, lgt_s, lhas_0, lhas_s, isI_i, isRf_r, isRf_n, inc_i, of1, ofm1, rokI_i, rokI_0, rokI_1, rokI_b, okv_i, okv_z0, okv_z1, okv_or, okv_on, okv_ar, okv_b, isA_s, alen_s, cat_i, cat_r, cat_n, finC_s, hPe, rv, nar1, nar0,  b2i_0, oI_n, oI_s, d24, d168, d100, Int32.le_refl, vpT, nIc8, nIc12, nIc40, nIc200, hup_at, and_self, and_false, false_and, Nat.reduceEqDiff, Nat.reduceEqDiff, reduceCtorEq, ie_m1_0, il_m1_0, ie_m1_1, il_m1_1, ie_m1_2, il_m1_2, ie_m1_3, il_m1_3, ie_m1_4, ie_m1_5, ie_m1_6, ie_m1_7, ie_m1_8, ie_0_m1, il_0_0, ie_0_1, il_0_1, ie_0_2, il_0_2, ie_0_3, il_0_3, ie_0_4, ie_0_5, ie_0_6, ie_0_7, ie_0_8, ie_1_m1, ie_1_0, il_1_0, il_1_1, ie_1_2, il_1_2, ie_1_3, il_1_3, ie_1_4, ie_1_5, ie_1_6, ie_1_7, ie_1_8, ie_2_m1, ie_2_0, il_2_0, ie_2_1, il_2_1, il_2_2, ie_2_3, il_2_3, ie_2_4, ie_2_5, ie_2_6, ie_2_7, ie_2_8, ie_3_m1, ie_3_0, il_3_0, ie_3_1, il_3_1, ie_3_2, il_3_2, il_3_3, ie_3_4, ie_3_5, ie_3_6, ie_3_7, ie_3_8, ie_4_m1, ie_4_0, il_4_0, ie_4_1, il_4_1, ie_4_2, il_4_2, ie_4_3, il_4_3, ie_4_5, ie_4_6, ie_4_7, ie_4_8, ie_5_m1, ie_5_0, il_5_0, ie_5_1, il_5_1, ie_5_2, il_5_2, ie_5_3, il_5_3, ie_5_4, ie_5_6, ie_5_7, ie_5_8, ie_6_m1, ie_6_0, il_6_0, ie_6_1, il_6_1, ie_6_2, il_6_2, ie_6_3, il_6_3, ie_6_4, ie_6_5, ie_6_7, ie_6_8, ie_7_m1, ie_7_0, il_7_0, ie_7_1, il_7_1, ie_7_2, il_7_2, ie_7_3, il_7_3, ie_7_4, ie_7_5, ie_7_6, ie_7_8, ie_8_m1, ie_8_0, il_8_0, ie_8_1, il_8_1, ie_8_2, il_8_2, ie_8_3, il_8_3, ie_8_4, ie_8_5, ie_8_6, ie_8_7, Nat.reduceAdd, Nat.reduceSub, Nat.reduceLT, Nat.reduceLeDiff, Nat.reduceBEq, Bool.or_false, Bool.false_or, Bool.or_true, Bool.true_or, Bool.or_self, Bool.false_eq_true, ↓reduceIte, Nat.le_refl, Nat.zero_le, nI_p1, Option.toList, not_true_eq_false, not_false_eq_true, qX7_isInRing_0, qX7_isInRing_1, qX7_isInRing_2, qX7_isInRing_3, qX7_isInRing_4, qX7_isInRing_5, qX7_isInRing_6, qX7_isInRing_9, qX7_isInRing_12, qX7_isInRing_13, qX7_isInRing_16, qX7_isInRing_17, qX7_isInRing_20, qX7_isInRing_21, qX7_isInRing_24, qX7_isInRing_25, qX7_isInRing_28, qX7_isInRing_29, qX7_isInRing_30, qX7_isInRing_31, qX7_isInRing_32, qX7_isInRing_33, qX7_isInRing_36, qX7_isInRing_37, qX7_isInRing_40, qX7_isInRing_41, qX7_isInRing_42, qX7_isInRing_45, qX7_isInRing_48, qX7_isInRing_49]
  refine v_loop (G := fun i _ => V ((p, l9, e, R), (sz, mi, args, below), (meth, cx, D9, b9), (P, X, 0, 0)) h 0 0 4 [some (.ref o), some (.int w), some (.int (b2i ((acc.take i).any (fun c => decide (S.2 7 (gn S c) = w))))), some (.int (nI i))] []) acc.length (fun _ u => u) () ?_ ?_
  · refine ry1_ok K FokX7 none noini [4] 60 ?_
    simp only [ry1_s, ry_s, ry_0, hit, true_and, and_true, List.map_cons, List.map_nil, List.length_cons, List.length_nil, List.replicate, List.cons_append, List.nil_append, List.append_nil, List.length_append, List.set_cons_zero, List.set_cons_succ, lgt_0, lgt_s, lhas_0, lhas_s, isI_i, isRf_r, isRf_n, inc_i, of1, ofm1, rokI_i, rokI_0, rokI_1, rokI_b, okv_i, okv_z0, okv_z1, okv_or, okv_on, okv_ar, okv_b, isA_s, alen_s, cat_i, cat_r, cat_n, finC_s, hPe, rv, nar1, nar0,  b2i_0, oI_n, oI_s, d24, d168, d100, Int32.le_refl, vpT, nIc8, nIc12, nIc40, nIc200, hup_at, and_self, and_false, false_and, Nat.reduceEqDiff, Nat.reduceEqDiff, reduceCtorEq, ie_m1_0, il_m1_0, ie_m1_1, il_m1_1, ie_m1_2, il_m1_2, ie_m1_3, il_m1_3, ie_m1_4, ie_m1_5, ie_m1_6, ie_m1_7, ie_m1_8, ie_0_m1, il_0_0, ie_0_1, il_0_1, ie_0_2, il_0_2, ie_0_3, il_0_3, ie_0_4, ie_0_5, ie_0_6, ie_0_7, ie_0_8, ie_1_m1, ie_1_0, il_1_0, il_1_1, ie_1_2, il_1_2, ie_1_3, il_1_3, ie_1_4, ie_1_5, ie_1_6, ie_1_7, ie_1_8, ie_2_m1, ie_2_0, il_2_0, ie_2_1, il_2_1, il_2_2, ie_2_3, il_2_3, ie_2_4, ie_2_5, ie_2_6, ie_2_7, ie_2_8, ie_3_m1, ie_3_0, il_3_0, ie_3_1, il_3_1, ie_3_2, il_3_2, il_3_3, ie_3_4, ie_3_5, ie_3_6, ie_3_7, ie_3_8, ie_4_m1, ie_4_0, il_4_0, ie_4_1, il_4_1, ie_4_2, il_4_2, ie_4_3, il_4_3, ie_4_5, ie_4_6, ie_4_7, ie_4_8, ie_5_m1, ie_5_0, il_5_0, ie_5_1, il_5_1, ie_5_2, il_5_2, ie_5_3, il_5_3, ie_5_4, ie_5_6, ie_5_7, ie_5_8, ie_6_m1, ie_6_0, il_6_0, ie_6_1, il_6_1, ie_6_2, il_6_2, ie_6_3, il_6_3, ie_6_4, ie_6_5, ie_6_7, ie_6_8, ie_7_m1, ie_7_0, il_7_0, ie_7_1, il_7_1, ie_7_2, il_7_2, ie_7_3, il_7_3, ie_7_4, ie_7_5, ie_7_6, ie_7_8, ie_8_m1, ie_8_0, il_8_0, ie_8_1, il_8_1, ie_8_2, il_8_2, ie_8_3, il_8_3, ie_8_4, ie_8_5, ie_8_6, ie_8_7, Nat.reduceAdd, Nat.reduceSub, Nat.reduceLT, Nat.reduceLeDiff, Nat.reduceBEq, Bool.or_false, Bool.false_or, Bool.or_true, Bool.true_or, Bool.or_self, Bool.false_eq_true, ↓reduceIte, Nat.le_refl, Nat.zero_le, nI_p1, Option.toList, not_true_eq_false, not_false_eq_true, qX7_isInRing_0, qX7_isInRing_1, qX7_isInRing_2, qX7_isInRing_3, qX7_isInRing_4, qX7_isInRing_5, qX7_isInRing_6, qX7_isInRing_9, qX7_isInRing_12, qX7_isInRing_13, qX7_isInRing_16, qX7_isInRing_17, qX7_isInRing_20, qX7_isInRing_21, qX7_isInRing_24, qX7_isInRing_25, qX7_isInRing_28, qX7_isInRing_29, qX7_isInRing_30, qX7_isInRing_31, qX7_isInRing_32, qX7_isInRing_33, qX7_isInRing_36, qX7_isInRing_37, qX7_isInRing_40, qX7_isInRing_41, qX7_isInRing_42, qX7_isInRing_45, qX7_isInRing_48, qX7_isInRing_49, mr.ko, mr.f32, hr, List.take_length]
  · intro i hi ih
    have hi8 : i < 8 := by omega
    have hgt : ¬ acc.length ≤ i := by omega
    obtain ⟨hc1, hc2⟩ := ha i acc[i] (List.getElem?_eq_getElem hi)
    have hc40 : acc[i] < 40 := by have := hO.1; omega
    obtain ⟨hg1, hg2, hg3, hg4⟩ := hO.2.2 _ hc2
    rw [List.take_succ, List.any_append, List.getElem?_eq_getElem hi] at ih
    simp only [Option.toList, List.any_cons, List.any_nil, Bool.or_false] at ih
    refine ry1_ok K FokX7 none noini [4] 60 ?_
    simp only [ry1_s, ry_s, ry_0, hit, true_and, and_true, List.map_cons, List.map_nil, List.length_cons, List.length_nil, List.replicate, List.cons_append, List.nil_append, List.append_nil, List.length_append, List.set_cons_zero, List.set_cons_succ, lgt_0, lgt_s, lhas_0, lhas_s, isI_i, isRf_r, isRf_n, inc_i, of1, ofm1, rokI_i, rokI_0, rokI_1, rokI_b, okv_i, okv_z0, okv_z1, okv_or, okv_on, okv_ar, okv_b, isA_s, alen_s, cat_i, cat_r, cat_n, finC_s, hPe, rv, nar1, nar0,  b2i_0, oI_n, oI_s, d24, d168, d100, Int32.le_refl, vpT, nIc8, nIc12, nIc40, nIc200, hup_at, and_self, and_false, false_and, Nat.reduceEqDiff, Nat.reduceEqDiff, reduceCtorEq, ie_m1_0, il_m1_0, ie_m1_1, il_m1_1, ie_m1_2, il_m1_2, ie_m1_3, il_m1_3, ie_m1_4, ie_m1_5, ie_m1_6, ie_m1_7, ie_m1_8, ie_0_m1, il_0_0, ie_0_1, il_0_1, ie_0_2, il_0_2, ie_0_3, il_0_3, ie_0_4, ie_0_5, ie_0_6, ie_0_7, ie_0_8, ie_1_m1, ie_1_0, il_1_0, il_1_1, ie_1_2, il_1_2, ie_1_3, il_1_3, ie_1_4, ie_1_5, ie_1_6, ie_1_7, ie_1_8, ie_2_m1, ie_2_0, il_2_0, ie_2_1, il_2_1, il_2_2, ie_2_3, il_2_3, ie_2_4, ie_2_5, ie_2_6, ie_2_7, ie_2_8, ie_3_m1, ie_3_0, il_3_0, ie_3_1, il_3_1, ie_3_2, il_3_2, il_3_3, ie_3_4, ie_3_5, ie_3_6, ie_3_7, ie_3_8, ie_4_m1, ie_4_0, il_4_0, ie_4_1, il_4_1, ie_4_2, il_4_2, ie_4_3, il_4_3, ie_4_5, ie_4_6, ie_4_7, ie_4_8, ie_5_m1, ie_5_0, il_5_0, ie_5_1, il_5_1, ie_5_2, il_5_2, ie_5_3, il_5_3, ie_5_4, ie_5_6, ie_5_7, ie_5_8, ie_6_m1, ie_6_0, il_6_0, ie_6_1, il_6_1, ie_6_2, il_6_2, ie_6_3, il_6_3, ie_6_4, ie_6_5, ie_6_7, ie_6_8, ie_7_m1, ie_7_0, il_7_0, ie_7_1, il_7_1, ie_7_2, il_7_2, ie_7_3, il_7_3, ie_7_4, ie_7_5, ie_7_6, ie_7_8, ie_8_m1, ie_8_0, il_8_0, ie_8_1, il_8_1, ie_8_2, il_8_2, ie_8_3, il_8_3, ie_8_4, ie_8_5, ie_8_6, ie_8_7, Nat.reduceAdd, Nat.reduceSub, Nat.reduceLT, Nat.reduceLeDiff, Nat.reduceBEq, Bool.or_false, Bool.false_or, Bool.or_true, Bool.true_or, Bool.or_self, Bool.false_eq_true, ↓reduceIte, Nat.le_refl, Nat.zero_le, nI_p1, Option.toList, not_true_eq_false, not_false_eq_true, qX7_isInRing_0, qX7_isInRing_1, qX7_isInRing_2, qX7_isInRing_3, qX7_isInRing_4, qX7_isInRing_5, qX7_isInRing_6, qX7_isInRing_9, qX7_isInRing_12, qX7_isInRing_13, qX7_isInRing_16, qX7_isInRing_17, qX7_isInRing_20, qX7_isInRing_21, qX7_isInRing_24, qX7_isInRing_25, qX7_isInRing_28, qX7_isInRing_29, qX7_isInRing_30, qX7_isInRing_31, qX7_isInRing_32, qX7_isInRing_33, qX7_isInRing_36, qX7_isInRing_37, qX7_isInRing_40, qX7_isInRing_41, qX7_isInRing_42, qX7_isInRing_45, qX7_isInRing_48, qX7_isInRing_49, mr.ko, mr.f32, hr, nG (Nat.le_of_lt hi) (Nat.le_trans hl (by decide)), hgt, mr.a7, mr.k7, mr.e7, mr.a29, mr.k29, mr.e29, mr.a33, mr.k33, mr.e33, hi8, hc1, hc40, hg1, hg3]
    cases hz : (acc.take i).any (fun c => decide (S.2 7 (gn S c) = w)) with
    | true =>
      rw [hz] at ih
      simpa [b2i] using ih
    | false =>
      rw [hz] at ih
      simp only [not_true_eq_false, ↓reduceIte]
      split
      · rename_i hq
        simpa [hq, b2i] using ih
      · rename_i hq
        have hq := Classical.not_not.mp hq
        simpa [hq, b2i] using ih
theorem rEq_gn {S S' : MS} (e : rEq S S') (c : Nat) : gn S' c = gn S c := by unfold gn; rw [e.2 29 (by decide)]
theorem rEq_wn {S S' : MS} (e : rEq S S') (c : Nat) : wn S' c = wn S c := by unfold wn; rw [e.2 30 (by decide)]
theorem rEq_OfW {S S' : MS} {no : Nat} (e : rEq S S') (hO : OfW S no) : OfW S' no := by
  refine ⟨hO.1, by rw [e.1 28 (by decide)]; exact hO.2.1, fun c hc => ?_⟩
  rw [rEq_gn e, rEq_wn e, e.2 29 (by decide), e.2 30 (by decide)]
  exact hO.2.2 c hc
end M6
