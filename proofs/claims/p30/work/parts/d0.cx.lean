/-! THE LAW: what its script says -/
def PAX (D : Dg) (b : Nat) (As : List Value) (h : Hp) (b9 n9 : Nat) (xs : Nat → Int32) : Array Value → State → Prop := va_Pc As (fun U => Rel D b h U.heap ∧ Kn D b U U.heap ∧ b ≤ U.heap.size ∧ va_X b9 n9 xs U U.heap)
theorem PAX.blind {D : Dg} {b : Nat} {As : List Value} {h : Hp} {b9 n9 : Nat} {xs : Nat → Int32} : FrameBlind (PAX D b As h b9 n9 xs) := fun a U g mk q => ⟨q.1, q.2.1, Kn.moved (u := U) (U := U.calling g mk a) (State.WarmedH.refl U) q.2.2.1, q.2.2.2.1, va_X.moved (u := U) (U := U.calling g mk a) (State.WarmedH.refl U).alike q.2.2.2.2⟩
def CalX (l : Launch) (D : Dg) (b b9 n9 : Nat) (xs : Nat → Int32) (i : MI) (d mc ms : Nat) (As : List Value) (h : Hp) (P : Option Value → Hp → Prop) (X : String → Hp → Prop) : Prop :=
  vx_Met l i.1 (Cond.code i.1 i.2.1 i.2.2.1 i.2.2.2.1 :: wsG) (rmD d mc ms) (PAX D b As h b9 n9 xs) (PQ D b P) (PX D b X) mc ms (fun q => b ≤ q)
section CXE
variable {l : Launch} {D : Dg} {b b9 n9 : Nat} {xs : Nat → Int32} {d mc ms : Nat} {h : Hp} {P : Option Value → Hp → Prop} {X : String → Hp → Prop}
theorem v_entryX (i : MI) (hy : plainName i.1.cls = true) (hmem : Cond.code i.1 i.2.1 i.2.2.1 i.2.2.2.1 ∈ wsG) {As : List Value} (hcat : ∀ v ∈ As, v.category = 1) (hfl : l.flags = flags0)
    (k : ∀ C : Ctx, C.1.2.1 = l → C.2.2.1.2.2.1 = D → C.2.2.1.2.2.2 = b → C.2.2.2 = (P, X, mc, ms) → Ok C i.1.cls i.2.1 i.2.2.1 i.2.2.2.1 i.1.name d [] → va_X b9 n9 xs C.2.1.1 C.2.1.1.heap → V C h 0 0 0 (As.map some ++ List.replicate (i.2.2.1 - As.length) none) []) : CalX l D b b9 n9 xs i d mc ms As h P X := by
  refine vx_ofW hy rfl ?_
  intro p e s m args below meth c s₁ B hml hxt hv
  obtain ⟨rfl, hRel, hKn, hbs, hXX⟩ := hv
  have hts0 := atoms_spec (ws := Cond.code i.1 i.2.1 i.2.2.1 i.2.2.2.1 :: wsG) B.pre
  have hxt' : c.exceptionTable.toList = [] := List.eq_nil_iff_forall_not_mem.mpr hxt
  have hV := k ((p, l, e, rmD d mc ms), (s, m, As.toArray, below), (meth, c, D, b), (P, X, mc, ms)) rfl rfl rfl rfl
    ⟨B.exec, B.bytes, hml, findClass_of_methodNamed B.named, fun w hw => hts0 w (List.mem_cons_of_mem _ hw), B.returns, B.notSynchronized, (name_of_methodNamed B.named B.method).1, hKn, hbs, rfl, hfl, hxt'⟩ hXX
  have h2 := hV s.heap [] _ hRel va_S.rf (lsok.entry hcat i.2.2.1)
  rw [entry_eq m As hcat]
  exact h2
end CXE
section CXH
variable {p : Program} {l : Launch} {e : Env} {R : Room} {s : State} {m : MethodId} {args : Array Value} {below : List Frame} {meth : Method} {c : Code} {D : Dg} {b b9 n9 : Nat} {xs : Nat → Int32} {P : Option Value → Hp → Prop} {X : String → Hp → Prop} {mc ms : Nat}
variable {own nm : String} {cc : ByteArray} {nL d : Nat} {rt : Option FieldType} {tb : List ExceptionTableEntry} {h : Hp} {cs ss pc : Nat} {L : List (Option Value)} {st : List Value}
theorem CalX.met {i : MI} {d' mc' ms' : Nat} {As : List Value} {P' : Option Value → Hp → Prop} (hc : CalX l D b b9 n9 xs i d' mc' ms' As h P' (fun _ _ => False)) : Met l i.1 (Cond.code i.1 i.2.1 i.2.2.1 i.2.2.2.1 :: wsG) (rmD d' mc' ms') (PAX D b As h b9 n9 xs) (PQ D b P') mc' ms' (fun q => b ≤ q) := by
  intro p e ha hcas hclk s m args below hf happ hP hk
  obtain ⟨n, o, h1, h2, h3, h4⟩ := hc p e ha hcas hclk s m args below hf happ hP hk
  refine ⟨n, o, h1, h2, h3, ?_⟩
  rcases h4 with h4 | ⟨q, -, E, ce, L, ⟨h', hF, -⟩, -⟩
  · exact h4
  · exact hF.elim
theorem v_callTH (K : Ok ((p, l, e, R), (s, m, args, below), (meth, c, D, b), (P, X, mc, ms)) own cc nL rt nm d tb) {i : MI} {d' mc' ms' idx : Nat} {As rest : List Value} {P' : Option Value → Hp → Prop}
    (hc : Cal l D b i d' mc' ms' As h P' (fun _ _ => False)) (hw : LkT own idx i) (hn : As.length = i.2.2.2.2) (hdd : d' + 1 ≤ d) (hrm : 8 + (i.2.2.1 + 11) + 35 * d' ≤ 35 * d) (hL : L.length = nL) (hcat : (rest.map fun v => v.category).sum ≤ 8)
    (hst : st = As.reverse ++ rest) (hd : decode cc pc = .ok (.invokestatic idx, 3)) (hroom : cs + mc' ≤ mc ∧ ss + ms' ≤ ms)
    (kk : ∀ v h', P' v h' → V ((p, l, e, R), (s, m, args, below), (meth, c, D, b), (P, X, mc, ms)) h' (cs + mc') (ss + ms') (pc + 3) L (v.toList ++ rest)) : V ((p, l, e, R), (s, m, args, below), (meth, c, D, b), (P, X, mc, ms)) h cs ss pc L st := by
  obtain ⟨hx, hb, hml, hown, hts, hrt, hlk, hnm, hKn, hbs, hR0, hfl, hxt⟩ := id K
  obtain ⟨w1, w2, w4, w5, y1, y2, y3⟩ := hw
  subst hst
  have hR0' : R = rmD d mc ms := hR0
  have hG : GoodIn wsG (va_wsS own idx i.1 (Cond.code i.1 i.2.1 i.2.2.1 i.2.2.2.1 :: wsG)) := by
    intro w hw
    rcases List.mem_append.mp hw with hw | hw
    · simp only [List.mem_cons, List.mem_nil_iff, or_false] at hw
      rcases hw with rfl | rfl | rfl
      · exact ⟨w1, wsG_good w1⟩
      · exact ⟨w2, wsG_good w2⟩
      · exact ⟨w4, wsG_good w4⟩
    · exact v_good w5 w hw
  refine v_backH (X' := fun _ _ => False) (a := As.toArray) K (fun H locs ls hR hS hLs => ?_) (fun _ _ hf => hf.elim) kk
  have hr := va_runS (p := p) (s := s) (m := m) (args := args) (locs := locs) (meth := meth) (c := c) (H := H) (cells := cs) (slots := ss) (below := below) (e := e) (rest := rest) (g := F0 m pc ls (As.reverse ++ rest)) ⟨hx, hb, hml, hown, hts⟩ hc.met (va_cwS (R := R) i.2.2.2.2 hts hG rfl rfl rfl ⟨y1, y2, y3⟩ ⟨by rw [hR0']; exact hdd, by rw [hR0']; exact hrm⟩) ⟨PA.blind, fun U hU hW => ⟨rfl, by rw [hU]; exact hR, by rw [hU]; exact (v_kn hKn hS).moved hW, by rw [hU]; exact Nat.le_trans hbs hS.1⟩⟩ rfl hn (hLs.1.trans hL) rfl (lv_room hcat) hd ⟨by rw [hR0']; exact hroom.1, by rw [hR0']; exact hroom.2⟩
  intro T hT X9
  obtain ⟨v, st₀, t, T', L9, g0, g1, g2, g3, g4, g5, g6⟩ := hr T hT X9
  exact Or.inl ⟨v, st₀, t, T', L9, g0, g1, g2, g3, g4, g5, g6⟩
theorem v_callTX (K : Ok ((p, l, e, R), (s, m, args, below), (meth, c, D, b), (P, X, mc, ms)) own cc nL rt nm d tb) (hX : va_X b9 n9 xs s s.heap) (hbl : b9 < s.heap.size) (hbA : ¬ b ≤ b9) {i : MI} {d' mc' ms' idx : Nat} {As rest : List Value} {P' : Option Value → Hp → Prop}
    (hc : CalX l D b b9 n9 xs i d' mc' ms' As h P' (fun _ _ => False)) (hw : LkT own idx i) (hn : As.length = i.2.2.2.2) (hdd : d' + 1 ≤ d) (hrm : 8 + (i.2.2.1 + 11) + 35 * d' ≤ 35 * d) (hL : L.length = nL) (hcat : (rest.map fun v => v.category).sum ≤ 8)
    (hst : st = As.reverse ++ rest) (hd : decode cc pc = .ok (.invokestatic idx, 3)) (hroom : cs + mc' ≤ mc ∧ ss + ms' ≤ ms)
    (kk : ∀ v h', P' v h' → V ((p, l, e, R), (s, m, args, below), (meth, c, D, b), (P, X, mc, ms)) h' (cs + mc') (ss + ms') (pc + 3) L (v.toList ++ rest)) : V ((p, l, e, R), (s, m, args, below), (meth, c, D, b), (P, X, mc, ms)) h cs ss pc L st := by
  obtain ⟨hx, hb, hml, hown, hts, hrt, hlk, hnm, hKn, hbs, hR0, hfl, hxt⟩ := id K
  obtain ⟨w1, w2, w4, w5, y1, y2, y3⟩ := hw
  subst hst
  have hR0' : R = rmD d mc ms := hR0
  have hG : GoodIn wsG (va_wsS own idx i.1 (Cond.code i.1 i.2.1 i.2.2.1 i.2.2.2.1 :: wsG)) := by
    intro w hw
    rcases List.mem_append.mp hw with hw | hw
    · simp only [List.mem_cons, List.mem_nil_iff, or_false] at hw
      rcases hw with rfl | rfl | rfl
      · exact ⟨w1, wsG_good w1⟩
      · exact ⟨w2, wsG_good w2⟩
      · exact ⟨w4, wsG_good w4⟩
    · exact v_good w5 w hw
  refine v_backH (X' := fun _ _ => False) (a := As.toArray) K (fun H locs ls hR hS hLs => ?_) (fun _ _ hf => hf.elim) kk
  have hr := va_runS (p := p) (s := s) (m := m) (args := args) (locs := locs) (meth := meth) (c := c) (H := H) (cells := cs) (slots := ss) (below := below) (e := e) (rest := rest) (g := F0 m pc ls (As.reverse ++ rest)) ⟨hx, hb, hml, hown, hts⟩ hc.met (va_cwS (R := R) i.2.2.2.2 hts hG rfl rfl rfl ⟨y1, y2, y3⟩ ⟨by rw [hR0']; exact hdd, by rw [hR0']; exact hrm⟩) ⟨PAX.blind, fun U hU hW => ⟨rfl, by rw [hU]; exact hR, by rw [hU]; exact (v_kn hKn hS).moved hW, by rw [hU]; exact Nat.le_trans hbs hS.1, by rw [hU]; exact (hX.kept (hS.2.1 b9 hbl hbA)).moved hW.alike⟩⟩ rfl hn (hLs.1.trans hL) rfl (lv_room hcat) hd ⟨by rw [hR0']; exact hroom.1, by rw [hR0']; exact hroom.2⟩
  intro T hT X9
  obtain ⟨v, st₀, t, T', L9, g0, g1, g2, g3, g4, g5, g6⟩ := hr T hT X9
  exact Or.inl ⟨v, st₀, t, T', L9, g0, g1, g2, g3, g4, g5, g6⟩
end CXH
section CEL
variable {l : Launch} {D : Dg} {b b9 n9 : Nat} {xs : Nat → Int32} {h : Hp}
theorem l_cell (hfl : l.flags = flags0) (hb9 : b9 < b) (hn9 : n9 ≤ 2048) {j : Nat} (hj : j < 83) : CalX l D b b9 n9 xs iL_cell 0 0 0 [.ref b9, .int (nI j)] h (fun v h' => (∃ x, v = some (.int x)) ∧ h' = h) nox := by
  refine v_entryX iL_cell plL mL_cell (by simp only [List.forall_mem_cons, List.not_mem_nil, false_implies, cat_o, cat_r, cat_i, cat_n, and_self, implies_true]) hfl ?_
  rintro ⟨⟨p, l9, e, R⟩, ⟨sz, mi, args, below⟩, ⟨meth, cx, D9, b9'⟩, ⟨P, X, mc, ms⟩⟩ rfl rfl rfl hPX K hXX
  injection hPX with hP hPX
  injection hPX with hX hPX
  injection hPX with hMC hMS
  subst hMC hMS
  have hPe := fun r h9 => congrFun (congrFun hP r) h9
  have hbs : b9' ≤ sz.heap.size := K.2.2.2.2.2.2.2.2.2.1
  have hb9' : b9 < b9' := hb9
  have hbl : b9 < sz.heap.size := Nat.lt_of_lt_of_le hb9' hbs
  have hbA : ¬ b9' ≤ b9 := Nat.not_le.mpr hb9'
  refine ry1_ok K FokL none noini [2] 60 ?_
  simp only [ry1_s, ry_s, ry_0, hit, true_and, and_true, List.map_cons, List.map_nil, List.length_cons, List.length_nil, List.replicate, List.cons_append, List.nil_append, List.append_nil, List.length_append, List.set_cons_zero, List.set_cons_succ, lgt_0, lgt_s, lhas_0, lhas_s, isI_i, isRf_r, isRf_n, inc_i, of1, ofm1, rokI_i, rokI_0, rokI_1, rokI_b, okv_i, okv_z0, okv_z1, okv_or, okv_on, okv_ar, okv_b, isA_s, alen_s, cat_i, cat_r, cat_n, finC_s, hPe, rv, nar1, nar0,  b2i_0, oI_n, oI_s, d24, d168, d100, Int32.le_refl, vpT, nIc8, nIc12, nIc40, nIc200, hup_at, and_self, and_false, false_and, Nat.reduceEqDiff, Nat.reduceEqDiff, reduceCtorEq, ie_m1_0, il_m1_0, ie_m1_1, il_m1_1, ie_m1_2, il_m1_2, ie_m1_3, il_m1_3, ie_m1_4, ie_m1_5, ie_m1_6, ie_m1_7, ie_m1_8, ie_0_m1, il_0_0, ie_0_1, il_0_1, ie_0_2, il_0_2, ie_0_3, il_0_3, ie_0_4, ie_0_5, ie_0_6, ie_0_7, ie_0_8, ie_1_m1, ie_1_0, il_1_0, il_1_1, ie_1_2, il_1_2, ie_1_3, il_1_3, ie_1_4, ie_1_5, ie_1_6, ie_1_7, ie_1_8, ie_2_m1, ie_2_0, il_2_0, ie_2_1, il_2_1, il_2_2, ie_2_3, il_2_3, ie_2_4, ie_2_5, ie_2_6, ie_2_7, ie_2_8, ie_3_m1, ie_3_0, il_3_0, ie_3_1, il_3_1, ie_3_2, il_3_2, il_3_3, ie_3_4, ie_3_5, ie_3_6, ie_3_7, ie_3_8, ie_4_m1, ie_4_0, il_4_0, ie_4_1, il_4_1, ie_4_2, il_4_2, ie_4_3, il_4_3, ie_4_5, ie_4_6, ie_4_7, ie_4_8, ie_5_m1, ie_5_0, il_5_0, ie_5_1, il_5_1, ie_5_2, il_5_2, ie_5_3, il_5_3, ie_5_4, ie_5_6, ie_5_7, ie_5_8, ie_6_m1, ie_6_0, il_6_0, ie_6_1, il_6_1, ie_6_2, il_6_2, ie_6_3, il_6_3, ie_6_4, ie_6_5, ie_6_7, ie_6_8, ie_7_m1, ie_7_0, il_7_0, ie_7_1, il_7_1, ie_7_2, il_7_2, ie_7_3, il_7_3, ie_7_4, ie_7_5, ie_7_6, ie_7_8, ie_8_m1, ie_8_0, il_8_0, ie_8_1, il_8_1, ie_8_2, il_8_2, ie_8_3, il_8_3, ie_8_4, ie_8_5, ie_8_6, ie_8_7, Nat.reduceAdd, Nat.reduceSub, Nat.reduceLT, Nat.reduceLeDiff, Nat.reduceBEq, Bool.or_false, Bool.false_or, Bool.or_true, Bool.true_or, Bool.or_self, Bool.false_eq_true, ↓reduceIte, Nat.le_refl, Nat.zero_le, nI_p1, Option.toList, not_true_eq_false, not_false_eq_true, isRf_o, isR_o, isR_a, cat_o, okv_fo, okv_fa, orf_s, orf_n, both_t, both_f, rfn_n, rfn_s, eq_self, forall_const, qL_cell_0, qL_cell_1, qL_cell_2, qL_cell_3, qL_cell_6, qL_cell_7, qL_cell_8, qL_cell_9, qL_cell_12, qL_cell_15, qL_cell_16, qL_cell_19, qL_cell_20, qL_cell_21, qL_cell_22, qL_cell_23, qL_cell_24, qL_cell_25]
  refine v_slenA K hXX hbl hbA dL_cell_2 ?_
  by_cases q9 : nI n9 ≤ nI j
  · refine ry1_ok K FokL none noini [12] 60 ?_
    simp only [ry1_s, ry_s, ry_0, hit, true_and, and_true, List.map_cons, List.map_nil, List.length_cons, List.length_nil, List.replicate, List.cons_append, List.nil_append, List.append_nil, List.length_append, List.set_cons_zero, List.set_cons_succ, lgt_0, lgt_s, lhas_0, lhas_s, isI_i, isRf_r, isRf_n, inc_i, of1, ofm1, rokI_i, rokI_0, rokI_1, rokI_b, okv_i, okv_z0, okv_z1, okv_or, okv_on, okv_ar, okv_b, isA_s, alen_s, cat_i, cat_r, cat_n, finC_s, hPe, rv, nar1, nar0,  b2i_0, oI_n, oI_s, d24, d168, d100, Int32.le_refl, vpT, nIc8, nIc12, nIc40, nIc200, hup_at, and_self, and_false, false_and, Nat.reduceEqDiff, Nat.reduceEqDiff, reduceCtorEq, ie_m1_0, il_m1_0, ie_m1_1, il_m1_1, ie_m1_2, il_m1_2, ie_m1_3, il_m1_3, ie_m1_4, ie_m1_5, ie_m1_6, ie_m1_7, ie_m1_8, ie_0_m1, il_0_0, ie_0_1, il_0_1, ie_0_2, il_0_2, ie_0_3, il_0_3, ie_0_4, ie_0_5, ie_0_6, ie_0_7, ie_0_8, ie_1_m1, ie_1_0, il_1_0, il_1_1, ie_1_2, il_1_2, ie_1_3, il_1_3, ie_1_4, ie_1_5, ie_1_6, ie_1_7, ie_1_8, ie_2_m1, ie_2_0, il_2_0, ie_2_1, il_2_1, il_2_2, ie_2_3, il_2_3, ie_2_4, ie_2_5, ie_2_6, ie_2_7, ie_2_8, ie_3_m1, ie_3_0, il_3_0, ie_3_1, il_3_1, ie_3_2, il_3_2, il_3_3, ie_3_4, ie_3_5, ie_3_6, ie_3_7, ie_3_8, ie_4_m1, ie_4_0, il_4_0, ie_4_1, il_4_1, ie_4_2, il_4_2, ie_4_3, il_4_3, ie_4_5, ie_4_6, ie_4_7, ie_4_8, ie_5_m1, ie_5_0, il_5_0, ie_5_1, il_5_1, ie_5_2, il_5_2, ie_5_3, il_5_3, ie_5_4, ie_5_6, ie_5_7, ie_5_8, ie_6_m1, ie_6_0, il_6_0, ie_6_1, il_6_1, ie_6_2, il_6_2, ie_6_3, il_6_3, ie_6_4, ie_6_5, ie_6_7, ie_6_8, ie_7_m1, ie_7_0, il_7_0, ie_7_1, il_7_1, ie_7_2, il_7_2, ie_7_3, il_7_3, ie_7_4, ie_7_5, ie_7_6, ie_7_8, ie_8_m1, ie_8_0, il_8_0, ie_8_1, il_8_1, ie_8_2, il_8_2, ie_8_3, il_8_3, ie_8_4, ie_8_5, ie_8_6, ie_8_7, Nat.reduceAdd, Nat.reduceSub, Nat.reduceLT, Nat.reduceLeDiff, Nat.reduceBEq, Bool.or_false, Bool.false_or, Bool.or_true, Bool.true_or, Bool.or_self, Bool.false_eq_true, ↓reduceIte, Nat.le_refl, Nat.zero_le, nI_p1, Option.toList, not_true_eq_false, not_false_eq_true, isRf_o, isR_o, isR_a, cat_o, okv_fo, okv_fa, orf_s, orf_n, both_t, both_f, rfn_n, rfn_s, eq_self, forall_const, qL_cell_0, qL_cell_1, qL_cell_2, qL_cell_3, qL_cell_6, qL_cell_7, qL_cell_8, qL_cell_9, qL_cell_12, qL_cell_15, qL_cell_16, qL_cell_19, qL_cell_20, qL_cell_21, qL_cell_22, qL_cell_23, qL_cell_24, qL_cell_25, q9]
    refine v_ldcJ K (v := 3266489917) (List.mem_filter.mpr ⟨by decide +kernel, by decide +kernel⟩) dL_cell_12 ?_
    refine ry1_ok K FokL none noini [] 60 ?_
    simp only [ry1_s, ry_s, ry_0, hit, true_and, and_true, List.map_cons, List.map_nil, List.length_cons, List.length_nil, List.replicate, List.cons_append, List.nil_append, List.append_nil, List.length_append, List.set_cons_zero, List.set_cons_succ, lgt_0, lgt_s, lhas_0, lhas_s, isI_i, isRf_r, isRf_n, inc_i, of1, ofm1, rokI_i, rokI_0, rokI_1, rokI_b, okv_i, okv_z0, okv_z1, okv_or, okv_on, okv_ar, okv_b, isA_s, alen_s, cat_i, cat_r, cat_n, finC_s, hPe, rv, nar1, nar0,  b2i_0, oI_n, oI_s, d24, d168, d100, Int32.le_refl, vpT, nIc8, nIc12, nIc40, nIc200, hup_at, and_self, and_false, false_and, Nat.reduceEqDiff, Nat.reduceEqDiff, reduceCtorEq, ie_m1_0, il_m1_0, ie_m1_1, il_m1_1, ie_m1_2, il_m1_2, ie_m1_3, il_m1_3, ie_m1_4, ie_m1_5, ie_m1_6, ie_m1_7, ie_m1_8, ie_0_m1, il_0_0, ie_0_1, il_0_1, ie_0_2, il_0_2, ie_0_3, il_0_3, ie_0_4, ie_0_5, ie_0_6, ie_0_7, ie_0_8, ie_1_m1, ie_1_0, il_1_0, il_1_1, ie_1_2, il_1_2, ie_1_3, il_1_3, ie_1_4, ie_1_5, ie_1_6, ie_1_7, ie_1_8, ie_2_m1, ie_2_0, il_2_0, ie_2_1, il_2_1, il_2_2, ie_2_3, il_2_3, ie_2_4, ie_2_5, ie_2_6, ie_2_7, ie_2_8, ie_3_m1, ie_3_0, il_3_0, ie_3_1, il_3_1, ie_3_2, il_3_2, il_3_3, ie_3_4, ie_3_5, ie_3_6, ie_3_7, ie_3_8, ie_4_m1, ie_4_0, il_4_0, ie_4_1, il_4_1, ie_4_2, il_4_2, ie_4_3, il_4_3, ie_4_5, ie_4_6, ie_4_7, ie_4_8, ie_5_m1, ie_5_0, il_5_0, ie_5_1, il_5_1, ie_5_2, il_5_2, ie_5_3, il_5_3, ie_5_4, ie_5_6, ie_5_7, ie_5_8, ie_6_m1, ie_6_0, il_6_0, ie_6_1, il_6_1, ie_6_2, il_6_2, ie_6_3, il_6_3, ie_6_4, ie_6_5, ie_6_7, ie_6_8, ie_7_m1, ie_7_0, il_7_0, ie_7_1, il_7_1, ie_7_2, il_7_2, ie_7_3, il_7_3, ie_7_4, ie_7_5, ie_7_6, ie_7_8, ie_8_m1, ie_8_0, il_8_0, ie_8_1, il_8_1, ie_8_2, il_8_2, ie_8_3, il_8_3, ie_8_4, ie_8_5, ie_8_6, ie_8_7, Nat.reduceAdd, Nat.reduceSub, Nat.reduceLT, Nat.reduceLeDiff, Nat.reduceBEq, Bool.or_false, Bool.false_or, Bool.or_true, Bool.true_or, Bool.or_self, Bool.false_eq_true, ↓reduceIte, Nat.le_refl, Nat.zero_le, nI_p1, Option.toList, not_true_eq_false, not_false_eq_true, isRf_o, isR_o, isR_a, cat_o, okv_fo, okv_fa, orf_s, orf_n, both_t, both_f, rfn_n, rfn_s, eq_self, forall_const, qL_cell_0, qL_cell_1, qL_cell_2, qL_cell_3, qL_cell_6, qL_cell_7, qL_cell_8, qL_cell_9, qL_cell_12, qL_cell_15, qL_cell_16, qL_cell_19, qL_cell_20, qL_cell_21, qL_cell_22, qL_cell_23, qL_cell_24, qL_cell_25]
    exact ⟨_, rfl⟩
  · have hjn : j < n9 := by
      rcases Nat.lt_or_ge j n9 with z | z
      · exact z
      · exact absurd (by
          by_cases e9 : n9 = 2048
          · omega
          · rw [nJ_le (by omega) (by omega)]; exact z) q9
    refine ry1_ok K FokL none noini [8] 60 ?_
    simp only [ry1_s, ry_s, ry_0, hit, true_and, and_true, List.map_cons, List.map_nil, List.length_cons, List.length_nil, List.replicate, List.cons_append, List.nil_append, List.append_nil, List.length_append, List.set_cons_zero, List.set_cons_succ, lgt_0, lgt_s, lhas_0, lhas_s, isI_i, isRf_r, isRf_n, inc_i, of1, ofm1, rokI_i, rokI_0, rokI_1, rokI_b, okv_i, okv_z0, okv_z1, okv_or, okv_on, okv_ar, okv_b, isA_s, alen_s, cat_i, cat_r, cat_n, finC_s, hPe, rv, nar1, nar0,  b2i_0, oI_n, oI_s, d24, d168, d100, Int32.le_refl, vpT, nIc8, nIc12, nIc40, nIc200, hup_at, and_self, and_false, false_and, Nat.reduceEqDiff, Nat.reduceEqDiff, reduceCtorEq, ie_m1_0, il_m1_0, ie_m1_1, il_m1_1, ie_m1_2, il_m1_2, ie_m1_3, il_m1_3, ie_m1_4, ie_m1_5, ie_m1_6, ie_m1_7, ie_m1_8, ie_0_m1, il_0_0, ie_0_1, il_0_1, ie_0_2, il_0_2, ie_0_3, il_0_3, ie_0_4, ie_0_5, ie_0_6, ie_0_7, ie_0_8, ie_1_m1, ie_1_0, il_1_0, il_1_1, ie_1_2, il_1_2, ie_1_3, il_1_3, ie_1_4, ie_1_5, ie_1_6, ie_1_7, ie_1_8, ie_2_m1, ie_2_0, il_2_0, ie_2_1, il_2_1, il_2_2, ie_2_3, il_2_3, ie_2_4, ie_2_5, ie_2_6, ie_2_7, ie_2_8, ie_3_m1, ie_3_0, il_3_0, ie_3_1, il_3_1, ie_3_2, il_3_2, il_3_3, ie_3_4, ie_3_5, ie_3_6, ie_3_7, ie_3_8, ie_4_m1, ie_4_0, il_4_0, ie_4_1, il_4_1, ie_4_2, il_4_2, ie_4_3, il_4_3, ie_4_5, ie_4_6, ie_4_7, ie_4_8, ie_5_m1, ie_5_0, il_5_0, ie_5_1, il_5_1, ie_5_2, il_5_2, ie_5_3, il_5_3, ie_5_4, ie_5_6, ie_5_7, ie_5_8, ie_6_m1, ie_6_0, il_6_0, ie_6_1, il_6_1, ie_6_2, il_6_2, ie_6_3, il_6_3, ie_6_4, ie_6_5, ie_6_7, ie_6_8, ie_7_m1, ie_7_0, il_7_0, ie_7_1, il_7_1, ie_7_2, il_7_2, ie_7_3, il_7_3, ie_7_4, ie_7_5, ie_7_6, ie_7_8, ie_8_m1, ie_8_0, il_8_0, ie_8_1, il_8_1, ie_8_2, il_8_2, ie_8_3, il_8_3, ie_8_4, ie_8_5, ie_8_6, ie_8_7, Nat.reduceAdd, Nat.reduceSub, Nat.reduceLT, Nat.reduceLeDiff, Nat.reduceBEq, Bool.or_false, Bool.false_or, Bool.or_true, Bool.true_or, Bool.or_self, Bool.false_eq_true, ↓reduceIte, Nat.le_refl, Nat.zero_le, nI_p1, Option.toList, not_true_eq_false, not_false_eq_true, isRf_o, isR_o, isR_a, cat_o, okv_fo, okv_fa, orf_s, orf_n, both_t, both_f, rfn_n, rfn_s, eq_self, forall_const, qL_cell_0, qL_cell_1, qL_cell_2, qL_cell_3, qL_cell_6, qL_cell_7, qL_cell_8, qL_cell_9, qL_cell_12, qL_cell_15, qL_cell_16, qL_cell_19, qL_cell_20, qL_cell_21, qL_cell_22, qL_cell_23, qL_cell_24, qL_cell_25, q9]
    refine v_sld K hXX hbl hbA (vpin hjn hn9) dL_cell_8 ?_
    refine ry1_ok K FokL none noini [] 60 ?_
    simp only [ry1_s, ry_s, ry_0, hit, true_and, and_true, List.map_cons, List.map_nil, List.length_cons, List.length_nil, List.replicate, List.cons_append, List.nil_append, List.append_nil, List.length_append, List.set_cons_zero, List.set_cons_succ, lgt_0, lgt_s, lhas_0, lhas_s, isI_i, isRf_r, isRf_n, inc_i, of1, ofm1, rokI_i, rokI_0, rokI_1, rokI_b, okv_i, okv_z0, okv_z1, okv_or, okv_on, okv_ar, okv_b, isA_s, alen_s, cat_i, cat_r, cat_n, finC_s, hPe, rv, nar1, nar0,  b2i_0, oI_n, oI_s, d24, d168, d100, Int32.le_refl, vpT, nIc8, nIc12, nIc40, nIc200, hup_at, and_self, and_false, false_and, Nat.reduceEqDiff, Nat.reduceEqDiff, reduceCtorEq, ie_m1_0, il_m1_0, ie_m1_1, il_m1_1, ie_m1_2, il_m1_2, ie_m1_3, il_m1_3, ie_m1_4, ie_m1_5, ie_m1_6, ie_m1_7, ie_m1_8, ie_0_m1, il_0_0, ie_0_1, il_0_1, ie_0_2, il_0_2, ie_0_3, il_0_3, ie_0_4, ie_0_5, ie_0_6, ie_0_7, ie_0_8, ie_1_m1, ie_1_0, il_1_0, il_1_1, ie_1_2, il_1_2, ie_1_3, il_1_3, ie_1_4, ie_1_5, ie_1_6, ie_1_7, ie_1_8, ie_2_m1, ie_2_0, il_2_0, ie_2_1, il_2_1, il_2_2, ie_2_3, il_2_3, ie_2_4, ie_2_5, ie_2_6, ie_2_7, ie_2_8, ie_3_m1, ie_3_0, il_3_0, ie_3_1, il_3_1, ie_3_2, il_3_2, il_3_3, ie_3_4, ie_3_5, ie_3_6, ie_3_7, ie_3_8, ie_4_m1, ie_4_0, il_4_0, ie_4_1, il_4_1, ie_4_2, il_4_2, ie_4_3, il_4_3, ie_4_5, ie_4_6, ie_4_7, ie_4_8, ie_5_m1, ie_5_0, il_5_0, ie_5_1, il_5_1, ie_5_2, il_5_2, ie_5_3, il_5_3, ie_5_4, ie_5_6, ie_5_7, ie_5_8, ie_6_m1, ie_6_0, il_6_0, ie_6_1, il_6_1, ie_6_2, il_6_2, ie_6_3, il_6_3, ie_6_4, ie_6_5, ie_6_7, ie_6_8, ie_7_m1, ie_7_0, il_7_0, ie_7_1, il_7_1, ie_7_2, il_7_2, ie_7_3, il_7_3, ie_7_4, ie_7_5, ie_7_6, ie_7_8, ie_8_m1, ie_8_0, il_8_0, ie_8_1, il_8_1, ie_8_2, il_8_2, ie_8_3, il_8_3, ie_8_4, ie_8_5, ie_8_6, ie_8_7, Nat.reduceAdd, Nat.reduceSub, Nat.reduceLT, Nat.reduceLeDiff, Nat.reduceBEq, Bool.or_false, Bool.false_or, Bool.or_true, Bool.true_or, Bool.or_self, Bool.false_eq_true, ↓reduceIte, Nat.le_refl, Nat.zero_le, nI_p1, Option.toList, not_true_eq_false, not_false_eq_true, isRf_o, isR_o, isR_a, cat_o, okv_fo, okv_fa, orf_s, orf_n, both_t, both_f, rfn_n, rfn_s, eq_self, forall_const, qL_cell_0, qL_cell_1, qL_cell_2, qL_cell_3, qL_cell_6, qL_cell_7, qL_cell_8, qL_cell_9, qL_cell_12, qL_cell_15, qL_cell_16, qL_cell_19, qL_cell_20, qL_cell_21, qL_cell_22, qL_cell_23, qL_cell_24, qL_cell_25]
    exact ⟨_, rfl⟩
end CEL
