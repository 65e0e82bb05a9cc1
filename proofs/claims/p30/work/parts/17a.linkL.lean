abbrev iL_ahead : MI := (yL_ahead, cL_ahead, 6, (some .int), 3)
abbrev iL_asks : MI := (yL_asks, cL_asks, 23, (some .boolean), 9)
abbrev iL_broken : MI := (yL_broken, cL_broken, 10, (some .boolean), 5)
abbrev iL_cell : MI := (yL_cell, cL_cell, 2, (some .int), 2)
abbrev iL_claims : MI := (yL_claims, cL_claims, 13, (some .boolean), 9)
abbrev iL_coded : MI := (yL_coded, cL_coded, 5, (some .int), 5)
abbrev iL_fits : MI := (yL_fits, cL_fits, 8, (some .boolean), 6)
abbrev iL_gets : MI := (yL_gets, cL_gets, 6, none, 5)
abbrev iL_judge : MI := (yL_judge, cL_judge, 11, (some .int), 5)
abbrev iL_key : MI := (yL_key, cL_key, 2, (some .int), 2)
abbrev iL_letters : MI := (yL_letters, cL_letters, 1, (some .int), 1)
abbrev iL_offers : MI := (yL_offers, cL_offers, 18, (some .boolean), 10)
abbrev iL_one : MI := (yL_one, cL_one, 4, (some .int), 3)
abbrev iL_passes : MI := (yL_passes, cL_passes, 3, (some .int), 2)
abbrev iL_puts : MI := (yL_puts, cL_puts, 3, (some .int), 2)
abbrev iL_reads : MI := (yL_reads, cL_reads, 2, (some .int), 1)
abbrev iL_ring : MI := (yL_ring, cL_ring, 10, (some .int), 5)
abbrev iL_shifts : MI := (yL_shifts, cL_shifts, 16, (some .boolean), 10)
abbrev iL_some : MI := (yL_some, cL_some, 2, (some .int), 2)
abbrev iL_texts : MI := (yL_texts, cL_texts, 14, (some .boolean), 7)
abbrev iL_there : MI := (yL_there, cL_there, 4, (some .int), 2)
abbrev iL_three : MI := (yL_three, cL_three, 6, (some .int), 5)
abbrev iL_two : MI := (yL_two, cL_two, 5, (some .int), 4)
abbrev iL_word : MI := (yL_word, cL_word, 8, (some .int), 5)
abbrev iL_worth : MI := (yL_worth, cL_worth, 5, (some .int), 4)
/-- the words of a call of a static method of the law, however many locals it has -/
def LkT (own : String) (idx : Nat) (i : MI) : Prop := Cond.methodLink own idx i.1 ∈ wsG ∧ Cond.static i.1 ∈ wsG ∧ Cond.initialized i.1.cls ∈ wsG ∧ Cond.code i.1 i.2.1 i.2.2.1 i.2.2.2.1 ∈ wsG ∧ i.1.cls ≠ "java/lang/invoke/MethodHandle" ∧ i.1.cls ≠ "java/lang/invoke/VarHandle" ∧ (parseMethodDescriptor i.1.desc).map (fun d => d.parameters.length) = some i.2.2.2.2
theorem LkT_of {own : String} {idx : Nat} {i : MI} (is : List Nat) (h : wix is [Cond.methodLink own idx i.1, Cond.static i.1, Cond.initialized i.1.cls] = true) (hm : Cond.code i.1 i.2.1 i.2.2.1 i.2.2.2.1 ∈ wsG) (h2 : i.1.cls ≠ "java/lang/invoke/MethodHandle" ∧ i.1.cls ≠ "java/lang/invoke/VarHandle" ∧ (parseMethodDescriptor i.1.desc).map (fun d => d.parameters.length) = some i.2.2.2.2) : LkT own idx i := by
  have k := wix_of _ _ h
  exact ⟨k _ (by simp), k _ (by simp), k _ (by simp), hm, h2⟩
theorem LkV_of2 {own : String} {idx : Nat} {i : MI} (is : List Nat) (h : wix is [Cond.methodLink own idx i.1, Cond.instanceMethod i.1, Cond.selects i.1.cls i.1 i.1, Cond.initialized i.1.cls] = true) (hm : Cond.code i.1 i.2.1 i.2.2.1 i.2.2.2.1 ∈ wsG) (h2 : i.1.cls ≠ "java/lang/invoke/MethodHandle" ∧ i.1.cls ≠ "java/lang/invoke/VarHandle" ∧ (parseMethodDescriptor i.1.desc).map (fun d => d.parameters.length) = some i.2.2.2.2 ∧ i.2.2.1 ≤ 16) : LkV own idx i := by
  have k := wix_of _ _ h
  exact ⟨k _ (by simp), k _ (by simp), k _ (by simp), k _ (by simp), hm, h2⟩
section VCT
variable {p : Program} {l : Launch} {e : Env} {R : Room} {s : State} {m : MethodId} {args : Array Value} {below : List Frame} {meth : Method} {c : Code} {D : Dg} {b : Nat} {P : Option Value → Hp → Prop} {X : String → Hp → Prop} {mc ms : Nat}
variable {own nm : String} {cc : ByteArray} {nL d : Nat} {rt : Option FieldType} {tb : List ExceptionTableEntry} {h : Hp} {cs ss pc : Nat} {L : List (Option Value)} {st : List Value} {F : Nat → Option Fq}
theorem v_callT (K : Ok ((p, l, e, R), (s, m, args, below), (meth, c, D, b), (P, X, mc, ms)) own cc nL rt nm d []) {i : MI} {d' mc' ms' idx : Nat} {As rest : List Value} {P' : Option Value → Hp → Prop} {X' : String → Hp → Prop}
    (hc : Cal l D b i d' mc' ms' As h P' X') (hw : LkT own idx i) (hn : As.length = i.2.2.2.2) (hdd : d' + 1 ≤ d) (hrm : 8 + (i.2.2.1 + 11) + 35 * d' ≤ 35 * d) (hL : L.length = nL) (hcat : (rest.map fun v => v.category).sum ≤ 8)
    (hst : st = As.reverse ++ rest) (hd : decode cc pc = .ok (.invokestatic idx, 3)) (hroom : cs + mc' ≤ mc ∧ ss + ms' ≤ ms) (kx : ∀ E h', X' E h' → X E h')
    (kk : ∀ v h', P' v h' → V ((p, l, e, R), (s, m, args, below), (meth, c, D, b), (P, X, mc, ms)) h' (cs + mc') (ss + ms') (pc + 3) L (v.toList ++ rest)) : V ((p, l, e, R), (s, m, args, below), (meth, c, D, b), (P, X, mc, ms)) h cs ss pc L st := by
  obtain ⟨hx, hb, hml, hown, hts, hrt, hlk, hnm, hKn, hbs, hR0, hfl, hxt⟩ := id K
  obtain ⟨w1, w2, w4, w5, y1, y2, y3⟩ := hw
  subst hst
  have hR0' : R = rmD d mc ms := hR0
  refine v_back (a := As.toArray) K hroom (fun H locs ls hR hS hLs => ?_) kx kk
  refine vx_runS ⟨hx, hb, hml, hown, hts⟩ hc (va_cwS i.2.2.2.2 hts ?_ rfl rfl rfl ⟨y1, y2, y3⟩ ⟨by rw [hR0']; exact hdd, by rw [hR0']; exact hrm⟩) ⟨PA.blind, fun U hU hW => ⟨rfl, by rw [hU]; exact hR, by rw [hU]; exact (v_kn hKn hS).moved hW, by rw [hU]; exact Nat.le_trans hbs hS.1⟩⟩ rfl hn (hLs.1.trans hL) rfl (lv_room hcat) hd ⟨by rw [hR0']; exact hroom.1, by rw [hR0']; exact hroom.2⟩
  intro w hw
  rcases List.mem_append.mp hw with hw | hw
  · simp only [List.mem_cons, List.mem_nil_iff, or_false] at hw
    rcases hw with rfl | rfl | rfl
    · exact ⟨w1, wsG_good w1⟩
    · exact ⟨w2, wsG_good w2⟩
    · exact ⟨w4, wsG_good w4⟩
  · exact v_good w5 w hw
end VCT
set_option maxRecDepth 100000 in
theorem kL_23 : LkV RL 23 iX6_pass := LkV_of2 [720, 721, 722, 23] (by decide +kernel) mX6_pass (by decide +kernel)
set_option maxRecDepth 100000 in
theorem kL_33 : LkV RL 33 iX6_worker := LkV_of2 [170, 171, 172, 23] (by decide +kernel) mX6_worker (by decide +kernel)
set_option maxRecDepth 100000 in
theorem kL_37 : LkV RL 37 iX6_shift := LkV_of2 [262, 263, 264, 23] (by decide +kernel) mX6_shift (by decide +kernel)
set_option maxRecDepth 100000 in
theorem kL_40 : LkV RL 40 iX6_stamp := LkV_of2 [327, 328, 329, 23] (by decide +kernel) mX6_stamp (by decide +kernel)
set_option maxRecDepth 100000 in
theorem kL_45 : LkV RL 45 iX6_hold := LkV_of2 [639, 640, 641, 23] (by decide +kernel) mX6_hold (by decide +kernel)
set_option maxRecDepth 100000 in
theorem kL_49 : LkV RL 49 iX6_offer := LkV_of2 [660, 661, 662, 23] (by decide +kernel) mX6_offer (by decide +kernel)
set_option maxRecDepth 100000 in
theorem kL_52 : LkV RL 52 iX6_shiftOf := LkV_of2 [692, 693, 694, 23] (by decide +kernel) mX6_shiftOf (by decide +kernel)
set_option maxRecDepth 100000 in
theorem kL_55 : LkV RL 55 iX6_breaks := LkV_of2 [698, 699, 700, 23] (by decide +kernel) mX6_breaks (by decide +kernel)
set_option maxRecDepth 100000 in
theorem kL_59 : LkV RL 59 iX6_breaches := LkV_of2 [707, 708, 709, 23] (by decide +kernel) mX6_breaches (by decide +kernel)
set_option maxRecDepth 100000 in
theorem kL_62 : LkV RL 62 iX6_drop := LkV_of2 [732, 733, 734, 23] (by decide +kernel) mX6_drop (by decide +kernel)
set_option maxRecDepth 100000 in
theorem kL_65 : LkV RL 65 iX6_pay := LkV_of2 [737, 738, 739, 23] (by decide +kernel) mX6_pay (by decide +kernel)
set_option maxRecDepth 100000 in
theorem kL_68 : LkV RL 68 iX6_takeBack := LkV_of2 [752, 753, 754, 23] (by decide +kernel) mX6_takeBack (by decide +kernel)
set_option maxRecDepth 100000 in
theorem kL_71 : LkV RL 71 iX6_withdraw := LkV_of2 [757, 758, 759, 23] (by decide +kernel) mX6_withdraw (by decide +kernel)
set_option maxRecDepth 100000 in
theorem kL_74 : LkV RL 74 iX6_swap := LkV_of2 [771, 772, 773, 23] (by decide +kernel) mX6_swap (by decide +kernel)
set_option maxRecDepth 100000 in
theorem kL_77 : LkV RL 77 iX6_ring := LkV_of2 [792, 793, 794, 23] (by decide +kernel) mX6_ring (by decide +kernel)
set_option maxRecDepth 100000 in
theorem kL_80 : LkV RL 80 iX6_holder := LkV_of2 [796, 797, 798, 23] (by decide +kernel) mX6_holder (by decide +kernel)
set_option maxRecDepth 100000 in
theorem kL_83 : LkV RL 83 iX6_rest := LkV_of2 [800, 801, 802, 23] (by decide +kernel) mX6_rest (by decide +kernel)
set_option maxRecDepth 100000 in
theorem kL_86 : LkV RL 86 iX6_state := LkV_of2 [805, 806, 807, 23] (by decide +kernel) mX6_state (by decide +kernel)
set_option maxRecDepth 100000 in
theorem kL_89 : LkV RL 89 iX6_about := LkV_of2 [809, 810, 811, 23] (by decide +kernel) mX6_about (by decide +kernel)
set_option maxRecDepth 100000 in
theorem kL_92 : LkV RL 92 iX6_worth := LkV_of2 [813, 814, 815, 23] (by decide +kernel) mX6_worth (by decide +kernel)
set_option maxRecDepth 100000 in
theorem kL_95 : LkV RL 95 iX6_wages := LkV_of2 [817, 818, 819, 23] (by decide +kernel) mX6_wages (by decide +kernel)
set_option maxRecDepth 100000 in
theorem kL_98 : LkV RL 98 iX6_put := LkV_of2 [469, 470, 471, 23] (by decide +kernel) mX6_put (by decide +kernel)
set_option maxRecDepth 100000 in
theorem kL_102 : LkV RL 102 iX6_read := LkV_of2 [574, 575, 576, 23] (by decide +kernel) mX6_read (by decide +kernel)
set_option maxRecDepth 100000 in
theorem kL_126 : LkV RL 126 iX6_wrongAt := LkV_of2 [489, 490, 491, 23] (by decide +kernel) mX6_wrongAt (by decide +kernel)
set_option maxRecDepth 100000 in
theorem kL_133 : LkV RL 133 iX6_empty := LkV_of2 [611, 612, 613, 23] (by decide +kernel) mX6_empty (by decide +kernel)
set_option maxRecDepth 100000 in
theorem kL_172 : LkV RL 172 iX6_offers := LkV_of2 [841, 842, 843, 23] (by decide +kernel) mX6_offers (by decide +kernel)
set_option maxRecDepth 100000 in
theorem kL_175 : LkV RL 175 iX6_claims := LkV_of2 [845, 846, 847, 23] (by decide +kernel) mX6_claims (by decide +kernel)
set_option maxRecDepth 100000 in
theorem kL_178 : LkI RL 178 iX6_init := LkI_of [42, 43, 23, 44] (by decide +kernel) (by decide +kernel)
