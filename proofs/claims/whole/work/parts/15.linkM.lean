/-! field tables by pool number; methods; the words of each call -/
def wix (is : List Nat) (L : List Cond) : Bool := match is, L with
  | [], [] => true
  | i :: is, w :: L => decide (lw_tbl[i]? = some w) && goodWord w && wix is L
  | _, _ => false
theorem wix_of : ∀ (is : List Nat) (L : List Cond), wix is L = true → ∀ w ∈ L, w ∈ wsG
  | [], [], _, w, hw => nomatch hw
  | i :: is, v :: L, h, w, hw => by
    simp only [wix, Bool.and_eq_true, decide_eq_true_eq] at h
    rcases List.mem_cons.mp hw with rfl | hw
    · exact wsG_in i h.1.1 h.1.2
    · exact wix_of is L h.2 w hw
  | [], _ :: _, h, _, _ => by simp [wix] at h
  | _ :: _, [], h, _, hw => nomatch hw
def fchk (own : String) (j : Nat) (e : Nat × Fq) : Bool := match vcl[e.2.1]? with
  | some r => decide (e.2.2.1 < r.2.2) && wix [j] [Cond.fieldLink own e.1 (r.2.1 e.2.2.1).1 (r.2.1 e.2.2.1).2.1 (r.2.1 e.2.2.1).2.2.1] && decide (parseFieldDescriptor (r.2.1 e.2.2.1).2.2.1 = some e.2.2.2.1) && ((r.2.1 e.2.2.1).2.2.2 == e.2.2.2.2)
  | none => false
def ftab (L : List (Nat × Nat × Fq)) : Nat → Option Fq := fun i => (L.find? (fun e => e.2.1 == i)).map (·.2.2)
theorem Fok_of {own : String} {L : List (Nat × Nat × Fq)} (h : L.all (fun e => fchk own e.1 e.2) = true) : Fok own (ftab L) := by
  intro i q hq
  unfold ftab at hq
  cases hf : L.find? (fun e => e.2.1 == i) with
  | none => rw [hf] at hq; cases hq
  | some e =>
    rw [hf] at hq
    have e2 : e.2.2 = q := Option.some.inj hq
    have e1 : e.2.1 = i := by simpa using List.find?_some hf
    have h1 := List.all_eq_true.mp h e (List.mem_of_find?_eq_some hf)
    unfold fchk at h1
    rw [e2, e1] at h1
    split at h1
    · rename_i r hr
      simp only [Bool.and_eq_true, decide_eq_true_eq, beq_iff_eq] at h1
      obtain ⟨⟨⟨a1, a2⟩, a4⟩, a5⟩ := h1
      exact ⟨r, hr, a1, wix_of _ _ a2 _ (by simp), a4, a5⟩
    · cases h1
theorem LkV_of {own : String} {idx : Nat} {i : MI} (is : List Nat) (h : wix is [Cond.methodLink own idx i.1, Cond.instanceMethod i.1, Cond.selects i.1.cls i.1 i.1, Cond.initialized i.1.cls, Cond.code i.1 i.2.1 i.2.2.1 i.2.2.2.1] = true) (h2 : i.1.cls ≠ "java/lang/invoke/MethodHandle" ∧ i.1.cls ≠ "java/lang/invoke/VarHandle" ∧ (parseMethodDescriptor i.1.desc).map (fun d => d.parameters.length) = some i.2.2.2.2 ∧ i.2.2.1 ≤ 16) : LkV own idx i := by
  have k := wix_of _ _ h
  exact ⟨k _ (by simp), k _ (by simp), k _ (by simp), k _ (by simp), k _ (by simp), h2⟩
theorem LkS_of {own : String} {idx : Nat} {i : MI} (is : List Nat) (h : wix is [Cond.methodLink own idx i.1, Cond.static i.1, Cond.initialized i.1.cls, Cond.code i.1 i.2.1 i.2.2.1 i.2.2.2.1] = true) (h2 : i.1.cls ≠ "java/lang/invoke/MethodHandle" ∧ i.1.cls ≠ "java/lang/invoke/VarHandle" ∧ (parseMethodDescriptor i.1.desc).map (fun d => d.parameters.length) = some i.2.2.2.2 ∧ i.2.2.1 ≤ 16) : LkS own idx i := by
  have k := wix_of _ _ h
  exact ⟨k _ (by simp), k _ (by simp), k _ (by simp), k _ (by simp), h2⟩
theorem LkI_of {own : String} {idx : Nat} {i : MI} (is : List Nat) (h : wix is [Cond.methodLink own idx i.1, Cond.instanceMethod i.1, Cond.initialized i.1.cls, Cond.code i.1 i.2.1 i.2.2.1 none] = true) (h2 : i.2.2.2.1 = none ∧ i.1.name = "<init>" ∧ i.1.cls ≠ "java/lang/invoke/MethodHandle" ∧ i.1.cls ≠ "java/lang/invoke/VarHandle" ∧ (parseMethodDescriptor i.1.desc).map (fun d => d.parameters.length) = some i.2.2.2.2 ∧ i.2.2.1 ≤ 16) : LkI own idx i := by
  have k := wix_of _ _ h
  exact ⟨k _ (by simp), k _ (by simp), k _ (by simp), k _ (by simp), h2⟩
def flX7 : List (Nat × Nat × Fq) := [(877, 7, 7, 1, .array .int, true), (878, 13, 7, 2, .array .int, true), (880, 16, 7, 4, .array .int, true), (881, 19, 7, 5, .array .int, true), (882, 22, 7, 6, .array .int, true), (883, 25, 7, 7, .array .int, true), (884, 28, 7, 8, .array .int, true), (885, 31, 7, 9, .array .int, true), (887, 34, 7, 11, .array .char, true), (893, 38, 7, 17, .array .int, true), (894, 41, 7, 18, .array .int, true), (895, 44, 7, 19, .array .int, true), (896, 47, 7, 20, .array .int, true), (897, 50, 7, 21, .array .boolean, true), (899, 54, 7, 23, .array .int, true), (900, 57, 7, 24, .array .int, true), (901, 60, 7, 25, .array .int, true), (902, 63, 7, 26, .array .int, true), (903, 66, 7, 27, .array .int, true), (905, 69, 7, 29, .array .int, true), (906, 72, 7, 30, .array .int, true), (907, 75, 7, 31, .array .boolean, true), (909, 78, 7, 33, .array .int, true), (910, 81, 7, 34, .int, false), (879, 89, 7, 3, .int, false), (892, 92, 7, 16, .int, false), (898, 95, 7, 22, .int, false), (904, 98, 7, 28, .int, false), (876, 101, 7, 0, .int, false), (886, 142, 7, 10, .int, false), (888, 153, 7, 12, .int, false), (889, 160, 7, 13, .int, false), (890, 166, 7, 14, .int, false), (891, 169, 7, 15, .int, false), (908, 218, 7, 32, .int, false)]
def FX7 : Nat → Option Fq := ftab flX7
set_option maxRecDepth 100000 in
theorem FokX7 : Fok RX7 FX7 := Fok_of (by decide +kernel)
theorem fX7_7 : FX7 7 = some (7, 1, .array .int, true) := rfl
theorem fX7_13 : FX7 13 = some (7, 2, .array .int, true) := rfl
theorem fX7_16 : FX7 16 = some (7, 4, .array .int, true) := rfl
theorem fX7_19 : FX7 19 = some (7, 5, .array .int, true) := rfl
theorem fX7_22 : FX7 22 = some (7, 6, .array .int, true) := rfl
theorem fX7_25 : FX7 25 = some (7, 7, .array .int, true) := rfl
theorem fX7_28 : FX7 28 = some (7, 8, .array .int, true) := rfl
theorem fX7_31 : FX7 31 = some (7, 9, .array .int, true) := rfl
theorem fX7_34 : FX7 34 = some (7, 11, .array .char, true) := rfl
theorem fX7_38 : FX7 38 = some (7, 17, .array .int, true) := rfl
theorem fX7_41 : FX7 41 = some (7, 18, .array .int, true) := rfl
theorem fX7_44 : FX7 44 = some (7, 19, .array .int, true) := rfl
theorem fX7_47 : FX7 47 = some (7, 20, .array .int, true) := rfl
theorem fX7_50 : FX7 50 = some (7, 21, .array .boolean, true) := rfl
theorem fX7_54 : FX7 54 = some (7, 23, .array .int, true) := rfl
theorem fX7_57 : FX7 57 = some (7, 24, .array .int, true) := rfl
theorem fX7_60 : FX7 60 = some (7, 25, .array .int, true) := rfl
theorem fX7_63 : FX7 63 = some (7, 26, .array .int, true) := rfl
theorem fX7_66 : FX7 66 = some (7, 27, .array .int, true) := rfl
theorem fX7_69 : FX7 69 = some (7, 29, .array .int, true) := rfl
theorem fX7_72 : FX7 72 = some (7, 30, .array .int, true) := rfl
theorem fX7_75 : FX7 75 = some (7, 31, .array .boolean, true) := rfl
theorem fX7_78 : FX7 78 = some (7, 33, .array .int, true) := rfl
theorem fX7_81 : FX7 81 = some (7, 34, .int, false) := rfl
theorem fX7_89 : FX7 89 = some (7, 3, .int, false) := rfl
theorem fX7_92 : FX7 92 = some (7, 16, .int, false) := rfl
theorem fX7_95 : FX7 95 = some (7, 22, .int, false) := rfl
theorem fX7_98 : FX7 98 = some (7, 28, .int, false) := rfl
theorem fX7_101 : FX7 101 = some (7, 0, .int, false) := rfl
theorem fX7_142 : FX7 142 = some (7, 10, .int, false) := rfl
theorem fX7_153 : FX7 153 = some (7, 12, .int, false) := rfl
theorem fX7_160 : FX7 160 = some (7, 13, .int, false) := rfl
theorem fX7_166 : FX7 166 = some (7, 14, .int, false) := rfl
theorem fX7_169 : FX7 169 = some (7, 15, .int, false) := rfl
theorem fX7_218 : FX7 218 = some (7, 32, .int, false) := rfl
abbrev iX7_init : MI := (yX7_init, cX7_init, 2, none, 0)
set_option maxRecDepth 100000 in
theorem mX7_init : Cond.code iX7_init.1 iX7_init.2.1 iX7_init.2.2.1 iX7_init.2.2.2.1 ∈ wsG := wsG_in 874 (by decide +kernel) (by decide +kernel)
abbrev iX7_about : MI := (yX7_about, cX7_about, 2, (some .int), 1)
set_option maxRecDepth 100000 in
theorem mX7_about : Cond.code iX7_about.1 iX7_about.2.1 iX7_about.2.2.1 iX7_about.2.2.2.1 ∈ wsG := wsG_in 1163 (by decide +kernel) (by decide +kernel)
abbrev iX7_breaches : MI := (yX7_breaches, cX7_breaches, 6, (some .int), 2)
set_option maxRecDepth 100000 in
theorem mX7_breaches : Cond.code iX7_breaches.1 iX7_breaches.2.1 iX7_breaches.2.2.1 iX7_breaches.2.2.2.1 ∈ wsG := wsG_in 1147 (by decide +kernel) (by decide +kernel)
abbrev iX7_breaks : MI := (yX7_breaks, cX7_breaks, 3, (some .boolean), 2)
set_option maxRecDepth 100000 in
theorem mX7_breaks : Cond.code iX7_breaks.1 iX7_breaks.2.1 iX7_breaks.2.2.1 iX7_breaks.2.2.2.1 ∈ wsG := wsG_in 1143 (by decide +kernel) (by decide +kernel)
abbrev iX7_canHold : MI := (yX7_canHold, cX7_canHold, 7, (some .boolean), 3)
set_option maxRecDepth 100000 in
theorem mX7_canHold : Cond.code iX7_canHold.1 iX7_canHold.2.1 iX7_canHold.2.2.1 iX7_canHold.2.2.2.1 ∈ wsG := wsG_in 1021 (by decide +kernel) (by decide +kernel)
abbrev iX7_canSwap : MI := (yX7_canSwap, cX7_canSwap, 6, (some .boolean), 1)
set_option maxRecDepth 100000 in
theorem mX7_canSwap : Cond.code iX7_canSwap.1 iX7_canSwap.2.1 iX7_canSwap.2.2.1 iX7_canSwap.2.2.2.1 ∈ wsG := wsG_in 1227 (by decide +kernel) (by decide +kernel)
abbrev iX7_claimFor : MI := (yX7_claimFor, cX7_claimFor, 5, (some .int), 3)
set_option maxRecDepth 100000 in
theorem mX7_claimFor : Cond.code iX7_claimFor.1 iX7_claimFor.2.1 iX7_claimFor.2.2.1 iX7_claimFor.2.2.2.1 ∈ wsG := wsG_in 1063 (by decide +kernel) (by decide +kernel)
abbrev iX7_claims : MI := (yX7_claims, cX7_claims, 1, (some .int), 0)
set_option maxRecDepth 100000 in
theorem mX7_claims : Cond.code iX7_claims.1 iX7_claims.2.1 iX7_claims.2.2.1 iX7_claims.2.2.2.1 ∈ wsG := wsG_in 1151 (by decide +kernel) (by decide +kernel)
abbrev iX7_countOffers : MI := (yX7_countOffers, cX7_countOffers, 3, (some .int), 0)
set_option maxRecDepth 100000 in
theorem mX7_countOffers : Cond.code iX7_countOffers.1 iX7_countOffers.2.1 iX7_countOffers.2.2.1 iX7_countOffers.2.2.2.1 ∈ wsG := wsG_in 1199 (by decide +kernel) (by decide +kernel)
abbrev iX7_dayOf : MI := (yX7_dayOf, cX7_dayOf, 1, (some .int), 1)
set_option maxRecDepth 100000 in
theorem mX7_dayOf : Cond.code iX7_dayOf.1 iX7_dayOf.2.1 iX7_dayOf.2.2.1 iX7_dayOf.2.2.2.1 ∈ wsG := wsG_in 1055 (by decide +kernel) (by decide +kernel)
abbrev iX7_drop : MI := (yX7_drop, cX7_drop, 3, (some .int), 1)
set_option maxRecDepth 100000 in
theorem mX7_drop : Cond.code iX7_drop.1 iX7_drop.2.1 iX7_drop.2.2.1 iX7_drop.2.2.2.1 ∈ wsG := wsG_in 1135 (by decide +kernel) (by decide +kernel)
abbrev iX7_empty : MI := (yX7_empty, cX7_empty, 2, (some .int), 0)
set_option maxRecDepth 100000 in
theorem mX7_empty : Cond.code iX7_empty.1 iX7_empty.2.1 iX7_empty.2.2.1 iX7_empty.2.2.2.1 ∈ wsG := wsG_in 1099 (by decide +kernel) (by decide +kernel)
abbrev iX7_find : MI := (yX7_find, cX7_find, 3, (some .int), 1)
set_option maxRecDepth 100000 in
theorem mX7_find : Cond.code iX7_find.1 iX7_find.2.1 iX7_find.2.2.1 iX7_find.2.2.2.1 ∈ wsG := wsG_in 1211 (by decide +kernel) (by decide +kernel)
abbrev iX7_giveTo : MI := (yX7_giveTo, cX7_giveTo, 4, none, 2)
set_option maxRecDepth 100000 in
theorem mX7_giveTo : Cond.code iX7_giveTo.1 iX7_giveTo.2.1 iX7_giveTo.2.2.1 iX7_giveTo.2.2.2.1 ∈ wsG := wsG_in 1025 (by decide +kernel) (by decide +kernel)
abbrev iX7_giver : MI := (yX7_giver, cX7_giver, 3, (some .int), 1)
set_option maxRecDepth 100000 in
theorem mX7_giver : Cond.code iX7_giver.1 iX7_giver.2.1 iX7_giver.2.2.1 iX7_giver.2.2.2.1 ∈ wsG := wsG_in 1219 (by decide +kernel) (by decide +kernel)
abbrev iX7_hasShiftOn : MI := (yX7_hasShiftOn, cX7_hasShiftOn, 5, (some .boolean), 2)
set_option maxRecDepth 100000 in
theorem mX7_hasShiftOn : Cond.code iX7_hasShiftOn.1 iX7_hasShiftOn.2.1 iX7_hasShiftOn.2.2.1 iX7_hasShiftOn.2.2.2.1 ∈ wsG := wsG_in 1059 (by decide +kernel) (by decide +kernel)
abbrev iX7_hold : MI := (yX7_hold, cX7_hold, 5, (some .int), 2)
set_option maxRecDepth 100000 in
theorem mX7_hold : Cond.code iX7_hold.1 iX7_hold.2.1 iX7_hold.2.2.1 iX7_hold.2.2.2.1 ∈ wsG := wsG_in 1013 (by decide +kernel) (by decide +kernel)
abbrev iX7_holder : MI := (yX7_holder, cX7_holder, 2, (some .int), 1)
set_option maxRecDepth 100000 in
theorem mX7_holder : Cond.code iX7_holder.1 iX7_holder.2.1 iX7_holder.2.2.1 iX7_holder.2.2.2.1 ∈ wsG := wsG_in 1079 (by decide +kernel) (by decide +kernel)
abbrev iX7_isAhead : MI := (yX7_isAhead, cX7_isAhead, 3, (some .boolean), 2)
set_option maxRecDepth 100000 in
theorem mX7_isAhead : Cond.code iX7_isAhead.1 iX7_isAhead.2.1 iX7_isAhead.2.2.1 iX7_isAhead.2.2.2.1 ∈ wsG := wsG_in 1041 (by decide +kernel) (by decide +kernel)
abbrev iX7_isBroken : MI := (yX7_isBroken, cX7_isBroken, 5, (some .boolean), 2)
set_option maxRecDepth 100000 in
theorem mX7_isBroken : Cond.code iX7_isBroken.1 iX7_isBroken.2.1 iX7_isBroken.2.2.1 iX7_isBroken.2.2.2.1 ∈ wsG := wsG_in 1033 (by decide +kernel) (by decide +kernel)
abbrev iX7_isClaim : MI := (yX7_isClaim, cX7_isClaim, 2, (some .boolean), 1)
set_option maxRecDepth 100000 in
theorem mX7_isClaim : Cond.code iX7_isClaim.1 iX7_isClaim.2.1 iX7_isClaim.2.2.1 iX7_isClaim.2.2.2.1 ∈ wsG := wsG_in 1159 (by decide +kernel) (by decide +kernel)
abbrev iX7_isFour : MI := (yX7_isFour, cX7_isFour, 7, (some .boolean), 6)
set_option maxRecDepth 100000 in
theorem mX7_isFour : Cond.code iX7_isFour.1 iX7_isFour.2.1 iX7_isFour.2.2.1 iX7_isFour.2.2.2.1 ∈ wsG := wsG_in 1115 (by decide +kernel) (by decide +kernel)
abbrev iX7_isIn : MI := (yX7_isIn, cX7_isIn, 3, (some .boolean), 3)
set_option maxRecDepth 100000 in
theorem mX7_isIn : Cond.code iX7_isIn.1 iX7_isIn.2.1 iX7_isIn.2.2.1 iX7_isIn.2.2.2.1 ∈ wsG := wsG_in 994 (by decide +kernel) (by decide +kernel)
abbrev iX7_isInRing : MI := (yX7_isInRing, cX7_isInRing, 4, (some .boolean), 1)
set_option maxRecDepth 100000 in
theorem mX7_isInRing : Cond.code iX7_isInRing.1 iX7_isInRing.2.1 iX7_isInRing.2.2.1 iX7_isInRing.2.2.2.1 ∈ wsG := wsG_in 1215 (by decide +kernel) (by decide +kernel)
abbrev iX7_isInRow : MI := (yX7_isInRow, cX7_isInRow, 5, (some .boolean), 2)
set_option maxRecDepth 100000 in
theorem mX7_isInRow : Cond.code iX7_isInRow.1 iX7_isInRow.2.1 iX7_isInRow.2.2.1 iX7_isInRow.2.2.2.1 ∈ wsG := wsG_in 1052 (by decide +kernel) (by decide +kernel)
abbrev iX7_isOffer : MI := (yX7_isOffer, cX7_isOffer, 2, (some .boolean), 1)
set_option maxRecDepth 100000 in
theorem mX7_isOffer : Cond.code iX7_isOffer.1 iX7_isOffer.2.1 iX7_isOffer.2.2.1 iX7_isOffer.2.2.2.1 ∈ wsG := wsG_in 1195 (by decide +kernel) (by decide +kernel)
abbrev iX7_isRule : MI := (yX7_isRule, cX7_isRule, 2, (some .boolean), 1)
set_option maxRecDepth 100000 in
theorem mX7_isRule : Cond.code iX7_isRule.1 iX7_isRule.2.1 iX7_isRule.2.2.1 iX7_isRule.2.2.2.1 ∈ wsG := wsG_in 1139 (by decide +kernel) (by decide +kernel)
abbrev iX7_isShift : MI := (yX7_isShift, cX7_isShift, 2, (some .boolean), 1)
set_option maxRecDepth 100000 in
theorem mX7_isShift : Cond.code iX7_isShift.1 iX7_isShift.2.1 iX7_isShift.2.2.1 iX7_isShift.2.2.2.1 ∈ wsG := wsG_in 1017 (by decide +kernel) (by decide +kernel)
abbrev iX7_isSkill : MI := (yX7_isSkill, cX7_isSkill, 3, (some .boolean), 2)
set_option maxRecDepth 100000 in
theorem mX7_isSkill : Cond.code iX7_isSkill.1 iX7_isSkill.2.1 iX7_isSkill.2.2.1 iX7_isSkill.2.2.2.1 ∈ wsG := wsG_in 1127 (by decide +kernel) (by decide +kernel)
abbrev iX7_isThree : MI := (yX7_isThree, cX7_isThree, 6, (some .boolean), 5)
set_option maxRecDepth 100000 in
theorem mX7_isThree : Cond.code iX7_isThree.1 iX7_isThree.2.1 iX7_isThree.2.2.1 iX7_isThree.2.2.2.1 ∈ wsG := wsG_in 1119 (by decide +kernel) (by decide +kernel)
abbrev iX7_isWorker : MI := (yX7_isWorker, cX7_isWorker, 1, (some .boolean), 1)
set_option maxRecDepth 100000 in
theorem mX7_isWorker : Cond.code iX7_isWorker.1 iX7_isWorker.2.1 iX7_isWorker.2.2.1 iX7_isWorker.2.2.2.1 ∈ wsG := wsG_in 1005 (by decide +kernel) (by decide +kernel)
abbrev iX7_judge : MI := (yX7_judge, cX7_judge, 5, (some .int), 0)
set_option maxRecDepth 100000 in
theorem mX7_judge : Cond.code iX7_judge.1 iX7_judge.2.1 iX7_judge.2.2.1 iX7_judge.2.2.2.1 ∈ wsG := wsG_in 1029 (by decide +kernel) (by decide +kernel)
abbrev iX7_justAhead : MI := (yX7_justAhead, cX7_justAhead, 4, (some .int), 1)
set_option maxRecDepth 100000 in
theorem mX7_justAhead : Cond.code iX7_justAhead.1 iX7_justAhead.2.1 iX7_justAhead.2.2.1 iX7_justAhead.2.2.2.1 ∈ wsG := wsG_in 1037 (by decide +kernel) (by decide +kernel)
abbrev iX7_make : MI := (yX7_make, cX7_make, 4, none, 3)
set_option maxRecDepth 100000 in
theorem mX7_make : Cond.code iX7_make.1 iX7_make.2.1 iX7_make.2.2.1 iX7_make.2.2.2.1 ∈ wsG := wsG_in 1067 (by decide +kernel) (by decide +kernel)
abbrev iX7_may : MI := (yX7_may, cX7_may, 2, (some .boolean), 1)
set_option maxRecDepth 100000 in
theorem mX7_may : Cond.code iX7_may.1 iX7_may.2.1 iX7_may.2.2.1 iX7_may.2.2.2.1 ∈ wsG := wsG_in 1083 (by decide +kernel) (by decide +kernel)
abbrev iX7_mayAll : MI := (yX7_mayAll, cX7_mayAll, 4, (some .boolean), 3)
set_option maxRecDepth 100000 in
theorem mX7_mayAll : Cond.code iX7_mayAll.1 iX7_mayAll.2.1 iX7_mayAll.2.2.1 iX7_mayAll.2.2.2.1 ∈ wsG := wsG_in 1075 (by decide +kernel) (by decide +kernel)
abbrev iX7_mayBoth : MI := (yX7_mayBoth, cX7_mayBoth, 3, (some .boolean), 2)
set_option maxRecDepth 100000 in
theorem mX7_mayBoth : Cond.code iX7_mayBoth.1 iX7_mayBoth.2.1 iX7_mayBoth.2.2.1 iX7_mayBoth.2.2.2.1 ∈ wsG := wsG_in 998 (by decide +kernel) (by decide +kernel)
abbrev iX7_numberOf : MI := (yX7_numberOf, cX7_numberOf, 6, (some .int), 3)
set_option maxRecDepth 100000 in
theorem mX7_numberOf : Cond.code iX7_numberOf.1 iX7_numberOf.2.1 iX7_numberOf.2.2.1 iX7_numberOf.2.2.2.1 ∈ wsG := wsG_in 1123 (by decide +kernel) (by decide +kernel)
abbrev iX7_offer : MI := (yX7_offer, cX7_offer, 5, (some .int), 2)
set_option maxRecDepth 100000 in
theorem mX7_offer : Cond.code iX7_offer.1 iX7_offer.2.1 iX7_offer.2.2.1 iX7_offer.2.2.2.1 ∈ wsG := wsG_in 1187 (by decide +kernel) (by decide +kernel)
abbrev iX7_offers : MI := (yX7_offers, cX7_offers, 1, (some .int), 0)
set_option maxRecDepth 100000 in
theorem mX7_offers : Cond.code iX7_offers.1 iX7_offers.2.1 iX7_offers.2.2.1 iX7_offers.2.2.2.1 ∈ wsG := wsG_in 1203 (by decide +kernel) (by decide +kernel)
abbrev iX7_pass : MI := (yX7_pass, cX7_pass, 3, (some .int), 1)
set_option maxRecDepth 100000 in
theorem mX7_pass : Cond.code iX7_pass.1 iX7_pass.2.1 iX7_pass.2.2.1 iX7_pass.2.2.2.1 ∈ wsG := wsG_in 991 (by decide +kernel) (by decide +kernel)
abbrev iX7_pay : MI := (yX7_pay, cX7_pay, 3, (some .int), 1)
set_option maxRecDepth 100000 in
theorem mX7_pay : Cond.code iX7_pay.1 iX7_pay.2.1 iX7_pay.2.2.1 iX7_pay.2.2.2.1 ∈ wsG := wsG_in 1175 (by decide +kernel) (by decide +kernel)
abbrev iX7_put : MI := (yX7_put, cX7_put, 3, (some .int), 1)
set_option maxRecDepth 100000 in
theorem mX7_put : Cond.code iX7_put.1 iX7_put.2.1 iX7_put.2.2.1 iX7_put.2.2.2.1 ∈ wsG := wsG_in 1095 (by decide +kernel) (by decide +kernel)
abbrev iX7_read : MI := (yX7_read, cX7_read, 1, (some .int), 0)
set_option maxRecDepth 100000 in
theorem mX7_read : Cond.code iX7_read.1 iX7_read.2.1 iX7_read.2.2.1 iX7_read.2.2.2.1 ∈ wsG := wsG_in 1131 (by decide +kernel) (by decide +kernel)
abbrev iX7_rest : MI := (yX7_rest, cX7_rest, 3, (some .int), 1)
set_option maxRecDepth 100000 in
theorem mX7_rest : Cond.code iX7_rest.1 iX7_rest.2.1 iX7_rest.2.2.1 iX7_rest.2.2.2.1 ∈ wsG := wsG_in 1091 (by decide +kernel) (by decide +kernel)
abbrev iX7_ring : MI := (yX7_ring, cX7_ring, 2, (some .int), 1)
set_option maxRecDepth 100000 in
theorem mX7_ring : Cond.code iX7_ring.1 iX7_ring.2.1 iX7_ring.2.2.1 iX7_ring.2.2.2.1 ∈ wsG := wsG_in 1207 (by decide +kernel) (by decide +kernel)
abbrev iX7_shift : MI := (yX7_shift, cX7_shift, 4, (some .int), 3)
set_option maxRecDepth 100000 in
theorem mX7_shift : Cond.code iX7_shift.1 iX7_shift.2.1 iX7_shift.2.2.1 iX7_shift.2.2.2.1 ∈ wsG := wsG_in 1009 (by decide +kernel) (by decide +kernel)
abbrev iX7_shiftOf : MI := (yX7_shiftOf, cX7_shiftOf, 7, (some .int), 2)
set_option maxRecDepth 100000 in
theorem mX7_shiftOf : Cond.code iX7_shiftOf.1 iX7_shiftOf.2.1 iX7_shiftOf.2.2.1 iX7_shiftOf.2.2.2.1 ∈ wsG := wsG_in 1087 (by decide +kernel) (by decide +kernel)
abbrev iX7_stamp : MI := (yX7_stamp, cX7_stamp, 6, (some .int), 3)
set_option maxRecDepth 100000 in
theorem mX7_stamp : Cond.code iX7_stamp.1 iX7_stamp.2.1 iX7_stamp.2.2.1 iX7_stamp.2.2.2.1 ∈ wsG := wsG_in 1071 (by decide +kernel) (by decide +kernel)
abbrev iX7_state : MI := (yX7_state, cX7_state, 2, (some .int), 1)
set_option maxRecDepth 100000 in
theorem mX7_state : Cond.code iX7_state.1 iX7_state.2.1 iX7_state.2.2.1 iX7_state.2.2.2.1 ∈ wsG := wsG_in 1155 (by decide +kernel) (by decide +kernel)
abbrev iX7_swap : MI := (yX7_swap, cX7_swap, 10, (some .int), 1)
set_option maxRecDepth 100000 in
theorem mX7_swap : Cond.code iX7_swap.1 iX7_swap.2.1 iX7_swap.2.2.1 iX7_swap.2.2.2.1 ∈ wsG := wsG_in 1223 (by decide +kernel) (by decide +kernel)
abbrev iX7_takeBack : MI := (yX7_takeBack, cX7_takeBack, 3, (some .int), 1)
set_option maxRecDepth 100000 in
theorem mX7_takeBack : Cond.code iX7_takeBack.1 iX7_takeBack.2.1 iX7_takeBack.2.2.1 iX7_takeBack.2.2.2.1 ∈ wsG := wsG_in 1179 (by decide +kernel) (by decide +kernel)
abbrev iX7_thrown : MI := (yX7_thrown, cX7_thrown, 1, (some .int), 0)
set_option maxRecDepth 100000 in
theorem mX7_thrown : Cond.code iX7_thrown.1 iX7_thrown.2.1 iX7_thrown.2.2.1 iX7_thrown.2.2.2.1 ∈ wsG := wsG_in 987 (by decide +kernel) (by decide +kernel)
abbrev iX7_wages : MI := (yX7_wages, cX7_wages, 5, (some .int), 1)
set_option maxRecDepth 100000 in
theorem mX7_wages : Cond.code iX7_wages.1 iX7_wages.2.1 iX7_wages.2.2.1 iX7_wages.2.2.2.1 ∈ wsG := wsG_in 1183 (by decide +kernel) (by decide +kernel)
abbrev iX7_weekHours : MI := (yX7_weekHours, cX7_weekHours, 4, (some .int), 1)
set_option maxRecDepth 100000 in
theorem mX7_weekHours : Cond.code iX7_weekHours.1 iX7_weekHours.2.1 iX7_weekHours.2.2.1 iX7_weekHours.2.2.2.1 ∈ wsG := wsG_in 1045 (by decide +kernel) (by decide +kernel)
abbrev iX7_weekOf : MI := (yX7_weekOf, cX7_weekOf, 1, (some .int), 1)
set_option maxRecDepth 100000 in
theorem mX7_weekOf : Cond.code iX7_weekOf.1 iX7_weekOf.2.1 iX7_weekOf.2.2.1 iX7_weekOf.2.2.2.1 ∈ wsG := wsG_in 1048 (by decide +kernel) (by decide +kernel)
abbrev iX7_withdraw : MI := (yX7_withdraw, cX7_withdraw, 3, (some .int), 1)
set_option maxRecDepth 100000 in
theorem mX7_withdraw : Cond.code iX7_withdraw.1 iX7_withdraw.2.1 iX7_withdraw.2.2.1 iX7_withdraw.2.2.2.1 ∈ wsG := wsG_in 1191 (by decide +kernel) (by decide +kernel)
abbrev iX7_word : MI := (yX7_word, cX7_word, 4, (some .int), 3)
set_option maxRecDepth 100000 in
theorem mX7_word : Cond.code iX7_word.1 iX7_word.2.1 iX7_word.2.2.1 iX7_word.2.2.2.1 ∈ wsG := wsG_in 1111 (by decide +kernel) (by decide +kernel)
abbrev iX7_worker : MI := (yX7_worker, cX7_worker, 5, (some .int), 3)
set_option maxRecDepth 100000 in
theorem mX7_worker : Cond.code iX7_worker.1 iX7_worker.2.1 iX7_worker.2.2.1 iX7_worker.2.2.2.1 ∈ wsG := wsG_in 1002 (by decide +kernel) (by decide +kernel)
abbrev iX7_worth : MI := (yX7_worth, cX7_worth, 2, (some .int), 1)
set_option maxRecDepth 100000 in
theorem mX7_worth : Cond.code iX7_worth.1 iX7_worth.2.1 iX7_worth.2.2.1 iX7_worth.2.2.2.1 ∈ wsG := wsG_in 1167 (by decide +kernel) (by decide +kernel)
abbrev iX7_worthOf : MI := (yX7_worthOf, cX7_worthOf, 3, (some .int), 1)
set_option maxRecDepth 100000 in
theorem mX7_worthOf : Cond.code iX7_worthOf.1 iX7_worthOf.2.1 iX7_worthOf.2.2.1 iX7_worthOf.2.2.2.1 ∈ wsG := wsG_in 1171 (by decide +kernel) (by decide +kernel)
abbrev iX7_wrong : MI := (yX7_wrong, cX7_wrong, 4, (some .int), 0)
set_option maxRecDepth 100000 in
theorem mX7_wrong : Cond.code iX7_wrong.1 iX7_wrong.2.1 iX7_wrong.2.2.1 iX7_wrong.2.2.2.1 ∈ wsG := wsG_in 1107 (by decide +kernel) (by decide +kernel)
abbrev iX7_wrongAt : MI := (yX7_wrongAt, cX7_wrongAt, 1, (some .int), 0)
set_option maxRecDepth 100000 in
theorem mX7_wrongAt : Cond.code iX7_wrongAt.1 iX7_wrongAt.2.1 iX7_wrongAt.2.2.1 iX7_wrongAt.2.2.2.1 ∈ wsG := wsG_in 1103 (by decide +kernel) (by decide +kernel)
set_option maxRecDepth 100000 in
theorem kX7_85 : LkS RX7 85 iX7_isIn := LkS_of [992, 993, 56, 994] (by decide +kernel) (by decide +kernel)
set_option maxRecDepth 100000 in
theorem kX7_104 : LkV RX7 104 iX7_mayBoth := LkV_of [995, 997, 22, 56, 998] (by decide +kernel) (by decide +kernel)
set_option maxRecDepth 100000 in
theorem kX7_108 : LkS RX7 108 iX7_isWorker := LkS_of [1003, 1004, 56, 1005] (by decide +kernel) (by decide +kernel)
set_option maxRecDepth 100000 in
theorem kX7_112 : LkV RX7 112 iX7_isShift := LkV_of [1014, 1016, 23, 56, 1017] (by decide +kernel) (by decide +kernel)
set_option maxRecDepth 100000 in
theorem kX7_115 : LkV RX7 115 iX7_canHold := LkV_of [1018, 1020, 24, 56, 1021] (by decide +kernel) (by decide +kernel)
set_option maxRecDepth 100000 in
theorem kX7_118 : LkV RX7 118 iX7_giveTo := LkV_of [1022, 1024, 25, 56, 1025] (by decide +kernel) (by decide +kernel)
set_option maxRecDepth 100000 in
theorem kX7_122 : LkV RX7 122 iX7_judge := LkV_of [1026, 1028, 26, 56, 1029] (by decide +kernel) (by decide +kernel)
set_option maxRecDepth 100000 in
theorem kX7_126 : LkV RX7 126 iX7_mayAll := LkV_of [1072, 1074, 35, 56, 1075] (by decide +kernel) (by decide +kernel)
set_option maxRecDepth 100000 in
theorem kX7_130 : LkV RX7 130 iX7_may := LkV_of [1080, 1082, 36, 56, 1083] (by decide +kernel) (by decide +kernel)
set_option maxRecDepth 100000 in
theorem kX7_134 : LkV RX7 134 iX7_isAhead := LkV_of [1038, 1040, 29, 56, 1041] (by decide +kernel) (by decide +kernel)
set_option maxRecDepth 100000 in
theorem kX7_138 : LkV RX7 138 iX7_justAhead := LkV_of [1034, 1036, 28, 56, 1037] (by decide +kernel) (by decide +kernel)
set_option maxRecDepth 100000 in
theorem kX7_145 : LkV RX7 145 iX7_isFour := LkV_of [1112, 1114, 39, 56, 1115] (by decide +kernel) (by decide +kernel)
set_option maxRecDepth 100000 in
theorem kX7_149 : LkV RX7 149 iX7_isThree := LkV_of [1116, 1118, 40, 56, 1119] (by decide +kernel) (by decide +kernel)
set_option maxRecDepth 100000 in
theorem kX7_156 : LkV RX7 156 iX7_numberOf := LkV_of [1120, 1122, 41, 56, 1123] (by decide +kernel) (by decide +kernel)
set_option maxRecDepth 100000 in
theorem kX7_163 : LkV RX7 163 iX7_isSkill := LkV_of [1124, 1126, 42, 56, 1127] (by decide +kernel) (by decide +kernel)
set_option maxRecDepth 100000 in
theorem kX7_172 : LkV RX7 172 iX7_word := LkV_of [1108, 1110, 38, 56, 1111] (by decide +kernel) (by decide +kernel)
set_option maxRecDepth 100000 in
theorem kX7_175 : LkV RX7 175 iX7_wrong := LkV_of [1104, 1106, 37, 56, 1107] (by decide +kernel) (by decide +kernel)
set_option maxRecDepth 100000 in
theorem kX7_178 : LkV RX7 178 iX7_isRule := LkV_of [1136, 1138, 43, 56, 1139] (by decide +kernel) (by decide +kernel)
set_option maxRecDepth 100000 in
theorem kX7_181 : LkS RX7 181 iX7_weekOf := LkS_of [1046, 1047, 56, 1048] (by decide +kernel) (by decide +kernel)
set_option maxRecDepth 100000 in
theorem kX7_184 : LkS RX7 184 iX7_dayOf := LkS_of [1053, 1054, 56, 1055] (by decide +kernel) (by decide +kernel)
set_option maxRecDepth 100000 in
theorem kX7_187 : LkV RX7 187 iX7_hasShiftOn := LkV_of [1056, 1058, 32, 56, 1059] (by decide +kernel) (by decide +kernel)
set_option maxRecDepth 100000 in
theorem kX7_190 : LkV RX7 190 iX7_weekHours := LkV_of [1042, 1044, 30, 56, 1045] (by decide +kernel) (by decide +kernel)
set_option maxRecDepth 100000 in
theorem kX7_193 : LkV RX7 193 iX7_isInRow := LkV_of [1049, 1051, 31, 56, 1052] (by decide +kernel) (by decide +kernel)
set_option maxRecDepth 100000 in
theorem kX7_196 : LkV RX7 196 iX7_isBroken := LkV_of [1030, 1032, 27, 56, 1033] (by decide +kernel) (by decide +kernel)
set_option maxRecDepth 100000 in
theorem kX7_199 : LkV RX7 199 iX7_claimFor := LkV_of [1060, 1062, 33, 56, 1063] (by decide +kernel) (by decide +kernel)
set_option maxRecDepth 100000 in
theorem kX7_202 : LkV RX7 202 iX7_make := LkV_of [1064, 1066, 34, 56, 1067] (by decide +kernel) (by decide +kernel)
set_option maxRecDepth 100000 in
theorem kX7_206 : LkV RX7 206 iX7_isClaim := LkV_of [1156, 1158, 44, 56, 1159] (by decide +kernel) (by decide +kernel)
set_option maxRecDepth 100000 in
theorem kX7_209 : LkV RX7 209 iX7_worthOf := LkV_of [1168, 1170, 45, 56, 1171] (by decide +kernel) (by decide +kernel)
set_option maxRecDepth 100000 in
theorem kX7_212 : LkV RX7 212 iX7_isOffer := LkV_of [1192, 1194, 46, 56, 1195] (by decide +kernel) (by decide +kernel)
set_option maxRecDepth 100000 in
theorem kX7_215 : LkV RX7 215 iX7_countOffers := LkV_of [1196, 1198, 47, 56, 1199] (by decide +kernel) (by decide +kernel)
set_option maxRecDepth 100000 in
theorem kX7_221 : LkV RX7 221 iX7_isInRing := LkV_of [1212, 1214, 49, 56, 1215] (by decide +kernel) (by decide +kernel)
set_option maxRecDepth 100000 in
theorem kX7_224 : LkV RX7 224 iX7_giver := LkV_of [1216, 1218, 50, 56, 1219] (by decide +kernel) (by decide +kernel)
set_option maxRecDepth 100000 in
theorem kX7_227 : LkV RX7 227 iX7_find := LkV_of [1208, 1210, 48, 56, 1211] (by decide +kernel) (by decide +kernel)
set_option maxRecDepth 100000 in
theorem kX7_230 : LkV RX7 230 iX7_canSwap := LkV_of [1224, 1226, 51, 56, 1227] (by decide +kernel) (by decide +kernel)
