/-! field tables by pool number; methods; the words of each call -/
def wix (is : List Nat) (L : List Cond) : Bool := match is, L with
  | [], [] => true
  | i :: is, w :: L => decide (lw_tbl[i]? = some w) && goodWord w && wix is L
  | _, _ => false
theorem wix_of : ∀ (is : List Nat) (L : List Cond), wix is L = true → ∀ w ∈ L, w ∈ wsG
  | [], [], _, w, hw => nomatch hw
  | i :: is, v :: L, h, w, hw => by
    simp only [wix, Bool.and_eq_true, decide_eq_true_eq] at h
    rcases List.mem_cons.mp hw with rfl | hw
    · exact wsG_in i h.1.1 h.1.2
    · exact wix_of is L h.2 w hw
  | [], _ :: _, h, _, _ => by simp [wix] at h
  | _ :: _, [], h, _, hw => nomatch hw
def fchk (own : String) (j : Nat) (e : Nat × Fq) : Bool := match vcl[e.2.1]? with
  | some r => decide (e.2.2.1 < r.2.2) && wix [j] [Cond.fieldLink own e.1 (r.2.1 e.2.2.1).1 (r.2.1 e.2.2.1).2.1 (r.2.1 e.2.2.1).2.2.1] && decide (parseFieldDescriptor (r.2.1 e.2.2.1).2.2.1 = some e.2.2.2.1) && ((r.2.1 e.2.2.1).2.2.2 == e.2.2.2.2)
  | none => false
def ftab (L : List (Nat × Nat × Fq)) : Nat → Option Fq := fun i => (L.find? (fun e => e.2.1 == i)).map (·.2.2)
theorem Fok_of {own : String} {L : List (Nat × Nat × Fq)} (h : L.all (fun e => fchk own e.1 e.2) = true) : Fok own (ftab L) := by
  intro i q hq
  unfold ftab at hq
  cases hf : L.find? (fun e => e.2.1 == i) with
  | none => rw [hf] at hq; cases hq
  | some e =>
    rw [hf] at hq
    have e2 : e.2.2 = q := Option.some.inj hq
    have e1 : e.2.1 = i := by simpa using List.find?_some hf
    have h1 := List.all_eq_true.mp h e (List.mem_of_find?_eq_some hf)
    unfold fchk at h1
    rw [e2, e1] at h1
    split at h1
    · rename_i r hr
      simp only [Bool.and_eq_true, decide_eq_true_eq, beq_iff_eq] at h1
      obtain ⟨⟨⟨a1, a2⟩, a4⟩, a5⟩ := h1
      exact ⟨r, hr, a1, wix_of _ _ a2 _ (by simp), a4, a5⟩
    · cases h1
theorem LkV_of {own : String} {idx : Nat} {i : MI} (is : List Nat) (h : wix is [Cond.methodLink own idx i.1, Cond.instanceMethod i.1, Cond.selects i.1.cls i.1 i.1, Cond.initialized i.1.cls, Cond.code i.1 i.2.1 i.2.2.1 i.2.2.2.1] = true) (h2 : i.1.cls ≠ "java/lang/invoke/MethodHandle" ∧ i.1.cls ≠ "java/lang/invoke/VarHandle" ∧ (parseMethodDescriptor i.1.desc).map (fun d => d.parameters.length) = some i.2.2.2.2 ∧ i.2.2.1 ≤ 16) : LkV own idx i := by
  have k := wix_of _ _ h
  exact ⟨k _ (by simp), k _ (by simp), k _ (by simp), k _ (by simp), k _ (by simp), h2⟩
theorem LkS_of {own : String} {idx : Nat} {i : MI} (is : List Nat) (h : wix is [Cond.methodLink own idx i.1, Cond.static i.1, Cond.initialized i.1.cls, Cond.code i.1 i.2.1 i.2.2.1 i.2.2.2.1] = true) (h2 : i.1.cls ≠ "java/lang/invoke/MethodHandle" ∧ i.1.cls ≠ "java/lang/invoke/VarHandle" ∧ (parseMethodDescriptor i.1.desc).map (fun d => d.parameters.length) = some i.2.2.2.2 ∧ i.2.2.1 ≤ 16) : LkS own idx i := by
  have k := wix_of _ _ h
  exact ⟨k _ (by simp), k _ (by simp), k _ (by simp), k _ (by simp), h2⟩
theorem LkI_of {own : String} {idx : Nat} {i : MI} (is : List Nat) (h : wix is [Cond.methodLink own idx i.1, Cond.instanceMethod i.1, Cond.initialized i.1.cls, Cond.code i.1 i.2.1 i.2.2.1 none] = true) (h2 : i.2.2.2.1 = none ∧ i.1.name = "<init>" ∧ i.1.cls ≠ "java/lang/invoke/MethodHandle" ∧ i.1.cls ≠ "java/lang/invoke/VarHandle" ∧ (parseMethodDescriptor i.1.desc).map (fun d => d.parameters.length) = some i.2.2.2.2 ∧ i.2.2.1 ≤ 16) : LkI own idx i := by
  have k := wix_of _ _ h
  exact ⟨k _ (by simp), k _ (by simp), k _ (by simp), k _ (by simp), h2⟩
def flX0 : List (Nat × Nat × Fq) := [(427, 9, 0, 4, .int, false), (417, 15, 0, 0, .object "UnionClock$Worker", true), (420, 19, 0, 1, .object "UnionClock$Shift", true), (422, 23, 0, 2, .object "UnionClock$Rule", true), (307, 27, 4, 7, .object "UnionClock$Claim", false), (425, 33, 0, 3, .object "UnionClock$Claim", true), (305, 36, 4, 6, .object "UnionClock$Worker", false), (110, 49, 5, 3, .int, false), (591, 54, 2, 4, .int, true)]
def FX0 : Nat → Option Fq := ftab flX0
set_option maxRecDepth 100000 in
theorem FokX0 : Fok RX0 FX0 := Fok_of (by decide +kernel)
theorem fX0_9 : FX0 9 = some (0, 4, .int, false) := rfl
theorem fX0_15 : FX0 15 = some (0, 0, .object "UnionClock$Worker", true) := rfl
theorem fX0_19 : FX0 19 = some (0, 1, .object "UnionClock$Shift", true) := rfl
theorem fX0_23 : FX0 23 = some (0, 2, .object "UnionClock$Rule", true) := rfl
theorem fX0_27 : FX0 27 = some (4, 7, .object "UnionClock$Claim", false) := rfl
theorem fX0_33 : FX0 33 = some (0, 3, .object "UnionClock$Claim", true) := rfl
theorem fX0_36 : FX0 36 = some (4, 6, .object "UnionClock$Worker", false) := rfl
theorem fX0_49 : FX0 49 = some (5, 3, .int, false) := rfl
theorem fX0_54 : FX0 54 = some (2, 4, .int, true) := rfl
abbrev iX0_init : MI := (yX0_init, cX0_init, 4, none, 3)
set_option maxRecDepth 100000 in
theorem mX0_init : Cond.code iX0_init.1 iX0_init.2.1 iX0_init.2.2.1 iX0_init.2.2.2.1 ∈ wsG := wsG_in 415 (by decide +kernel) (by decide +kernel)
abbrev iX0_isFounded : MI := (yX0_isFounded, cX0_isFounded, 1, (some .boolean), 0)
set_option maxRecDepth 100000 in
theorem mX0_isFounded : Cond.code iX0_isFounded.1 iX0_isFounded.2.1 iX0_isFounded.2.2.1 iX0_isFounded.2.2.2.1 ∈ wsG := wsG_in 361 (by decide +kernel) (by decide +kernel)
abbrev iX0_lapse : MI := (yX0_lapse, cX0_lapse, 1, (some .boolean), 0)
set_option maxRecDepth 100000 in
theorem mX0_lapse : Cond.code iX0_lapse.1 iX0_lapse.2.1 iX0_lapse.2.2.1 iX0_lapse.2.2.2.1 ∈ wsG := wsG_in 398 (by decide +kernel) (by decide +kernel)
abbrev iX0_revive : MI := (yX0_revive, cX0_revive, 1, none, 0)
set_option maxRecDepth 100000 in
theorem mX0_revive : Cond.code iX0_revive.1 iX0_revive.2.1 iX0_revive.2.2.1 iX0_revive.2.2.2.1 ∈ wsG := wsG_in 446 (by decide +kernel) (by decide +kernel)
abbrev iX0_worthNow : MI := (yX0_worthNow, cX0_worthNow, 1, (some .int), 0)
set_option maxRecDepth 100000 in
theorem mX0_worthNow : Cond.code iX0_worthNow.1 iX0_worthNow.2.1 iX0_worthNow.2.2.1 iX0_worthNow.2.2.2.1 ∈ wsG := wsG_in 750 (by decide +kernel) (by decide +kernel)
def flX1 : List (Nat × Nat × Fq) := [(681, 7, 1, 3, .boolean, false), (675, 13, 1, 0, .object "UnionClock$Worker", true), (677, 17, 1, 1, .object "UnionClock$Shift", true), (679, 21, 1, 2, .object "UnionClock$Shift", true)]
def FX1 : Nat → Option Fq := ftab flX1
set_option maxRecDepth 100000 in
theorem FokX1 : Fok RX1 FX1 := Fok_of (by decide +kernel)
theorem fX1_7 : FX1 7 = some (1, 3, .boolean, false) := rfl
theorem fX1_13 : FX1 13 = some (1, 0, .object "UnionClock$Worker", true) := rfl
theorem fX1_17 : FX1 17 = some (1, 1, .object "UnionClock$Shift", true) := rfl
theorem fX1_21 : FX1 21 = some (1, 2, .object "UnionClock$Shift", true) := rfl
abbrev iX1_init : MI := (yX1_init, cX1_init, 4, none, 3)
set_option maxRecDepth 100000 in
theorem mX1_init : Cond.code iX1_init.1 iX1_init.2.1 iX1_init.2.2.1 iX1_init.2.2.2.1 ∈ wsG := wsG_in 673 (by decide +kernel) (by decide +kernel)
def flX2 : List (Nat × Nat × Fq) := [(585, 9, 2, 0, .int, true), (69, 15, 3, 4, .int, false), (587, 20, 2, 1, .int, true), (71, 21, 3, 5, .int, false), (588, 24, 2, 2, .int, true), (73, 25, 3, 6, .int, false), (589, 28, 2, 3, .int, true), (75, 29, 3, 7, .int, false), (590, 32, 2, 4, .int, true), (303, 33, 4, 6, .object "UnionClock$Worker", false), (592, 39, 2, 5, .boolean, false), (291, 43, 4, 1, .int, true)]
def FX2 : Nat → Option Fq := ftab flX2
set_option maxRecDepth 100000 in
theorem FokX2 : Fok RX2 FX2 := Fok_of (by decide +kernel)
theorem fX2_9 : FX2 9 = some (2, 0, .int, true) := rfl
theorem fX2_15 : FX2 15 = some (3, 4, .int, false) := rfl
theorem fX2_20 : FX2 20 = some (2, 1, .int, true) := rfl
theorem fX2_21 : FX2 21 = some (3, 5, .int, false) := rfl
theorem fX2_24 : FX2 24 = some (2, 2, .int, true) := rfl
theorem fX2_25 : FX2 25 = some (3, 6, .int, false) := rfl
theorem fX2_28 : FX2 28 = some (2, 3, .int, true) := rfl
theorem fX2_29 : FX2 29 = some (3, 7, .int, false) := rfl
theorem fX2_32 : FX2 32 = some (2, 4, .int, true) := rfl
theorem fX2_33 : FX2 33 = some (4, 6, .object "UnionClock$Worker", false) := rfl
theorem fX2_39 : FX2 39 = some (2, 5, .boolean, false) := rfl
theorem fX2_43 : FX2 43 = some (4, 1, .int, true) := rfl
abbrev iX2_init : MI := (yX2_init, cX2_init, 3, none, 2)
set_option maxRecDepth 100000 in
theorem mX2_init : Cond.code iX2_init.1 iX2_init.2.1 iX2_init.2.2.1 iX2_init.2.2.2.1 ∈ wsG := wsG_in 583 (by decide +kernel) (by decide +kernel)
abbrev iX2_isBrokenBy : MI := (yX2_isBrokenBy, cX2_isBrokenBy, 3, (some .boolean), 1)
set_option maxRecDepth 100000 in
theorem mX2_isBrokenBy : Cond.code iX2_isBrokenBy.1 iX2_isBrokenBy.2.1 iX2_isBrokenBy.2.2.1 iX2_isBrokenBy.2.2.2.1 ∈ wsG := wsG_in 365 (by decide +kernel) (by decide +kernel)
def flX3 : List (Nat × Nat × Fq) := [(64, 9, 3, 0, .array .char, true), (65, 19, 3, 1, .int, false), (68, 23, 3, 3, .int, false), (70, 33, 3, 4, .int, false), (67, 36, 3, 2, .int, false), (72, 43, 3, 5, .int, false), (74, 46, 3, 6, .int, false), (76, 57, 3, 7, .int, false)]
def FX3 : Nat → Option Fq := ftab flX3
set_option maxRecDepth 100000 in
theorem FokX3 : Fok RX3 FX3 := Fok_of (by decide +kernel)
theorem fX3_9 : FX3 9 = some (3, 0, .array .char, true) := rfl
theorem fX3_19 : FX3 19 = some (3, 1, .int, false) := rfl
theorem fX3_23 : FX3 23 = some (3, 3, .int, false) := rfl
theorem fX3_33 : FX3 33 = some (3, 4, .int, false) := rfl
theorem fX3_36 : FX3 36 = some (3, 2, .int, false) := rfl
theorem fX3_43 : FX3 43 = some (3, 5, .int, false) := rfl
theorem fX3_46 : FX3 46 = some (3, 6, .int, false) := rfl
theorem fX3_57 : FX3 57 = some (3, 7, .int, false) := rfl
abbrev iX3_init : MI := (yX3_init, cX3_init, 1, none, 0)
set_option maxRecDepth 100000 in
theorem mX3_init : Cond.code iX3_init.1 iX3_init.2.1 iX3_init.2.2.1 iX3_init.2.2.2.1 ∈ wsG := wsG_in 62 (by decide +kernel) (by decide +kernel)
abbrev iX3_append : MI := (yX3_append, cX3_append, 2, none, 1)
set_option maxRecDepth 100000 in
theorem mX3_append : Cond.code iX3_append.1 iX3_append.2.1 iX3_append.2.2.1 iX3_append.2.2.2.1 ∈ wsG := wsG_in 488 (by decide +kernel) (by decide +kernel)
abbrev iX3_clear : MI := (yX3_clear, cX3_clear, 1, none, 0)
set_option maxRecDepth 100000 in
theorem mX3_clear : Cond.code iX3_clear.1 iX3_clear.2.1 iX3_clear.2.2.1 iX3_clear.2.2.2.1 ∈ wsG := wsG_in 610 (by decide +kernel) (by decide +kernel)
abbrev iX3_isAllowed : MI := (yX3_isAllowed, cX3_isAllowed, 1, (some .boolean), 1)
set_option maxRecDepth 100000 in
theorem mX3_isAllowed : Cond.code iX3_isAllowed.1 iX3_isAllowed.2.1 iX3_isAllowed.2.2.1 iX3_isAllowed.2.2.2.1 ∈ wsG := wsG_in 475 (by decide +kernel) (by decide +kernel)
abbrev iX3_isDigit : MI := (yX3_isDigit, cX3_isDigit, 1, (some .boolean), 1)
set_option maxRecDepth 100000 in
theorem mX3_isDigit : Cond.code iX3_isDigit.1 iX3_isDigit.2.1 iX3_isDigit.2.2.1 iX3_isDigit.2.2.2.1 ∈ wsG := wsG_in 478 (by decide +kernel) (by decide +kernel)
abbrev iX3_isFull : MI := (yX3_isFull, cX3_isFull, 1, (some .boolean), 0)
set_option maxRecDepth 100000 in
theorem mX3_isFull : Cond.code iX3_isFull.1 iX3_isFull.2.1 iX3_isFull.2.2.1 iX3_isFull.2.2.2.1 ∈ wsG := wsG_in 483 (by decide +kernel) (by decide +kernel)
abbrev iX3_isWord : MI := (yX3_isWord, cX3_isWord, 3, (some .boolean), 1)
set_option maxRecDepth 100000 in
theorem mX3_isWord : Cond.code iX3_isWord.1 iX3_isWord.2.1 iX3_isWord.2.2.1 iX3_isWord.2.2.2.1 ∈ wsG := wsG_in 513 (by decide +kernel) (by decide +kernel)
abbrev iX3_kindOfWord : MI := (yX3_kindOfWord, cX3_kindOfWord, 1, (some .int), 0)
set_option maxRecDepth 100000 in
theorem mX3_kindOfWord : Cond.code iX3_kindOfWord.1 iX3_kindOfWord.2.1 iX3_kindOfWord.2.2.1 iX3_kindOfWord.2.2.2.1 ∈ wsG := wsG_in 508 (by decide +kernel) (by decide +kernel)
abbrev iX3_nextWord : MI := (yX3_nextWord, cX3_nextWord, 1, none, 0)
set_option maxRecDepth 100000 in
theorem mX3_nextWord : Cond.code iX3_nextWord.1 iX3_nextWord.2.1 iX3_nextWord.2.2.1 iX3_nextWord.2.2.2.1 ∈ wsG := wsG_in 500 (by decide +kernel) (by decide +kernel)
abbrev iX3_numberOfWord : MI := (yX3_numberOfWord, cX3_numberOfWord, 6, (some .int), 1)
set_option maxRecDepth 100000 in
theorem mX3_numberOfWord : Cond.code iX3_numberOfWord.1 iX3_numberOfWord.2.1 iX3_numberOfWord.2.2.1 iX3_numberOfWord.2.2.2.1 ∈ wsG := wsG_in 568 (by decide +kernel) (by decide +kernel)
abbrev iX3_parse : MI := (yX3_parse, cX3_parse, 1, (some .int), 0)
set_option maxRecDepth 100000 in
theorem mX3_parse : Cond.code iX3_parse.1 iX3_parse.2.1 iX3_parse.2.2.1 iX3_parse.2.2.2.1 ∈ wsG := wsG_in 496 (by decide +kernel) (by decide +kernel)
abbrev iX3_signAt : MI := (yX3_signAt, cX3_signAt, 2, (some .char), 1)
set_option maxRecDepth 100000 in
theorem mX3_signAt : Cond.code iX3_signAt.1 iX3_signAt.2.1 iX3_signAt.2.2.1 iX3_signAt.2.2.2.1 ∈ wsG := wsG_in 504 (by decide +kernel) (by decide +kernel)
def flX4 : List (Nat × Nat × Fq) := [(288, 9, 4, 0, .int, true), (290, 15, 4, 1, .int, true), (293, 18, 4, 2, .int, true), (295, 21, 4, 3, .int, true), (297, 24, 4, 4, .int, false), (300, 27, 4, 5, .int, false), (304, 30, 4, 6, .object "UnionClock$Worker", false), (102, 34, 5, 0, .int, true), (308, 37, 4, 7, .object "UnionClock$Claim", false), (418, 41, 0, 0, .object "UnionClock$Worker", true), (423, 46, 0, 2, .object "UnionClock$Rule", true), (426, 50, 0, 3, .object "UnionClock$Claim", true)]
def FX4 : Nat → Option Fq := ftab flX4
set_option maxRecDepth 100000 in
theorem FokX4 : Fok RX4 FX4 := Fok_of (by decide +kernel)
theorem fX4_9 : FX4 9 = some (4, 0, .int, true) := rfl
theorem fX4_15 : FX4 15 = some (4, 1, .int, true) := rfl
theorem fX4_18 : FX4 18 = some (4, 2, .int, true) := rfl
theorem fX4_21 : FX4 21 = some (4, 3, .int, true) := rfl
theorem fX4_24 : FX4 24 = some (4, 4, .int, false) := rfl
theorem fX4_27 : FX4 27 = some (4, 5, .int, false) := rfl
theorem fX4_30 : FX4 30 = some (4, 6, .object "UnionClock$Worker", false) := rfl
theorem fX4_34 : FX4 34 = some (5, 0, .int, true) := rfl
theorem fX4_37 : FX4 37 = some (4, 7, .object "UnionClock$Claim", false) := rfl
theorem fX4_41 : FX4 41 = some (0, 0, .object "UnionClock$Worker", true) := rfl
theorem fX4_46 : FX4 46 = some (0, 2, .object "UnionClock$Rule", true) := rfl
theorem fX4_50 : FX4 50 = some (0, 3, .object "UnionClock$Claim", true) := rfl
abbrev iX4_init : MI := (yX4_init, cX4_init, 5, none, 4)
set_option maxRecDepth 100000 in
theorem mX4_init : Cond.code iX4_init.1 iX4_init.2.1 iX4_init.2.2.1 iX4_init.2.2.2.1 ∈ wsG := wsG_in 286 (by decide +kernel) (by decide +kernel)
abbrev iX4_claimOf : MI := (yX4_claimOf, cX4_claimOf, 4, (some (.object "UnionClock$Claim")), 2)
set_option maxRecDepth 100000 in
theorem mX4_claimOf : Cond.code iX4_claimOf.1 iX4_claimOf.2.1 iX4_claimOf.2.2.1 iX4_claimOf.2.2.2.1 ∈ wsG := wsG_in 407 (by decide +kernel) (by decide +kernel)
abbrev iX4_day : MI := (yX4_day, cX4_day, 1, (some .int), 0)
set_option maxRecDepth 100000 in
theorem mX4_day : Cond.code iX4_day.1 iX4_day.2.1 iX4_day.2.2.1 iX4_day.2.2.2.1 ∈ wsG := wsG_in 393 (by decide +kernel) (by decide +kernel)
abbrev iX4_holderNumber : MI := (yX4_holderNumber, cX4_holderNumber, 1, (some .int), 0)
set_option maxRecDepth 100000 in
theorem mX4_holderNumber : Cond.code iX4_holderNumber.1 iX4_holderNumber.2.1 iX4_holderNumber.2.2.1 iX4_holderNumber.2.2.2.1 ∈ wsG := wsG_in 655 (by decide +kernel) (by decide +kernel)
abbrev iX4_hours : MI := (yX4_hours, cX4_hours, 1, (some .int), 0)
set_option maxRecDepth 100000 in
theorem mX4_hours : Cond.code iX4_hours.1 iX4_hours.2.1 iX4_hours.2.2.1 iX4_hours.2.2.2.1 ∈ wsG := wsG_in 385 (by decide +kernel) (by decide +kernel)
abbrev iX4_isAheadOf : MI := (yX4_isAheadOf, cX4_isAheadOf, 2, (some .boolean), 1)
set_option maxRecDepth 100000 in
theorem mX4_isAheadOf : Cond.code iX4_isAheadOf.1 iX4_isAheadOf.2.1 iX4_isAheadOf.2.2.1 iX4_isAheadOf.2.2.2.1 ∈ wsG := wsG_in 353 (by decide +kernel) (by decide +kernel)
abbrev iX4_overlaps : MI := (yX4_overlaps, cX4_overlaps, 2, (some .boolean), 1)
set_option maxRecDepth 100000 in
theorem mX4_overlaps : Cond.code iX4_overlaps.1 iX4_overlaps.2.1 iX4_overlaps.2.2.1 iX4_overlaps.2.2.2.1 ∈ wsG := wsG_in 650 (by decide +kernel) (by decide +kernel)
abbrev iX4_plannedHours : MI := (yX4_plannedHours, cX4_plannedHours, 1, (some .int), 0)
set_option maxRecDepth 100000 in
theorem mX4_plannedHours : Cond.code iX4_plannedHours.1 iX4_plannedHours.2.1 iX4_plannedHours.2.2.1 iX4_plannedHours.2.2.2.1 ∈ wsG := wsG_in 451 (by decide +kernel) (by decide +kernel)
abbrev iX4_week : MI := (yX4_week, cX4_week, 1, (some .int), 0)
set_option maxRecDepth 100000 in
theorem mX4_week : Cond.code iX4_week.1 iX4_week.2.1 iX4_week.2.2.1 iX4_week.2.2.2.1 ∈ wsG := wsG_in 381 (by decide +kernel) (by decide +kernel)
def flX5 : List (Nat × Nat × Fq) := [(104, 11, 5, 1, .array (.object "UnionClock$Shift"), true), (108, 17, 5, 3, .int, false), (101, 21, 5, 0, .int, true), (107, 32, 5, 2, .int, false), (292, 35, 4, 1, .int, true), (299, 45, 4, 4, .int, false), (302, 48, 4, 5, .int, false)]
def FX5 : Nat → Option Fq := ftab flX5
set_option maxRecDepth 100000 in
theorem FokX5 : Fok RX5 FX5 := Fok_of (by decide +kernel)
theorem fX5_11 : FX5 11 = some (5, 1, .array (.object "UnionClock$Shift"), true) := rfl
theorem fX5_17 : FX5 17 = some (5, 3, .int, false) := rfl
theorem fX5_21 : FX5 21 = some (5, 0, .int, true) := rfl
theorem fX5_32 : FX5 32 = some (5, 2, .int, false) := rfl
theorem fX5_35 : FX5 35 = some (4, 1, .int, true) := rfl
theorem fX5_45 : FX5 45 = some (4, 4, .int, false) := rfl
theorem fX5_48 : FX5 48 = some (4, 5, .int, false) := rfl
abbrev iX5_init : MI := (yX5_init, cX5_init, 2, none, 1)
set_option maxRecDepth 100000 in
theorem mX5_init : Cond.code iX5_init.1 iX5_init.2.1 iX5_init.2.2.1 iX5_init.2.2.2.1 ∈ wsG := wsG_in 98 (by decide +kernel) (by decide +kernel)
abbrev iX5_add : MI := (yX5_add, cX5_add, 5, none, 1)
set_option maxRecDepth 100000 in
theorem mX5_add : Cond.code iX5_add.1 iX5_add.2.1 iX5_add.2.2.1 iX5_add.2.2.2.1 ∈ wsG := wsG_in 349 (by decide +kernel) (by decide +kernel)
abbrev iX5_canTake : MI := (yX5_canTake, cX5_canTake, 7, (some .boolean), 2)
set_option maxRecDepth 100000 in
theorem mX5_canTake : Cond.code iX5_canTake.1 iX5_canTake.2.1 iX5_canTake.2.2.1 iX5_canTake.2.2.2.1 ∈ wsG := wsG_in 646 (by decide +kernel) (by decide +kernel)
abbrev iX5_daysAhead : MI := (yX5_daysAhead, cX5_daysAhead, 5, (some .int), 1)
set_option maxRecDepth 100000 in
theorem mX5_daysAhead : Cond.code iX5_daysAhead.1 iX5_daysAhead.2.1 iX5_daysAhead.2.2.1 iX5_daysAhead.2.2.2.1 ∈ wsG := wsG_in 389 (by decide +kernel) (by decide +kernel)
abbrev iX5_hoursEndedBy : MI := (yX5_hoursEndedBy, cX5_hoursEndedBy, 7, (some .int), 1)
set_option maxRecDepth 100000 in
theorem mX5_hoursEndedBy : Cond.code iX5_hoursEndedBy.1 iX5_hoursEndedBy.2.1 iX5_hoursEndedBy.2.2.1 iX5_hoursEndedBy.2.2.2.1 ∈ wsG := wsG_in 824 (by decide +kernel) (by decide +kernel)
abbrev iX5_placeOf : MI := (yX5_placeOf, cX5_placeOf, 3, (some .int), 1)
set_option maxRecDepth 100000 in
theorem mX5_placeOf : Cond.code iX5_placeOf.1 iX5_placeOf.2.1 iX5_placeOf.2.2.1 iX5_placeOf.2.2.2.1 ∈ wsG := wsG_in 373 (by decide +kernel) (by decide +kernel)
abbrev iX5_remove : MI := (yX5_remove, cX5_remove, 4, none, 1)
set_option maxRecDepth 100000 in
theorem mX5_remove : Cond.code iX5_remove.1 iX5_remove.2.1 iX5_remove.2.2.1 iX5_remove.2.2.2.1 ∈ wsG := wsG_in 341 (by decide +kernel) (by decide +kernel)
abbrev iX5_restAhead : MI := (yX5_restAhead, cX5_restAhead, 3, (some .int), 1)
set_option maxRecDepth 100000 in
theorem mX5_restAhead : Cond.code iX5_restAhead.1 iX5_restAhead.2.1 iX5_restAhead.2.2.1 iX5_restAhead.2.2.2.1 ∈ wsG := wsG_in 369 (by decide +kernel) (by decide +kernel)
abbrev iX5_shiftAt : MI := (yX5_shiftAt, cX5_shiftAt, 2, (some (.object "UnionClock$Shift")), 1)
set_option maxRecDepth 100000 in
theorem mX5_shiftAt : Cond.code iX5_shiftAt.1 iX5_shiftAt.2.1 iX5_shiftAt.2.2.1 iX5_shiftAt.2.2.2.1 ∈ wsG := wsG_in 345 (by decide +kernel) (by decide +kernel)
abbrev iX5_weekHours : MI := (yX5_weekHours, cX5_weekHours, 5, (some .int), 1)
set_option maxRecDepth 100000 in
theorem mX5_weekHours : Cond.code iX5_weekHours.1 iX5_weekHours.2.1 iX5_weekHours.2.2.1 iX5_weekHours.2.2.2.1 ∈ wsG := wsG_in 377 (by decide +kernel) (by decide +kernel)
def flX6 : List (Nat × Nat × Fq) := [(120, 11, 6, 0, .array (.object "UnionClock$Worker"), true), (121, 17, 6, 1, .array (.object "UnionClock$Shift"), true), (122, 23, 6, 2, .array (.object "UnionClock$Rule"), true), (123, 29, 6, 3, .array (.object "UnionClock$Claim"), true), (124, 35, 6, 4, .array (.object "UnionClock$Offer"), true), (125, 39, 6, 5, .array (.object "UnionClock$Offer"), true), (126, 45, 6, 6, .object "UnionClock$RuleText", true), (131, 59, 6, 11, .int, false), (109, 74, 5, 3, .int, false), (106, 77, 5, 2, .int, false), (127, 82, 6, 7, .int, false), (306, 104, 4, 6, .object "UnionClock$Worker", false), (296, 117, 4, 3, .int, true), (298, 126, 4, 4, .int, false), (301, 129, 4, 5, .int, false), (289, 149, 4, 0, .int, true), (66, 172, 3, 1, .int, false), (128, 183, 6, 8, .int, false), (593, 195, 2, 5, .boolean, false), (105, 207, 5, 1, .array (.object "UnionClock$Shift"), true), (129, 216, 6, 9, .int, false), (428, 223, 0, 4, .int, false), (419, 226, 0, 0, .object "UnionClock$Worker", true), (103, 229, 5, 0, .int, true), (421, 230, 0, 1, .object "UnionClock$Shift", true), (424, 234, 0, 2, .object "UnionClock$Rule", true), (586, 238, 2, 0, .int, true), (429, 244, 0, 5, .int, false), (130, 258, 6, 10, .int, false), (682, 270, 1, 3, .boolean, false), (680, 287, 1, 2, .object "UnionClock$Shift", true), (676, 290, 1, 0, .object "UnionClock$Worker", true), (309, 323, 4, 7, .object "UnionClock$Claim", false), (678, 327, 1, 1, .object "UnionClock$Shift", true), (294, 330, 4, 2, .int, true)]
def FX6 : Nat → Option Fq := ftab flX6
set_option maxRecDepth 100000 in
theorem FokX6 : Fok RX6 FX6 := Fok_of (by decide +kernel)
theorem fX6_11 : FX6 11 = some (6, 0, .array (.object "UnionClock$Worker"), true) := rfl
theorem fX6_17 : FX6 17 = some (6, 1, .array (.object "UnionClock$Shift"), true) := rfl
theorem fX6_23 : FX6 23 = some (6, 2, .array (.object "UnionClock$Rule"), true) := rfl
theorem fX6_29 : FX6 29 = some (6, 3, .array (.object "UnionClock$Claim"), true) := rfl
theorem fX6_35 : FX6 35 = some (6, 4, .array (.object "UnionClock$Offer"), true) := rfl
theorem fX6_39 : FX6 39 = some (6, 5, .array (.object "UnionClock$Offer"), true) := rfl
theorem fX6_45 : FX6 45 = some (6, 6, .object "UnionClock$RuleText", true) := rfl
theorem fX6_59 : FX6 59 = some (6, 11, .int, false) := rfl
theorem fX6_74 : FX6 74 = some (5, 3, .int, false) := rfl
theorem fX6_77 : FX6 77 = some (5, 2, .int, false) := rfl
theorem fX6_82 : FX6 82 = some (6, 7, .int, false) := rfl
theorem fX6_104 : FX6 104 = some (4, 6, .object "UnionClock$Worker", false) := rfl
theorem fX6_117 : FX6 117 = some (4, 3, .int, true) := rfl
theorem fX6_126 : FX6 126 = some (4, 4, .int, false) := rfl
theorem fX6_129 : FX6 129 = some (4, 5, .int, false) := rfl
theorem fX6_149 : FX6 149 = some (4, 0, .int, true) := rfl
theorem fX6_172 : FX6 172 = some (3, 1, .int, false) := rfl
theorem fX6_183 : FX6 183 = some (6, 8, .int, false) := rfl
theorem fX6_195 : FX6 195 = some (2, 5, .boolean, false) := rfl
theorem fX6_207 : FX6 207 = some (5, 1, .array (.object "UnionClock$Shift"), true) := rfl
theorem fX6_216 : FX6 216 = some (6, 9, .int, false) := rfl
theorem fX6_223 : FX6 223 = some (0, 4, .int, false) := rfl
theorem fX6_226 : FX6 226 = some (0, 0, .object "UnionClock$Worker", true) := rfl
theorem fX6_229 : FX6 229 = some (5, 0, .int, true) := rfl
theorem fX6_230 : FX6 230 = some (0, 1, .object "UnionClock$Shift", true) := rfl
theorem fX6_234 : FX6 234 = some (0, 2, .object "UnionClock$Rule", true) := rfl
theorem fX6_238 : FX6 238 = some (2, 0, .int, true) := rfl
theorem fX6_244 : FX6 244 = some (0, 5, .int, false) := rfl
theorem fX6_258 : FX6 258 = some (6, 10, .int, false) := rfl
theorem fX6_270 : FX6 270 = some (1, 3, .boolean, false) := rfl
theorem fX6_287 : FX6 287 = some (1, 2, .object "UnionClock$Shift", true) := rfl
theorem fX6_290 : FX6 290 = some (1, 0, .object "UnionClock$Worker", true) := rfl
theorem fX6_323 : FX6 323 = some (4, 7, .object "UnionClock$Claim", false) := rfl
theorem fX6_327 : FX6 327 = some (1, 1, .object "UnionClock$Shift", true) := rfl
theorem fX6_330 : FX6 330 = some (4, 2, .int, true) := rfl
abbrev iX6_init : MI := (yX6_init, cX6_init, 2, none, 0)
set_option maxRecDepth 100000 in
theorem mX6_init : Cond.code iX6_init.1 iX6_init.2.1 iX6_init.2.2.1 iX6_init.2.2.2.1 ∈ wsG := wsG_in 44 (by decide +kernel) (by decide +kernel)
abbrev iX6_about : MI := (yX6_about, cX6_about, 3, (some .int), 1)
set_option maxRecDepth 100000 in
theorem mX6_about : Cond.code iX6_about.1 iX6_about.2.1 iX6_about.2.2.1 iX6_about.2.2.2.1 ∈ wsG := wsG_in 812 (by decide +kernel) (by decide +kernel)
abbrev iX6_breaches : MI := (yX6_breaches, cX6_breaches, 9, (some .int), 2)
set_option maxRecDepth 100000 in
theorem mX6_breaches : Cond.code iX6_breaches.1 iX6_breaches.2.1 iX6_breaches.2.2.1 iX6_breaches.2.2.2.1 ∈ wsG := wsG_in 710 (by decide +kernel) (by decide +kernel)
abbrev iX6_breaks : MI := (yX6_breaks, cX6_breaks, 3, (some .boolean), 2)
set_option maxRecDepth 100000 in
theorem mX6_breaks : Cond.code iX6_breaks.1 iX6_breaks.2.1 iX6_breaks.2.2.1 iX6_breaks.2.2.2.1 ∈ wsG := wsG_in 701 (by decide +kernel) (by decide +kernel)
abbrev iX6_brokenBy : MI := (yX6_brokenBy, cX6_brokenBy, 7, (some .int), 1)
set_option maxRecDepth 100000 in
theorem mX6_brokenBy : Cond.code iX6_brokenBy.1 iX6_brokenBy.2.1 iX6_brokenBy.2.2.1 iX6_brokenBy.2.2.2.1 ∈ wsG := wsG_in 716 (by decide +kernel) (by decide +kernel)
abbrev iX6_claimFor : MI := (yX6_claimFor, cX6_claimFor, 8, none, 2)
set_option maxRecDepth 100000 in
theorem mX6_claimFor : Cond.code iX6_claimFor.1 iX6_claimFor.2.1 iX6_claimFor.2.2.1 iX6_claimFor.2.2.2.1 ∈ wsG := wsG_in 402 (by decide +kernel) (by decide +kernel)
abbrev iX6_claims : MI := (yX6_claims, cX6_claims, 1, (some .int), 0)
set_option maxRecDepth 100000 in
theorem mX6_claims : Cond.code iX6_claims.1 iX6_claims.2.1 iX6_claims.2.2.1 iX6_claims.2.2.2.1 ∈ wsG := wsG_in 848 (by decide +kernel) (by decide +kernel)
abbrev iX6_drop : MI := (yX6_drop, cX6_drop, 3, (some .int), 1)
set_option maxRecDepth 100000 in
theorem mX6_drop : Cond.code iX6_drop.1 iX6_drop.2.1 iX6_drop.2.2.1 iX6_drop.2.2.2.1 ∈ wsG := wsG_in 735 (by decide +kernel) (by decide +kernel)
abbrev iX6_empty : MI := (yX6_empty, cX6_empty, 2, (some .int), 0)
set_option maxRecDepth 100000 in
theorem mX6_empty : Cond.code iX6_empty.1 iX6_empty.2.1 iX6_empty.2.2.1 iX6_empty.2.2.2.1 ∈ wsG := wsG_in 614 (by decide +kernel) (by decide +kernel)
abbrev iX6_gatherRing : MI := (yX6_gatherRing, cX6_gatherRing, 4, (some .int), 1)
set_option maxRecDepth 100000 in
theorem mX6_gatherRing : Cond.code iX6_gatherRing.1 iX6_gatherRing.2.1 iX6_gatherRing.2.2.1 iX6_gatherRing.2.2.2.1 ∈ wsG := wsG_in 778 (by decide +kernel) (by decide +kernel)
abbrev iX6_handOver : MI := (yX6_handOver, cX6_handOver, 7, none, 2)
set_option maxRecDepth 100000 in
theorem mX6_handOver : Cond.code iX6_handOver.1 iX6_handOver.2.1 iX6_handOver.2.2.1 iX6_handOver.2.2.2.1 ∈ wsG := wsG_in 659 (by decide +kernel) (by decide +kernel)
abbrev iX6_hold : MI := (yX6_hold, cX6_hold, 6, (some .int), 2)
set_option maxRecDepth 100000 in
theorem mX6_hold : Cond.code iX6_hold.1 iX6_hold.2.1 iX6_hold.2.2.1 iX6_hold.2.2.2.1 ∈ wsG := wsG_in 642 (by decide +kernel) (by decide +kernel)
abbrev iX6_holder : MI := (yX6_holder, cX6_holder, 2, (some .int), 1)
set_option maxRecDepth 100000 in
theorem mX6_holder : Cond.code iX6_holder.1 iX6_holder.2.1 iX6_holder.2.2.1 iX6_holder.2.2.2.1 ∈ wsG := wsG_in 799 (by decide +kernel) (by decide +kernel)
abbrev iX6_isBehindNow : MI := (yX6_isBehindNow, cX6_isBehindNow, 2, (some .boolean), 1)
set_option maxRecDepth 100000 in
theorem mX6_isBehindNow : Cond.code iX6_isBehindNow.1 iX6_isBehindNow.2.1 iX6_isBehindNow.2.2.1 iX6_isBehindNow.2.2.2.1 ∈ wsG := wsG_in 667 (by decide +kernel) (by decide +kernel)
abbrev iX6_isInRing : MI := (yX6_isInRing, cX6_isInRing, 6, (some .boolean), 1)
set_option maxRecDepth 100000 in
theorem mX6_isInRing : Cond.code iX6_isInRing.1 iX6_isInRing.2.1 iX6_isInRing.2.2.1 iX6_isInRing.2.2.2.1 ∈ wsG := wsG_in 782 (by decide +kernel) (by decide +kernel)
abbrev iX6_judgeAll : MI := (yX6_judgeAll, cX6_judgeAll, 6, (some .int), 0)
set_option maxRecDepth 100000 in
theorem mX6_judgeAll : Cond.code iX6_judgeAll.1 iX6_judgeAll.2.1 iX6_judgeAll.2.2.1 iX6_judgeAll.2.2.2.1 ∈ wsG := wsG_in 357 (by decide +kernel) (by decide +kernel)
abbrev iX6_lowestGiving : MI := (yX6_lowestGiving, cX6_lowestGiving, 6, (some (.object "UnionClock$Offer")), 1)
set_option maxRecDepth 100000 in
theorem mX6_lowestGiving : Cond.code iX6_lowestGiving.1 iX6_lowestGiving.2.1 iX6_lowestGiving.2.2.1 iX6_lowestGiving.2.2.2.1 ∈ wsG := wsG_in 786 (by decide +kernel) (by decide +kernel)
abbrev iX6_makeClaim : MI := (yX6_makeClaim, cX6_makeClaim, 5, none, 3)
set_option maxRecDepth 100000 in
theorem mX6_makeClaim : Cond.code iX6_makeClaim.1 iX6_makeClaim.2.1 iX6_makeClaim.2.2.1 iX6_makeClaim.2.2.2.1 ∈ wsG := wsG_in 411 (by decide +kernel) (by decide +kernel)
abbrev iX6_offer : MI := (yX6_offer, cX6_offer, 7, (some .int), 2)
set_option maxRecDepth 100000 in
theorem mX6_offer : Cond.code iX6_offer.1 iX6_offer.2.1 iX6_offer.2.2.1 iX6_offer.2.2.2.1 ∈ wsG := wsG_in 663 (by decide +kernel) (by decide +kernel)
abbrev iX6_offers : MI := (yX6_offers, cX6_offers, 1, (some .int), 0)
set_option maxRecDepth 100000 in
theorem mX6_offers : Cond.code iX6_offers.1 iX6_offers.2.1 iX6_offers.2.2.1 iX6_offers.2.2.2.1 ∈ wsG := wsG_in 844 (by decide +kernel) (by decide +kernel)
abbrev iX6_offersThere : MI := (yX6_offersThere, cX6_offersThere, 6, (some .int), 0)
set_option maxRecDepth 100000 in
theorem mX6_offersThere : Cond.code iX6_offersThere.1 iX6_offersThere.2.1 iX6_offersThere.2.2.1 iX6_offersThere.2.2.2.1 ∈ wsG := wsG_in 770 (by decide +kernel) (by decide +kernel)
abbrev iX6_pass : MI := (yX6_pass, cX6_pass, 2, (some .int), 1)
set_option maxRecDepth 100000 in
theorem mX6_pass : Cond.code iX6_pass.1 iX6_pass.2.1 iX6_pass.2.2.1 iX6_pass.2.2.2.1 ∈ wsG := wsG_in 723 (by decide +kernel) (by decide +kernel)
abbrev iX6_pay : MI := (yX6_pay, cX6_pay, 3, (some .int), 1)
set_option maxRecDepth 100000 in
theorem mX6_pay : Cond.code iX6_pay.1 iX6_pay.2.1 iX6_pay.2.2.1 iX6_pay.2.2.2.1 ∈ wsG := wsG_in 740 (by decide +kernel) (by decide +kernel)
abbrev iX6_put : MI := (yX6_put, cX6_put, 2, (some .int), 1)
set_option maxRecDepth 100000 in
theorem mX6_put : Cond.code iX6_put.1 iX6_put.2.1 iX6_put.2.2.1 iX6_put.2.2.2.1 ∈ wsG := wsG_in 472 (by decide +kernel) (by decide +kernel)
abbrev iX6_read : MI := (yX6_read, cX6_read, 2, (some .int), 0)
set_option maxRecDepth 100000 in
theorem mX6_read : Cond.code iX6_read.1 iX6_read.2.1 iX6_read.2.2.1 iX6_read.2.2.2.1 ∈ wsG := wsG_in 577 (by decide +kernel) (by decide +kernel)
abbrev iX6_rest : MI := (yX6_rest, cX6_rest, 3, (some .int), 1)
set_option maxRecDepth 100000 in
theorem mX6_rest : Cond.code iX6_rest.1 iX6_rest.2.1 iX6_rest.2.2.1 iX6_rest.2.2.2.1 ∈ wsG := wsG_in 803 (by decide +kernel) (by decide +kernel)
abbrev iX6_ring : MI := (yX6_ring, cX6_ring, 2, (some .int), 1)
set_option maxRecDepth 100000 in
theorem mX6_ring : Cond.code iX6_ring.1 iX6_ring.2.1 iX6_ring.2.2.1 iX6_ring.2.2.2.1 ∈ wsG := wsG_in 795 (by decide +kernel) (by decide +kernel)
abbrev iX6_ringCanSwap : MI := (yX6_ringCanSwap, cX6_ringCanSwap, 5, (some .boolean), 0)
set_option maxRecDepth 100000 in
theorem mX6_ringCanSwap : Cond.code iX6_ringCanSwap.1 iX6_ringCanSwap.2.1 iX6_ringCanSwap.2.2.1 iX6_ringCanSwap.2.2.2.1 ∈ wsG := wsG_in 790 (by decide +kernel) (by decide +kernel)
abbrev iX6_shift : MI := (yX6_shift, cX6_shift, 5, (some .int), 3)
set_option maxRecDepth 100000 in
theorem mX6_shift : Cond.code iX6_shift.1 iX6_shift.2.1 iX6_shift.2.2.1 iX6_shift.2.2.2.1 ∈ wsG := wsG_in 265 (by decide +kernel) (by decide +kernel)
abbrev iX6_shiftOf : MI := (yX6_shiftOf, cX6_shiftOf, 4, (some .int), 2)
set_option maxRecDepth 100000 in
theorem mX6_shiftOf : Cond.code iX6_shiftOf.1 iX6_shiftOf.2.1 iX6_shiftOf.2.2.1 iX6_shiftOf.2.2.2.1 ∈ wsG := wsG_in 695 (by decide +kernel) (by decide +kernel)
abbrev iX6_stamp : MI := (yX6_stamp, cX6_stamp, 6, (some .int), 3)
set_option maxRecDepth 100000 in
theorem mX6_stamp : Cond.code iX6_stamp.1 iX6_stamp.2.1 iX6_stamp.2.2.1 iX6_stamp.2.2.2.1 ∈ wsG := wsG_in 330 (by decide +kernel) (by decide +kernel)
abbrev iX6_state : MI := (yX6_state, cX6_state, 2, (some .int), 1)
set_option maxRecDepth 100000 in
theorem mX6_state : Cond.code iX6_state.1 iX6_state.2.1 iX6_state.2.2.1 iX6_state.2.2.2.1 ∈ wsG := wsG_in 808 (by decide +kernel) (by decide +kernel)
abbrev iX6_swap : MI := (yX6_swap, cX6_swap, 7, (some .int), 1)
set_option maxRecDepth 100000 in
theorem mX6_swap : Cond.code iX6_swap.1 iX6_swap.2.1 iX6_swap.2.2.1 iX6_swap.2.2.2.1 ∈ wsG := wsG_in 774 (by decide +kernel) (by decide +kernel)
abbrev iX6_takeBack : MI := (yX6_takeBack, cX6_takeBack, 4, (some .int), 1)
set_option maxRecDepth 100000 in
theorem mX6_takeBack : Cond.code iX6_takeBack.1 iX6_takeBack.2.1 iX6_takeBack.2.2.1 iX6_takeBack.2.2.2.1 ∈ wsG := wsG_in 755 (by decide +kernel) (by decide +kernel)
abbrev iX6_theClaim : MI := (yX6_theClaim, cX6_theClaim, 3, (some (.object "UnionClock$Claim")), 1)
set_option maxRecDepth 100000 in
theorem mX6_theClaim : Cond.code iX6_theClaim.1 iX6_theClaim.2.1 iX6_theClaim.2.2.1 iX6_theClaim.2.2.2.1 ∈ wsG := wsG_in 744 (by decide +kernel) (by decide +kernel)
abbrev iX6_theOffer : MI := (yX6_theOffer, cX6_theOffer, 3, (some (.object "UnionClock$Offer")), 1)
set_option maxRecDepth 100000 in
theorem mX6_theOffer : Cond.code iX6_theOffer.1 iX6_theOffer.2.1 iX6_theOffer.2.2.1 iX6_theOffer.2.2.2.1 ∈ wsG := wsG_in 764 (by decide +kernel) (by decide +kernel)
abbrev iX6_theRule : MI := (yX6_theRule, cX6_theRule, 3, (some (.object "UnionClock$Rule")), 1)
set_option maxRecDepth 100000 in
theorem mX6_theRule : Cond.code iX6_theRule.1 iX6_theRule.2.1 iX6_theRule.2.2.1 iX6_theRule.2.2.2.1 ∈ wsG := wsG_in 705 (by decide +kernel) (by decide +kernel)
abbrev iX6_theShift : MI := (yX6_theShift, cX6_theShift, 3, (some (.object "UnionClock$Shift")), 1)
set_option maxRecDepth 100000 in
theorem mX6_theShift : Cond.code iX6_theShift.1 iX6_theShift.2.1 iX6_theShift.2.2.1 iX6_theShift.2.2.2.1 ∈ wsG := wsG_in 334 (by decide +kernel) (by decide +kernel)
abbrev iX6_theWorker : MI := (yX6_theWorker, cX6_theWorker, 3, (some (.object "UnionClock$Worker")), 1)
set_option maxRecDepth 100000 in
theorem mX6_theWorker : Cond.code iX6_theWorker.1 iX6_theWorker.2.1 iX6_theWorker.2.2.1 iX6_theWorker.2.2.2.1 ∈ wsG := wsG_in 177 (by decide +kernel) (by decide +kernel)
abbrev iX6_wages : MI := (yX6_wages, cX6_wages, 8, (some .int), 1)
set_option maxRecDepth 100000 in
theorem mX6_wages : Cond.code iX6_wages.1 iX6_wages.2.1 iX6_wages.2.2.1 iX6_wages.2.2.2.1 ∈ wsG := wsG_in 820 (by decide +kernel) (by decide +kernel)
abbrev iX6_withdraw : MI := (yX6_withdraw, cX6_withdraw, 3, (some .int), 1)
set_option maxRecDepth 100000 in
theorem mX6_withdraw : Cond.code iX6_withdraw.1 iX6_withdraw.2.1 iX6_withdraw.2.2.1 iX6_withdraw.2.2.2.1 ∈ wsG := wsG_in 760 (by decide +kernel) (by decide +kernel)
abbrev iX6_worker : MI := (yX6_worker, cX6_worker, 6, (some .int), 3)
set_option maxRecDepth 100000 in
theorem mX6_worker : Cond.code iX6_worker.1 iX6_worker.2.1 iX6_worker.2.2.1 iX6_worker.2.2.2.1 ∈ wsG := wsG_in 173 (by decide +kernel) (by decide +kernel)
abbrev iX6_worth : MI := (yX6_worth, cX6_worth, 2, (some .int), 1)
set_option maxRecDepth 100000 in
theorem mX6_worth : Cond.code iX6_worth.1 iX6_worth.2.1 iX6_worth.2.2.1 iX6_worth.2.2.2.1 ∈ wsG := wsG_in 816 (by decide +kernel) (by decide +kernel)
abbrev iX6_wrongAt : MI := (yX6_wrongAt, cX6_wrongAt, 1, (some .int), 0)
set_option maxRecDepth 100000 in
theorem mX6_wrongAt : Cond.code iX6_wrongAt.1 iX6_wrongAt.2.1 iX6_wrongAt.2.2.1 iX6_wrongAt.2.2.2.1 ∈ wsG := wsG_in 492 (by decide +kernel) (by decide +kernel)
abbrev iJ0_charAt_5068e : MI := (yJ0_charAt_5068e, cJ0_charAt_5068e, 2, (some .char), 1)
set_option maxRecDepth 100000 in
theorem mJ0_charAt_5068e : Cond.code iJ0_charAt_5068e.1 iJ0_charAt_5068e.2.1 iJ0_charAt_5068e.2.2.1 iJ0_charAt_5068e.2.2.2.1 ∈ wsG := wsG_in 527 (by decide +kernel) (by decide +kernel)
abbrev iJ0_checkIndex_df160 : MI := (yJ0_checkIndex_df160, cJ0_checkIndex_df160, 2, none, 2)
set_option maxRecDepth 100000 in
theorem mJ0_checkIndex_df160 : Cond.code iJ0_checkIndex_df160.1 iJ0_checkIndex_df160.2.1 iJ0_checkIndex_df160.2.2.1 iJ0_checkIndex_df160.2.2.2.1 ∈ wsG := wsG_in 537 (by decide +kernel) (by decide +kernel)
abbrev iJ0_coder_7d493 : MI := (yJ0_coder_7d493, cJ0_coder_7d493, 1, (some .byte), 0)
set_option maxRecDepth 100000 in
theorem mJ0_coder_7d493 : Cond.code iJ0_coder_7d493.1 iJ0_coder_7d493.2.1 iJ0_coder_7d493.2.2.1 iJ0_coder_7d493.2.2.2.1 ∈ wsG := wsG_in 521 (by decide +kernel) (by decide +kernel)
abbrev iJ0_isLatin1_aae02 : MI := (yJ0_isLatin1_aae02, cJ0_isLatin1_aae02, 1, (some .boolean), 0)
set_option maxRecDepth 100000 in
theorem mJ0_isLatin1_aae02 : Cond.code iJ0_isLatin1_aae02.1 iJ0_isLatin1_aae02.2.1 iJ0_isLatin1_aae02.2.2.1 iJ0_isLatin1_aae02.2.2.2.1 ∈ wsG := wsG_in 531 (by decide +kernel) (by decide +kernel)
abbrev iJ0_length_8abf5 : MI := (yJ0_length_8abf5, cJ0_length_8abf5, 1, (some .int), 0)
set_option maxRecDepth 100000 in
theorem mJ0_length_8abf5 : Cond.code iJ0_length_8abf5.1 iJ0_length_8abf5.2.1 iJ0_length_8abf5.2.2.1 iJ0_length_8abf5.2.2.2.1 ∈ wsG := wsG_in 517 (by decide +kernel) (by decide +kernel)
abbrev iJ1_charAt_3b067 : MI := (yJ1_charAt_3b067, cJ1_charAt_3b067, 2, (some .char), 2)
set_option maxRecDepth 100000 in
theorem mJ1_charAt_3b067 : Cond.code iJ1_charAt_3b067.1 iJ1_charAt_3b067.2.1 iJ1_charAt_3b067.2.2.1 iJ1_charAt_3b067.2.2.2.1 ∈ wsG := wsG_in 534 (by decide +kernel) (by decide +kernel)
abbrev iJ2_charAt_3b067 : MI := (yJ2_charAt_3b067, cJ2_charAt_3b067, 2, (some .char), 2)
set_option maxRecDepth 100000 in
theorem mJ2_charAt_3b067 : Cond.code iJ2_charAt_3b067.1 iJ2_charAt_3b067.2.1 iJ2_charAt_3b067.2.2.1 iJ2_charAt_3b067.2.2.2.1 ∈ wsG := wsG_in 545 (by decide +kernel) (by decide +kernel)
abbrev iJ2_checkIndex_2214a : MI := (yJ2_checkIndex_2214a, cJ2_checkIndex_2214a, 2, none, 2)
set_option maxRecDepth 100000 in
theorem mJ2_checkIndex_2214a : Cond.code iJ2_checkIndex_2214a.1 iJ2_checkIndex_2214a.2.1 iJ2_checkIndex_2214a.2.2.1 iJ2_checkIndex_2214a.2.2.2.1 ∈ wsG := wsG_in 548 (by decide +kernel) (by decide +kernel)
abbrev iJ2_getChar_3b067 : MI := (yJ2_getChar_3b067, cJ2_getChar_3b067, 2, (some .char), 2)
set_option maxRecDepth 100000 in
theorem mJ2_getChar_3b067 : Cond.code iJ2_getChar_3b067.1 iJ2_getChar_3b067.2.1 iJ2_getChar_3b067.2.2.1 iJ2_getChar_3b067.2.2.2.1 ∈ wsG := wsG_in 555 (by decide +kernel) (by decide +kernel)
abbrev iJ2_length_9d52b : MI := (yJ2_length_9d52b, cJ2_length_9d52b, 1, (some .int), 1)
set_option maxRecDepth 100000 in
theorem mJ2_length_9d52b : Cond.code iJ2_length_9d52b.1 iJ2_length_9d52b.2.1 iJ2_length_9d52b.2.2.1 iJ2_length_9d52b.2.2.2.1 ∈ wsG := wsG_in 551 (by decide +kernel) (by decide +kernel)
abbrev iJ3_checkIndex_8e157 : MI := (yJ3_checkIndex_8e157, cJ3_checkIndex_8e157, 3, (some .int), 3)
set_option maxRecDepth 100000 in
theorem mJ3_checkIndex_8e157 : Cond.code iJ3_checkIndex_8e157.1 iJ3_checkIndex_8e157.2.1 iJ3_checkIndex_8e157.2.2.1 iJ3_checkIndex_8e157.2.2.2.1 ∈ wsG := wsG_in 542 (by decide +kernel) (by decide +kernel)
set_option maxRecDepth 100000 in
theorem kX0_39 : LkV RX0 39 iX2_isBrokenBy := LkV_of [362, 363, 364, 39, 365] (by decide +kernel) (by decide +kernel)
set_option maxRecDepth 100000 in
theorem kX0_45 : LkV RX0 45 iX4_hours := LkV_of [751, 383, 384, 32, 385] (by decide +kernel) (by decide +kernel)
set_option maxRecDepth 100000 in
theorem kX2_44 : LkV RX2 44 iX5_restAhead := LkV_of [366, 367, 368, 25, 369] (by decide +kernel) (by decide +kernel)
set_option maxRecDepth 100000 in
theorem kX2_50 : LkV RX2 50 iX5_weekHours := LkV_of [374, 375, 376, 25, 377] (by decide +kernel) (by decide +kernel)
set_option maxRecDepth 100000 in
theorem kX2_53 : LkV RX2 53 iX5_daysAhead := LkV_of [386, 387, 388, 25, 389] (by decide +kernel) (by decide +kernel)
set_option maxRecDepth 100000 in
theorem kX2_56 : LkV RX2 56 iX4_hours := LkV_of [394, 383, 384, 32, 385] (by decide +kernel) (by decide +kernel)
set_option maxRecDepth 100000 in
theorem kX3_15 : LkS RX3 15 iX3_isDigit := LkS_of [476, 477, 24, 478] (by decide +kernel) (by decide +kernel)
set_option maxRecDepth 100000 in
theorem kX3_26 : LkV RX3 26 iX3_nextWord := LkV_of [497, 499, 6, 24, 500] (by decide +kernel) (by decide +kernel)
set_option maxRecDepth 100000 in
theorem kX3_29 : LkV RX3 29 iX3_kindOfWord := LkV_of [505, 507, 8, 24, 508] (by decide +kernel) (by decide +kernel)
set_option maxRecDepth 100000 in
theorem kX3_39 : LkV RX3 39 iX3_numberOfWord := LkV_of [565, 567, 10, 24, 568] (by decide +kernel) (by decide +kernel)
set_option maxRecDepth 100000 in
theorem kX3_51 : LkV RX3 51 iX3_isWord := LkV_of [510, 512, 9, 24, 513] (by decide +kernel) (by decide +kernel)
set_option maxRecDepth 100000 in
theorem kX3_60 : LkV RX3 60 iX3_signAt := LkV_of [501, 503, 7, 24, 504] (by decide +kernel) (by decide +kernel)
set_option maxRecDepth 100000 in
theorem kX3_72 : LkV RX3 72 iJ0_length_8abf5 := LkV_of [514, 515, 516, 35, 517] (by decide +kernel) (by decide +kernel)
set_option maxRecDepth 100000 in
theorem kX3_76 : LkV RX3 76 iJ0_charAt_5068e := LkV_of [524, 525, 526, 35, 527] (by decide +kernel) (by decide +kernel)
set_option maxRecDepth 100000 in
theorem kX5_24 : LkV RX5 24 iX4_isAheadOf := LkV_of [350, 351, 352, 32, 353] (by decide +kernel) (by decide +kernel)
set_option maxRecDepth 100000 in
theorem kX5_28 : LkV RX5 28 iX5_shiftAt := LkV_of [342, 343, 344, 25, 345] (by decide +kernel) (by decide +kernel)
set_option maxRecDepth 100000 in
theorem kX5_38 : LkV RX5 38 iX4_overlaps := LkV_of [647, 648, 649, 32, 650] (by decide +kernel) (by decide +kernel)
set_option maxRecDepth 100000 in
theorem kX5_41 : LkV RX5 41 iX5_placeOf := LkV_of [370, 371, 372, 25, 373] (by decide +kernel) (by decide +kernel)
set_option maxRecDepth 100000 in
theorem kX5_51 : LkV RX5 51 iX4_week := LkV_of [378, 379, 380, 32, 381] (by decide +kernel) (by decide +kernel)
set_option maxRecDepth 100000 in
theorem kX5_55 : LkV RX5 55 iX4_hours := LkV_of [382, 383, 384, 32, 385] (by decide +kernel) (by decide +kernel)
set_option maxRecDepth 100000 in
theorem kX5_58 : LkV RX5 58 iX4_day := LkV_of [390, 391, 392, 32, 393] (by decide +kernel) (by decide +kernel)
set_option maxRecDepth 100000 in
theorem kX6_49 : LkI RX6 49 iX5_init := LkI_of [96, 97, 25, 98] (by decide +kernel) (by decide +kernel)
set_option maxRecDepth 100000 in
theorem kX6_68 : LkV RX6 68 iX6_theWorker := LkV_of [174, 176, 0, 23, 177] (by decide +kernel) (by decide +kernel)
set_option maxRecDepth 100000 in
theorem kX6_87 : LkI RX6 87 iX4_init := LkI_of [284, 285, 32, 286] (by decide +kernel) (by decide +kernel)
set_option maxRecDepth 100000 in
theorem kX6_90 : LkV RX6 90 iX6_theShift := LkV_of [331, 333, 2, 23, 334] (by decide +kernel) (by decide +kernel)
set_option maxRecDepth 100000 in
theorem kX6_94 : LkV RX6 94 iX5_canTake := LkV_of [643, 644, 645, 25, 646] (by decide +kernel) (by decide +kernel)
set_option maxRecDepth 100000 in
theorem kX6_100 : LkV RX6 100 iX4_holderNumber := LkV_of [652, 653, 654, 32, 655] (by decide +kernel) (by decide +kernel)
set_option maxRecDepth 100000 in
theorem kX6_108 : LkV RX6 108 iX6_handOver := LkV_of [656, 658, 11, 23, 659] (by decide +kernel) (by decide +kernel)
set_option maxRecDepth 100000 in
theorem kX6_112 : LkV RX6 112 iX6_judgeAll := LkV_of [354, 356, 3, 23, 357] (by decide +kernel) (by decide +kernel)
set_option maxRecDepth 100000 in
theorem kX6_122 : LkV RX6 122 iX5_remove := LkV_of [338, 339, 340, 25, 341] (by decide +kernel) (by decide +kernel)
set_option maxRecDepth 100000 in
theorem kX6_132 : LkV RX6 132 iX5_add := LkV_of [346, 347, 348, 25, 349] (by decide +kernel) (by decide +kernel)
set_option maxRecDepth 100000 in
theorem kX6_135 : LkV RX6 135 iX4_hours := LkV_of [447, 383, 384, 32, 385] (by decide +kernel) (by decide +kernel)
set_option maxRecDepth 100000 in
theorem kX6_138 : LkV RX6 138 iX4_plannedHours := LkV_of [448, 449, 450, 32, 451] (by decide +kernel) (by decide +kernel)
set_option maxRecDepth 100000 in
theorem kX6_141 : LkV RX6 141 iX5_shiftAt := LkV_of [696, 343, 344, 25, 345] (by decide +kernel) (by decide +kernel)
set_option maxRecDepth 100000 in
theorem kX6_152 : LkV RX6 152 iX5_restAhead := LkV_of [804, 367, 368, 25, 369] (by decide +kernel) (by decide +kernel)
set_option maxRecDepth 100000 in
theorem kX6_156 : LkS RX6 156 iX3_isAllowed := LkS_of [473, 474, 24, 475] (by decide +kernel) (by decide +kernel)
set_option maxRecDepth 100000 in
theorem kX6_162 : LkV RX6 162 iX3_isFull := LkV_of [480, 481, 482, 24, 483] (by decide +kernel) (by decide +kernel)
set_option maxRecDepth 100000 in
theorem kX6_168 : LkV RX6 168 iX3_append := LkV_of [485, 486, 487, 24, 488] (by decide +kernel) (by decide +kernel)
set_option maxRecDepth 100000 in
theorem kX6_175 : LkV RX6 175 iX3_clear := LkV_of [607, 608, 609, 24, 610] (by decide +kernel) (by decide +kernel)
set_option maxRecDepth 100000 in
theorem kX6_178 : LkV RX6 178 iX3_parse := LkV_of [493, 494, 495, 24, 496] (by decide +kernel) (by decide +kernel)
set_option maxRecDepth 100000 in
theorem kX6_188 : LkI RX6 188 iX2_init := LkI_of [581, 582, 39, 583] (by decide +kernel) (by decide +kernel)
set_option maxRecDepth 100000 in
theorem kX6_191 : LkV RX6 191 iX6_theRule := LkV_of [702, 704, 13, 23, 705] (by decide +kernel) (by decide +kernel)
set_option maxRecDepth 100000 in
theorem kX6_201 : LkV RX6 201 iX2_isBrokenBy := LkV_of [403, 363, 364, 39, 365] (by decide +kernel) (by decide +kernel)
set_option maxRecDepth 100000 in
theorem kX6_210 : LkV RX6 210 iX4_week := LkV_of [712, 379, 380, 32, 381] (by decide +kernel) (by decide +kernel)
set_option maxRecDepth 100000 in
theorem kX6_213 : LkV RX6 213 iX6_brokenBy := LkV_of [713, 715, 14, 23, 716] (by decide +kernel) (by decide +kernel)
set_option maxRecDepth 100000 in
theorem kX6_219 : LkV RX6 219 iX6_theClaim := LkV_of [741, 743, 15, 23, 744] (by decide +kernel) (by decide +kernel)
set_option maxRecDepth 100000 in
theorem kX6_239 : LkV RX6 239 iX0_worthNow := LkV_of [747, 748, 749, 33, 750] (by decide +kernel) (by decide +kernel)
set_option maxRecDepth 100000 in
theorem kX6_249 : LkV RX6 249 iX5_hoursEndedBy := LkV_of [821, 822, 823, 25, 824] (by decide +kernel) (by decide +kernel)
set_option maxRecDepth 100000 in
theorem kX6_253 : LkV RX6 253 iX6_isBehindNow := LkV_of [664, 666, 12, 23, 667] (by decide +kernel) (by decide +kernel)
set_option maxRecDepth 100000 in
theorem kX6_263 : LkI RX6 263 iX1_init := LkI_of [671, 672, 34, 673] (by decide +kernel) (by decide +kernel)
set_option maxRecDepth 100000 in
theorem kX6_266 : LkV RX6 266 iX6_theOffer := LkV_of [761, 763, 16, 23, 764] (by decide +kernel) (by decide +kernel)
set_option maxRecDepth 100000 in
theorem kX6_275 : LkV RX6 275 iX6_offersThere := LkV_of [767, 769, 17, 23, 770] (by decide +kernel) (by decide +kernel)
set_option maxRecDepth 100000 in
theorem kX6_278 : LkV RX6 278 iX6_gatherRing := LkV_of [775, 777, 18, 23, 778] (by decide +kernel) (by decide +kernel)
set_option maxRecDepth 100000 in
theorem kX6_282 : LkV RX6 282 iX6_ringCanSwap := LkV_of [787, 789, 21, 23, 790] (by decide +kernel) (by decide +kernel)
set_option maxRecDepth 100000 in
theorem kX6_301 : LkV RX6 301 iX0_isFounded := LkV_of [358, 359, 360, 33, 361] (by decide +kernel) (by decide +kernel)
set_option maxRecDepth 100000 in
theorem kX6_304 : LkV RX6 304 iX0_lapse := LkV_of [395, 396, 397, 33, 398] (by decide +kernel) (by decide +kernel)
set_option maxRecDepth 100000 in
theorem kX6_307 : LkV RX6 307 iX6_claimFor := LkV_of [399, 401, 4, 23, 402] (by decide +kernel) (by decide +kernel)
set_option maxRecDepth 100000 in
theorem kX6_310 : LkV RX6 310 iX4_claimOf := LkV_of [404, 405, 406, 32, 407] (by decide +kernel) (by decide +kernel)
set_option maxRecDepth 100000 in
theorem kX6_314 : LkV RX6 314 iX6_makeClaim := LkV_of [408, 410, 5, 23, 411] (by decide +kernel) (by decide +kernel)
set_option maxRecDepth 100000 in
theorem kX6_318 : LkV RX6 318 iX0_revive := LkV_of [443, 444, 445, 33, 446] (by decide +kernel) (by decide +kernel)
set_option maxRecDepth 100000 in
theorem kX6_321 : LkI RX6 321 iX0_init := LkI_of [413, 414, 33, 415] (by decide +kernel) (by decide +kernel)
set_option maxRecDepth 100000 in
theorem kX6_333 : LkV RX6 333 iX6_isInRing := LkV_of [779, 781, 19, 23, 782] (by decide +kernel) (by decide +kernel)
set_option maxRecDepth 100000 in
theorem kX6_337 : LkV RX6 337 iX6_lowestGiving := LkV_of [783, 785, 20, 23, 786] (by decide +kernel) (by decide +kernel)
