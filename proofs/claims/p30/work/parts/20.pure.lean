/-! 20.mst.lean.txt -/
/-! THE REFERENCE: its state -/
abbrev MS : Type := (Nat → Int32) × (Nat → Nat → Int32)
def mlen (k : Nat) : Option (Nat × Nat) := match k with
  | 1 => some (0, 8)
  | 2 => some (0, 8)
  | 4 => some (0, 40)
  | 5 => some (0, 40)
  | 6 => some (0, 40)
  | 7 => some (0, 40)
  | 8 => some (0, 40)
  | 9 => some (0, 40)
  | 11 => some (2, 40)
  | 17 => some (0, 12)
  | 18 => some (0, 12)
  | 19 => some (0, 12)
  | 20 => some (0, 12)
  | 21 => some (1, 12)
  | 23 => some (0, 200)
  | 24 => some (0, 200)
  | 25 => some (0, 200)
  | 26 => some (0, 200)
  | 27 => some (0, 200)
  | 29 => some (0, 40)
  | 30 => some (0, 40)
  | 31 => some (1, 40)
  | 33 => some (0, 8)
  | _ => none
section MF
variable {o : Nat} {ad : Nat → Nat} {S : MS} {h : Hp}
end MF

/-! 21.base.lean.txt -/
section BASE
variable {L : List (Option Value)} {v : Value} {o : Option Value} {x : Int32} {a k : Nat}
theorem lgt_0 : lgt (some v :: L) 0 = v := rfl
theorem lgt_s : lgt (o :: L) (k + 1) = lgt L k := by simp [lgt]
theorem lhas_0 : lhas (some v :: L) 0 = True := rfl
theorem lhas_s : lhas (o :: L) (k + 1) = lhas L k := by simp [lhas]
theorem isI_i : isI (.int x) = True := rfl
theorem isRf_r : isRf (.ref a) = True := rfl
theorem isRf_n : isRf .null = True := rfl
theorem inc_i (z : Int) : inc (.int x) z = .int (x + Int32.ofInt z) := rfl
theorem of1 : Int32.ofInt 1 = 1 := rfl
theorem ofm1 : Int32.ofInt (-1) = -1 := rfl
theorem rokI_i : rokI (some .int) x = True := by simp [rokI, narrow]
theorem rokI_0 : rokI (some .boolean) 0 = True := by simp [rokI, narrow]
theorem rokI_1 : rokI (some .boolean) 1 = True := by simp [rokI, narrow]
theorem okv_i : okv .int (.int x) = True := by simp [okv, narrow, fits]
theorem okv_z0 : okv .boolean (.int 0) = True := by simp [okv, narrow, fits]
theorem okv_z1 : okv .boolean (.int 1) = True := by simp [okv, narrow, fits]
theorem okv_or (C : String) : okv (.object C) (.ref a) = True := by simp [okv, narrow, fits]
theorem okv_on (C : String) : okv (.object C) .null = True := by simp [okv, narrow, fits]
theorem okv_ar (t : FieldType) : okv (.array t) (.ref a) = True := by simp [okv, narrow, fits]
theorem isA_s (t n : Nat) (c : Nat → Nat → Prop) : isA (some (.inr (t, n))) c = c t n := rfl
theorem alen_s (t n : Nat) : alen (some (.inr (t, n))) = n := rfl
theorem cat_i : (Value.int x).category = 1 := rfl
theorem cat_r : (Value.ref a).category = 1 := rfl
theorem cat_n : Value.null.category = 1 := rfl
/-- a truth value as the machine has it -/
def b2i (c : Bool) : Int32 := if c then 1 else 0
theorem b2i_t : b2i true = 1 := rfl
theorem b2i_f : b2i false = 0 := rfl
theorem rokI_b (c : Bool) : rokI (some .boolean) (b2i c) = True := by cases c <;> simp [rokI, narrow, b2i]
theorem okv_b (c : Bool) : okv .boolean (.int (b2i c)) = True := by cases c <;> simp [okv, narrow, fits, b2i]
theorem narB (c : Bool) : narrow .boolean (.int (b2i c)) = .int (b2i c) := by cases c <;> simp [narrow, b2i]
theorem b2i_0 (c : Bool) : (b2i c = 0) = (c = false) := by cases c <;> simp [b2i]
theorem b2i_1 (c : Bool) : (b2i c = 1) = (c = true) := by cases c <;> simp [b2i]
theorem b2i_inj (c d : Bool) : (b2i c = b2i d) = (c = d) := by cases c <;> cases d <;> simp [b2i]
end BASE
section FIN
variable {p : Program} {l : Launch} {e : Env} {R : Room} {s : State} {m : MethodId} {args : Array Value} {below : List Frame} {meth : Method} {c : Code} {D : Dg} {b : Nat} {P : Option Value → Hp → Prop} {X : String → Hp → Prop} {mc ms : Nat}
theorem finC_s (v : Option Value) (h : Hp) (cs ss : Nat) : finC ((p, l, e, R), (s, m, args, below), (meth, c, D, b), (P, X, mc, ms)) v h cs ss = (P v h ∧ cs ≤ mc ∧ ss ≤ ms) := rfl
end FIN
theorem vpin {s n : Nat} (h : s < n) (hn : n ≤ 2048) : vp_in (nI s) n := vp_in_nI h (by omega)
theorem nIc {s : Nat} (h : s < 2048) : (nI s).toNatClampNeg = s := nI_clamp (by omega)
theorem nJ_le {a c : Nat} (h : a < 2048) (h2 : c < 2048) : (nI a ≤ nI c) = (a ≤ c) := by
  apply propext
  rw [Int32.le_iff_toInt_le, nI_toInt (by omega), nI_toInt (by omega)]; omega
theorem nJ_lt {a c : Nat} (h : a < 2048) (h2 : c < 2048) : (nI a < nI c) = (a < c) := by
  apply propext
  rw [Int32.lt_iff_toInt_lt, nI_toInt (by omega), nI_toInt (by omega)]; omega
theorem nJ_eq {a c : Nat} (h : a < 2048) (h2 : c < 2048) : (nI a = nI c) = (a = c) := by
  apply propext
  constructor
  · intro e
    have e1 := congrArg Int32.toInt e
    rw [nI_toInt (by omega), nI_toInt (by omega)] at e1
    omega
  · intro e; rw [e]
theorem nI_p1 (a : Nat) : nI a + 1 = nI (a + 1) := (nI_succ a).symm
/-- a counted fold, and the loop that makes it -/
def lp {α : Type} (f : Nat → α → α) (a : α) : Nat → α
  | 0 => a
  | n + 1 => f n (lp f a n)
theorem v_loop {α : Type} {G : Nat → α → Prop} (n : Nat) (f : Nat → α → α) (a : α) (hexit : G n (lp f a n)) (hstep : ∀ i, i < n → G (i + 1) (f i (lp f a i)) → G i (lp f a i)) : G 0 a := by
  have key : ∀ k i, i + k = n → G i (lp f a i) := by
    intro k
    induction k with
    | zero => intro i hi; rw [show i = n by omega]; exact hexit
    | succ k ih => intro i hi; exact hstep i (by omega) (ih (i + 1) (by omega))
  exact key n 0 (by omega)
abbrev rv (v : Value) (h : Hp) : Option Value → Hp → Prop := fun r h' => r = some v ∧ h' = h
abbrev nox : String → Hp → Prop := fun _ _ => False
def fup (f : Nat → Int32) (k : Nat) (x : Int32) : Nat → Int32 := fun j => if j = k then x else f j
def aup (f : Nat → Nat → Int32) (k i : Nat) (x : Int32) : Nat → Nat → Int32 := fun k' i' => if k' = k ∧ i' = i then x else f k' i'
/-- the addresses of the reference's own cells -/
def mown (o : Nat) (ad : Nat → Nat) (a : Nat) : Prop := a = o ∨ ∃ k, (mlen k).isSome = true ∧ a = ad k
theorem ie_m1_0 : ((-1 : Int32) = (0 : Int32)) = False := by decide
theorem il_m1_0 : ((-1 : Int32) < (0 : Int32)) = True := by decide
theorem ie_m1_1 : ((-1 : Int32) = (1 : Int32)) = False := by decide
theorem il_m1_1 : ((-1 : Int32) < (1 : Int32)) = True := by decide
theorem ie_m1_2 : ((-1 : Int32) = (2 : Int32)) = False := by decide
theorem il_m1_2 : ((-1 : Int32) < (2 : Int32)) = True := by decide
theorem ie_m1_3 : ((-1 : Int32) = (3 : Int32)) = False := by decide
theorem il_m1_3 : ((-1 : Int32) < (3 : Int32)) = True := by decide
theorem ie_m1_4 : ((-1 : Int32) = (4 : Int32)) = False := by decide
theorem ie_m1_5 : ((-1 : Int32) = (5 : Int32)) = False := by decide
theorem ie_m1_6 : ((-1 : Int32) = (6 : Int32)) = False := by decide
theorem ie_m1_7 : ((-1 : Int32) = (7 : Int32)) = False := by decide
theorem ie_m1_8 : ((-1 : Int32) = (8 : Int32)) = False := by decide
theorem ie_0_m1 : ((0 : Int32) = (-1 : Int32)) = False := by decide
theorem il_0_0 : ((0 : Int32) < (0 : Int32)) = False := by decide
theorem ie_0_1 : ((0 : Int32) = (1 : Int32)) = False := by decide
theorem il_0_1 : ((0 : Int32) < (1 : Int32)) = True := by decide
theorem ie_0_2 : ((0 : Int32) = (2 : Int32)) = False := by decide
theorem il_0_2 : ((0 : Int32) < (2 : Int32)) = True := by decide
theorem ie_0_3 : ((0 : Int32) = (3 : Int32)) = False := by decide
theorem il_0_3 : ((0 : Int32) < (3 : Int32)) = True := by decide
theorem ie_0_4 : ((0 : Int32) = (4 : Int32)) = False := by decide
theorem ie_0_5 : ((0 : Int32) = (5 : Int32)) = False := by decide
theorem ie_0_6 : ((0 : Int32) = (6 : Int32)) = False := by decide
theorem ie_0_7 : ((0 : Int32) = (7 : Int32)) = False := by decide
theorem ie_0_8 : ((0 : Int32) = (8 : Int32)) = False := by decide
theorem ie_1_m1 : ((1 : Int32) = (-1 : Int32)) = False := by decide
theorem ie_1_0 : ((1 : Int32) = (0 : Int32)) = False := by decide
theorem il_1_0 : ((1 : Int32) < (0 : Int32)) = False := by decide
theorem il_1_1 : ((1 : Int32) < (1 : Int32)) = False := by decide
theorem ie_1_2 : ((1 : Int32) = (2 : Int32)) = False := by decide
theorem il_1_2 : ((1 : Int32) < (2 : Int32)) = True := by decide
theorem ie_1_3 : ((1 : Int32) = (3 : Int32)) = False := by decide
theorem il_1_3 : ((1 : Int32) < (3 : Int32)) = True := by decide
theorem ie_1_4 : ((1 : Int32) = (4 : Int32)) = False := by decide
theorem ie_1_5 : ((1 : Int32) = (5 : Int32)) = False := by decide
theorem ie_1_6 : ((1 : Int32) = (6 : Int32)) = False := by decide
theorem ie_1_7 : ((1 : Int32) = (7 : Int32)) = False := by decide
theorem ie_1_8 : ((1 : Int32) = (8 : Int32)) = False := by decide
theorem ie_2_m1 : ((2 : Int32) = (-1 : Int32)) = False := by decide
theorem ie_2_0 : ((2 : Int32) = (0 : Int32)) = False := by decide
theorem il_2_0 : ((2 : Int32) < (0 : Int32)) = False := by decide
theorem ie_2_1 : ((2 : Int32) = (1 : Int32)) = False := by decide
theorem il_2_1 : ((2 : Int32) < (1 : Int32)) = False := by decide
theorem il_2_2 : ((2 : Int32) < (2 : Int32)) = False := by decide
theorem ie_2_3 : ((2 : Int32) = (3 : Int32)) = False := by decide
theorem il_2_3 : ((2 : Int32) < (3 : Int32)) = True := by decide
theorem ie_2_4 : ((2 : Int32) = (4 : Int32)) = False := by decide
theorem ie_2_5 : ((2 : Int32) = (5 : Int32)) = False := by decide
theorem ie_2_6 : ((2 : Int32) = (6 : Int32)) = False := by decide
theorem ie_2_7 : ((2 : Int32) = (7 : Int32)) = False := by decide
theorem ie_2_8 : ((2 : Int32) = (8 : Int32)) = False := by decide
theorem ie_3_m1 : ((3 : Int32) = (-1 : Int32)) = False := by decide
theorem ie_3_0 : ((3 : Int32) = (0 : Int32)) = False := by decide
theorem il_3_0 : ((3 : Int32) < (0 : Int32)) = False := by decide
theorem ie_3_1 : ((3 : Int32) = (1 : Int32)) = False := by decide
theorem il_3_1 : ((3 : Int32) < (1 : Int32)) = False := by decide
theorem ie_3_2 : ((3 : Int32) = (2 : Int32)) = False := by decide
theorem il_3_2 : ((3 : Int32) < (2 : Int32)) = False := by decide
theorem il_3_3 : ((3 : Int32) < (3 : Int32)) = False := by decide
theorem ie_3_4 : ((3 : Int32) = (4 : Int32)) = False := by decide
theorem ie_3_5 : ((3 : Int32) = (5 : Int32)) = False := by decide
theorem ie_3_6 : ((3 : Int32) = (6 : Int32)) = False := by decide
theorem ie_3_7 : ((3 : Int32) = (7 : Int32)) = False := by decide
theorem ie_3_8 : ((3 : Int32) = (8 : Int32)) = False := by decide
theorem ie_4_m1 : ((4 : Int32) = (-1 : Int32)) = False := by decide
theorem ie_4_0 : ((4 : Int32) = (0 : Int32)) = False := by decide
theorem il_4_0 : ((4 : Int32) < (0 : Int32)) = False := by decide
theorem ie_4_1 : ((4 : Int32) = (1 : Int32)) = False := by decide
theorem il_4_1 : ((4 : Int32) < (1 : Int32)) = False := by decide
theorem ie_4_2 : ((4 : Int32) = (2 : Int32)) = False := by decide
theorem il_4_2 : ((4 : Int32) < (2 : Int32)) = False := by decide
theorem ie_4_3 : ((4 : Int32) = (3 : Int32)) = False := by decide
theorem il_4_3 : ((4 : Int32) < (3 : Int32)) = False := by decide
theorem ie_4_5 : ((4 : Int32) = (5 : Int32)) = False := by decide
theorem ie_4_6 : ((4 : Int32) = (6 : Int32)) = False := by decide
theorem ie_4_7 : ((4 : Int32) = (7 : Int32)) = False := by decide
theorem ie_4_8 : ((4 : Int32) = (8 : Int32)) = False := by decide
theorem ie_5_m1 : ((5 : Int32) = (-1 : Int32)) = False := by decide
theorem ie_5_0 : ((5 : Int32) = (0 : Int32)) = False := by decide
theorem il_5_0 : ((5 : Int32) < (0 : Int32)) = False := by decide
theorem ie_5_1 : ((5 : Int32) = (1 : Int32)) = False := by decide
theorem il_5_1 : ((5 : Int32) < (1 : Int32)) = False := by decide
theorem ie_5_2 : ((5 : Int32) = (2 : Int32)) = False := by decide
theorem il_5_2 : ((5 : Int32) < (2 : Int32)) = False := by decide
theorem ie_5_3 : ((5 : Int32) = (3 : Int32)) = False := by decide
theorem il_5_3 : ((5 : Int32) < (3 : Int32)) = False := by decide
theorem ie_5_4 : ((5 : Int32) = (4 : Int32)) = False := by decide
theorem ie_5_6 : ((5 : Int32) = (6 : Int32)) = False := by decide
theorem ie_5_7 : ((5 : Int32) = (7 : Int32)) = False := by decide
theorem ie_5_8 : ((5 : Int32) = (8 : Int32)) = False := by decide
theorem ie_6_m1 : ((6 : Int32) = (-1 : Int32)) = False := by decide
theorem ie_6_0 : ((6 : Int32) = (0 : Int32)) = False := by decide
theorem il_6_0 : ((6 : Int32) < (0 : Int32)) = False := by decide
theorem ie_6_1 : ((6 : Int32) = (1 : Int32)) = False := by decide
theorem il_6_1 : ((6 : Int32) < (1 : Int32)) = False := by decide
theorem ie_6_2 : ((6 : Int32) = (2 : Int32)) = False := by decide
theorem il_6_2 : ((6 : Int32) < (2 : Int32)) = False := by decide
theorem ie_6_3 : ((6 : Int32) = (3 : Int32)) = False := by decide
theorem il_6_3 : ((6 : Int32) < (3 : Int32)) = False := by decide
theorem ie_6_4 : ((6 : Int32) = (4 : Int32)) = False := by decide
theorem ie_6_5 : ((6 : Int32) = (5 : Int32)) = False := by decide
theorem ie_6_7 : ((6 : Int32) = (7 : Int32)) = False := by decide
theorem ie_6_8 : ((6 : Int32) = (8 : Int32)) = False := by decide
theorem ie_7_m1 : ((7 : Int32) = (-1 : Int32)) = False := by decide
theorem ie_7_0 : ((7 : Int32) = (0 : Int32)) = False := by decide
theorem il_7_0 : ((7 : Int32) < (0 : Int32)) = False := by decide
theorem ie_7_1 : ((7 : Int32) = (1 : Int32)) = False := by decide
theorem il_7_1 : ((7 : Int32) < (1 : Int32)) = False := by decide
theorem ie_7_2 : ((7 : Int32) = (2 : Int32)) = False := by decide
theorem il_7_2 : ((7 : Int32) < (2 : Int32)) = False := by decide
theorem ie_7_3 : ((7 : Int32) = (3 : Int32)) = False := by decide
theorem il_7_3 : ((7 : Int32) < (3 : Int32)) = False := by decide
theorem ie_7_4 : ((7 : Int32) = (4 : Int32)) = False := by decide
theorem ie_7_5 : ((7 : Int32) = (5 : Int32)) = False := by decide
theorem ie_7_6 : ((7 : Int32) = (6 : Int32)) = False := by decide
theorem ie_7_8 : ((7 : Int32) = (8 : Int32)) = False := by decide
theorem ie_8_m1 : ((8 : Int32) = (-1 : Int32)) = False := by decide
theorem ie_8_0 : ((8 : Int32) = (0 : Int32)) = False := by decide
theorem il_8_0 : ((8 : Int32) < (0 : Int32)) = False := by decide
theorem ie_8_1 : ((8 : Int32) = (1 : Int32)) = False := by decide
theorem il_8_1 : ((8 : Int32) < (1 : Int32)) = False := by decide
theorem ie_8_2 : ((8 : Int32) = (2 : Int32)) = False := by decide
theorem il_8_2 : ((8 : Int32) < (2 : Int32)) = False := by decide
theorem ie_8_3 : ((8 : Int32) = (3 : Int32)) = False := by decide
theorem il_8_3 : ((8 : Int32) < (3 : Int32)) = False := by decide
theorem ie_8_4 : ((8 : Int32) = (4 : Int32)) = False := by decide
theorem ie_8_5 : ((8 : Int32) = (5 : Int32)) = False := by decide
theorem ie_8_6 : ((8 : Int32) = (6 : Int32)) = False := by decide
theorem ie_8_7 : ((8 : Int32) = (7 : Int32)) = False := by decide
theorem hup_at (f : Nat → Nat → Value) (a k : Nat) (v : Value) (a2 k2 : Nat) : hup f a k v a2 k2 = if a2 = a ∧ k2 = k then v else f a2 k2 := rfl
theorem vpT {s n : Nat} (h : s < n) (hn : n ≤ 2048) : vp_in (nI s) n = True := eq_true (vpin h hn)
theorem nIc8 {s : Nat} (h : s < 8) : (nI s).toNatClampNeg = s := nIc (by omega)
theorem nIc12 {s : Nat} (h : s < 12) : (nI s).toNatClampNeg = s := nIc (by omega)
theorem nIc40 {s : Nat} (h : s < 40) : (nI s).toNatClampNeg = s := nIc (by omega)
theorem nIc200 {s : Nat} (h : s < 200) : (nI s).toNatClampNeg = s := nIc (by omega)
theorem nL8 {s t : Nat} (h : s < 8) (h2 : t < 8) : (nI s < nI t) = (s < t) := nJ_lt (by omega) (by omega)
theorem nL40 {s t : Nat} (h : s < 40) (h2 : t < 40) : (nI s < nI t) = (s < t) := nJ_lt (by omega) (by omega)
theorem nE8 {s t : Nat} (h : s < 8) (h2 : t < 8) : (nI s = nI t) = (s = t) := nJ_eq (by omega) (by omega)
theorem nE12 {s t : Nat} (h : s < 12) (h2 : t < 12) : (nI s = nI t) = (s = t) := nJ_eq (by omega) (by omega)
theorem nE40 {s t : Nat} (h : s < 40) (h2 : t < 40) : (nI s = nI t) = (s = t) := nJ_eq (by omega) (by omega)
/-- the head of a loop to n: 'i >= n' -/
theorem nG {i n : Nat} (h : i ≤ n) (hn : n ≤ 2000) : (nI n ≤ nI i) = (n ≤ i) := nJ_le (by omega) (by omega)
theorem nZ : nI 0 = 0 := rfl
theorem b2iD (q : Prop) {d : Decidable q} : b2i (@decide q d) = if q then 1 else 0 := by by_cases h : q <;> simp [b2i, h]
theorem nM40 {s t : Nat} (h : s < 40) (h2 : t < 40) : (nI s ≤ nI t) = (s ≤ t) := nJ_le (by omega) (by omega)
theorem v_forget {C : Ctx} {h : Hp} {cs ss pc : Nat} {L : List (Option Value)} {st : List Value} (k : Nat) (kk : V C h cs ss pc (L.set k none) st) : V C h cs ss pc L st := by
  intro H locs ls hR hS hL
  refine kk H locs ls hR hS ⟨by rw [List.length_set]; exact hL.1, fun i v hv => ?_, hL.2.2⟩
  by_cases e : k = i
  · subst e
    rw [List.getElem?_set] at hv
    split at hv
    · split at hv <;> cases hv
    · exact hL.2.1 _ v hv
  · rw [List.getElem?_set_ne e] at hv
    exact hL.2.1 i v hv
/-- a number or none, as the machine has it -/
def oI (r : Option Nat) : Int32 := match r with
  | none => -1
  | some k => nI k
theorem oI_n : oI none = -1 := rfl
theorem oI_s (k : Nat) : oI (some k) = nI k := rfl
theorem nI_m1 {k : Nat} (h : k < 40) : (nI k = -1) = False := by
  apply propext
  refine ⟨fun e => ?_, fun z => z.elim⟩
  have e1 := congrArg Int32.toInt e
  rw [nI_toInt (by omega)] at e1
  have : (-1 : Int32).toInt = -1 := by decide
  omega
theorem d24 : ((24 : Int32) = 0) = False := by decide
theorem d168 : ((168 : Int32) = 0) = False := by decide
theorem d100 : ((100 : Int32) = 0) = False := by decide
theorem v_find {G : Nat → Prop} (n : Nat) (g : Nat → Bool) (hexit : (∀ j, j < n → g j = false) → G n) (hstep : ∀ i, i < n → (∀ j, j < i → g j = false) → (g i = false → G (i + 1)) → G i) : G 0 := by
  have key : ∀ k i, i + k = n → (∀ j, j < i → g j = false) → G i := by
    intro k
    induction k with
    | zero => intro i hi hg; rw [show i = n by omega] at hg ⊢; exact hexit hg
    | succ k ih =>
      intro i hi hg
      refine hstep i (by omega) hg (fun hgi => ih (i + 1) (by omega) (fun j hj => ?_))
      by_cases e : j = i
      · rw [e]; exact hgi
      · exact hg j (by omega)
  exact key n 0 (by omega) (fun j hj => absurd hj (by omega))
/-- the first place below n -/
def fnd (g : Nat → Bool) : Nat → Option Nat
  | 0 => none
  | n + 1 => match fnd g n with
    | some c => some c
    | none => if g n then some n else none
theorem fnd_none {g : Nat → Bool} : ∀ n, (∀ j, j < n → g j = false) → fnd g n = none
  | 0, _ => rfl
  | n + 1, h => by
    unfold fnd
    rw [fnd_none n (fun j hj => h j (by omega)), h n (by omega)]
    rfl
theorem fnd_some {g : Nat → Bool} {i : Nat} (hg : g i = true) (hb : ∀ j, j < i → g j = false) : ∀ n, i < n → fnd g n = some i
  | 0, h => absurd h (by omega)
  | n + 1, h => by
    unfold fnd
    by_cases e : i = n
    · rw [← e, fnd_none i hb, hg]
      rfl
    · rw [fnd_some hg hb n (by omega)]
theorem fnd_spec {g : Nat → Bool} : ∀ n i, fnd g n = some i → i < n ∧ g i = true ∧ ∀ j, j < i → g j = false
  | 0, i, h => by simp [fnd] at h
  | n + 1, i, h => by
    unfold fnd at h
    cases hf : fnd g n with
    | some c =>
      rw [hf] at h
      cases h
      obtain ⟨a, b, c⟩ := fnd_spec n i hf
      exact ⟨by omega, b, c⟩
    | none =>
      rw [hf] at h
      by_cases e : g n = true
      · simp [e] at h
        subst h
        refine ⟨by omega, e, fun j hj => ?_⟩
        cases hgj : g j with
        | false => rfl
        | true =>
          exfalso
          have : ∀ m, j < m → fnd g m ≠ none := by
            intro m
            induction m with
            | zero => intro h; omega
            | succ m ih =>
              intro hm hn
              unfold fnd at hn
              cases hfm : fnd g m with
              | some c => rw [hfm] at hn; cases hn
              | none =>
                rw [hfm] at hn
                by_cases e2 : j = m
                · rw [← e2, hgj] at hn; simp at hn
                · exact ih (by omega) hfm
          exact this n hj hf
      · simp [e] at h
theorem nar1 : narrow .boolean (.int 1) = .int 1 := by simp [narrow]
theorem nar0 : narrow .boolean (.int 0) = .int 0 := by simp [narrow]
theorem lp_ff {g : Nat → Bool} : ∀ n i, i ≤ n → lp (fun i z => z && g i) true i = false → lp (fun i z => z && g i) true n = false := by
  intro n
  induction n with
  | zero => intro i hi h; rw [show i = 0 by omega] at h; exact h
  | succ n ih =>
    intro i hi h
    by_cases e : i = n + 1
    · rw [← e]; exact h
    · show (lp (fun i z => z && g i) true n && g n) = false
      rw [ih i (by omega) h]; rfl
theorem nG1 {d m : Nat} (h : d ≤ 300) (hm : m ≤ 300) : (nI m < nI d) = (m < d) := nJ_lt (by omega) (by omega)

/-! 22.num.lean.txt -/
theorem nJ_add (a k : Nat) : nI a + nI k = nI (a + k) := by
  unfold nI
  rw [Int32.ofNat_add]
theorem nJ_p2 (a : Nat) : nI a + 2 = nI (a + 2) := nJ_add a 2
theorem nJ_p3 (a : Nat) : nI a + 3 = nI (a + 3) := nJ_add a 3
theorem nJ_p4 (a : Nat) : nI a + 4 = nI (a + 4) := nJ_add a 4
theorem nJ_sb {a c : Nat} (h : a ≤ c) : nI c - nI a = nI (c - a) := by
  have e : nI c = nI (c - a) + nI a := by rw [nJ_add]; congr 1; omega
  rw [e, Int32.add_sub_cancel]
theorem nE3 {x : Nat} (h : x < 2048) : (nI x = 3) = (x = 3) := nJ_eq (c := 3) h (by omega)
theorem nE4 {x : Nat} (h : x < 2048) : (nI x = 4) = (x = 4) := nJ_eq (c := 4) h (by omega)
theorem nE5 {x : Nat} (h : x < 2048) : (nI x = 5) = (x = 5) := nJ_eq (c := 5) h (by omega)

/-! 30.m1.lean.txt -/
section M1
variable {l : Launch} {D : Dg} {b : Nat} {h : Hp} {o : Nat} {ad : Nat → Nat} {S : MS}
abbrev thr (S : MS) (k : Int32) : MS := (fup S.1 34 k, S.2)
end M1

/-! 31.m2.lean.txt -/
/-! the reference's questions, as functions of its state -/
def ahd (S : MS) (s t : Nat) : Bool := decide (S.2 7 s = S.2 7 t) && (decide (S.2 8 s < S.2 8 t) || decide (S.2 8 s = S.2 8 t) && decide (s < t))
section M2
variable {l : Launch} {D : Dg} {b : Nat} {h : Hp} {o : Nat} {ad : Nat → Nat} {S : MS}
def cho (S : MS) (w t : Nat) (g : Int32) (s : Nat) : Bool := (!decide (s = t) && !decide (nI s = g) && decide (S.2 7 s = nI w)) && (decide (S.2 4 s < S.2 5 t) && decide (S.2 4 t < S.2 5 s))
def ch0 (S : MS) (w t : Nat) : Bool := decide ((S.2 1 w >>> (S.2 6 t &&& 31)) &&& 1 = 1)
def chld (S : MS) (n w t : Nat) (g : Int32) : Bool := lp (fun s c => c && !cho S w t g s) (ch0 S w t) n
end M2

/-! 32.m3.lean.txt -/
def jstep (S : MS) (t s : Nat) (best : Option Nat) : Option Nat := if ahd S s t then (match best with
  | none => some s
  | some c => if ahd S c s then some s else some c) else best
def jst (S : MS) (n t : Nat) : Option Nat := lp (jstep S t) none n
theorem jstep_lt {S : MS} {t s : Nat} {best : Option Nat} (h : ∀ c, best = some c → c < s) : ∀ c, jstep S t s best = some c → c < s + 1 := by
  intro c hc
  unfold jstep at hc
  split at hc
  · cases best with
    | none => simp at hc; omega
    | some d =>
      have := h d rfl
      simp at hc
      split at hc <;> (simp at hc; omega)
  · have := h c hc; omega
theorem jlp_lt {S : MS} {t : Nat} : ∀ n c, lp (jstep S t) none n = some c → c < n := by
  intro n
  induction n with
  | zero => intro c hc; simp [lp] at hc
  | succ n ih => exact jstep_lt ih
def wkh (S : MS) (n t : Nat) : Int32 := lp (fun s a => a + (if ahd S s t && decide (S.2 8 s / 168 = S.2 8 t / 168) then S.2 9 s - S.2 8 s else 0)) (S.2 9 t - S.2 8 t) n
def hsh (S : MS) (n : Nat) (w dd : Int32) : Bool := lp (fun s a => a || (decide (S.2 7 s = w) && decide (S.2 8 s / 24 = dd))) false n
section M3
variable {l : Launch} {D : Dg} {b : Nat} {h : Hp} {o : Nat} {ad : Nat → Nat} {S : MS}
end M3

/-! 33.m4.lean.txt -/
def inr (S : MS) (n t m : Nat) : Bool := lp (fun i z => z && (decide (nI (i + 1) ≤ S.2 8 t / 24) && hsh S n (S.2 7 t) (S.2 8 t / 24 - nI (i + 1)))) true m
def brk (S : MS) (n s r : Nat) : Bool :=
  if S.2 7 s = -1 ∨ ¬ S.2 21 r = 0 ∨ (¬ S.2 19 r = -1 ∧ ¬ S.2 19 r = S.2 6 s) then false
  else if S.2 17 r = 0 then (match jst S n s with
    | none => false
    | some c => decide (S.2 8 s - S.2 9 c < S.2 18 r))
  else if S.2 17 r = 1 then decide (S.2 18 r < wkh S n s)
  else if S.2 17 r = 2 then inr S n s (S.2 18 r).toNatClampNeg
  else decide (S.2 18 r < S.2 9 s - S.2 8 s)
def cfo (S : MS) (nc : Nat) (w s r : Int32) : Option Nat := fnd (fun c => decide (S.2 23 c = w) && decide (S.2 24 c = s) && decide (S.2 25 c = r)) nc
def cnt (S : MS) (n : Nat) : Int32 := lp (fun j a => a + (if S.2 31 j = 0 then 0 else 1)) 0 n
def gvr (S : MS) (n : Nat) (t : Int32) : Option Nat := fnd (fun j => !decide (S.2 31 j = 0) && decide (S.2 29 j = t)) n
section M4
variable {l : Launch} {D : Dg} {b : Nat} {h : Hp} {o : Nat} {ad : Nat → Nat} {S : MS}
end M4

/-! 34.m5.lean.txt -/
def mk (S : MS) (nc : Nat) (w s r : Int32) : MS := if nc < 200 then (fup S.1 22 (nI (nc + 1)), aup (aup (aup (aup S.2 23 nc w) 24 nc s) 25 nc r) 26 nc 0) else S
/-- the offers that name t are gone, up to the place k -/
def clr (S : MS) (t : Int32) (k : Nat) : MS := (S.1, fun j i => if j = 31 ∧ i < k then (if ¬ S.2 31 i = 0 ∧ ¬ S.2 29 i = t ∧ ¬ S.2 30 i = t then 1 else 0) else S.2 j i)
theorem clr_0 (S : MS) (t : Int32) : clr S t 0 = S := by
  unfold clr
  simp
theorem clr_s (S : MS) (t : Int32) (k : Nat) : ((clr S t k).1, aup (clr S t k).2 31 k (if ¬ S.2 31 k = 0 ∧ ¬ S.2 29 k = t ∧ ¬ S.2 30 k = t then 1 else 0)) = clr S t (k + 1) := by
  unfold clr
  refine Prod.ext rfl ?_
  funext j i
  unfold aup
  by_cases e : j = 31
  · subst e
    by_cases e2 : i = k
    · subst e2; simp
    · by_cases e3 : i < k
      · simp [e2, e3, show i < k + 1 by omega]
      · simp [e2, e3, show ¬ i < k + 1 by omega]
  · simp [e]
def gvt (S : MS) (no t : Nat) (w : Int32) : MS := if S.2 7 t = w then (S.1, aup S.2 7 t w) else ((clr S (nI t) no).1, aup (clr S (nI t) no).2 7 t w)
section M5
variable {l : Launch} {D : Dg} {b : Nat} {h : Hp} {o : Nat} {ad : Nat → Nat} {S : MS}
end M5

/-! 35.m6.lean.txt -/
def gn (S : MS) (c : Nat) : Nat := (S.2 29 c).toNatClampNeg
def wn (S : MS) (c : Nat) : Nat := (S.2 30 c).toNatClampNeg
def hn (S : MS) (s : Nat) : Nat := (S.2 7 s).toNatClampNeg
/-- what the rows of offers hold -/
def OfW (S : MS) (no : Nat) : Prop := no ≤ 40 ∧ S.1 28 = nI no ∧ ∀ c, c < no → gn S c < 40 ∧ wn S c < 40 ∧ S.2 29 c = nI (gn S c) ∧ S.2 30 c = nI (wn S c)
/-- only the row of the ring differs -/
def rEq (S S' : MS) : Prop := (∀ k, k ≠ 32 → S'.1 k = S.1 k) ∧ ∀ k, k ≠ 33 → S'.2 k = S.2 k
theorem rEq.rf {S : MS} : rEq S S := ⟨fun _ _ => rfl, fun _ _ => rfl⟩
def rgo (S : MS) (no f : Nat) : Nat → Option Nat → List Nat → Option (List Nat)
  | 0, _, _ => none
  | _ + 1, none, _ => none
  | k + 1, some a, acc => if acc.any (fun c => decide (S.2 7 (gn S c) = S.2 7 (gn S a))) then none else if S.2 30 a = S.2 29 f then some (acc ++ [a]) else rgo S no f k (gvr S no (S.2 30 a)) (acc ++ [a])
def rlen (r : Option (List Nat)) : Int32 := match r with
  | none => 0
  | some ls => nI ls.length
def fnr (S : MS) (no f : Nat) : Option (List Nat) := rgo S no f 8 (if S.2 31 f = 0 then none else some f) []
section M6
variable {l : Launch} {D : Dg} {b : Nat} {h : Hp} {o : Nat} {ad : Nat → Nat} {S : MS}
theorem rEq_gn {S S' : MS} (e : rEq S S') (c : Nat) : gn S' c = gn S c := by unfold gn; rw [e.2 29 (by decide)]
theorem rEq_wn {S S' : MS} (e : rEq S S') (c : Nat) : wn S' c = wn S c := by unfold wn; rw [e.2 30 (by decide)]
theorem rEq_OfW {S S' : MS} {no : Nat} (e : rEq S S') (hO : OfW S no) : OfW S' no := by
  refine ⟨hO.1, by rw [e.1 28 (by decide)]; exact hO.2.1, fun c hc => ?_⟩
  rw [rEq_gn e, rEq_wn e, e.2 29 (by decide), e.2 30 (by decide)]
  exact hO.2.2 c hc
end M6

/-! 36.m7.lean.txt -/
def csp (S : MS) (n c : Nat) : Bool := decide (S.1 0 < S.2 4 (gn S c)) && chld S n (hn S (gn S c)) (wn S c) (nI (gn S c))
def csw (S : MS) (n : Nat) (ls : List Nat) : Bool := decide (0 < ls.length) && ls.all (csp S n)
section M7
variable {l : Launch} {D : Dg} {b : Nat} {h : Hp} {o : Nat} {ad : Nat → Nat} {S : MS}
end M7

/-! 37.m8.lean.txt -/
def cw (S : MS) (c : Nat) : Nat := (S.2 23 c).toNatClampNeg
def cs (S : MS) (c : Nat) : Nat := (S.2 24 c).toNatClampNeg
def cr (S : MS) (c : Nat) : Nat := (S.2 25 c).toNatClampNeg
def ncl (S : MS) : Nat := (S.1 22).toNatClampNeg
def JW (S : MS) (n nr : Nat) : Prop := S.1 3 = nI n ∧ n ≤ 40 ∧ S.1 16 = nI nr ∧ nr ≤ 12 ∧ ∀ r, r < nr → ∃ m, m ≤ 200 ∧ S.2 18 r = nI m
def CW (S : MS) (n nr nc : Nat) : Prop := S.1 22 = nI nc ∧ nc ≤ 200 ∧ ∀ c, c < nc → cw S c < 8 ∧ cs S c < n ∧ cr S c < nr ∧ S.2 23 c = nI (cw S c) ∧ S.2 24 c = nI (cs S c) ∧ S.2 25 c = nI (cr S c)
def jhold (S : MS) (n c : Nat) : Bool := decide (S.2 7 (cs S c) = S.2 23 c) && brk S n (cs S c) (cr S c)
def j1 (n c : Nat) (p : MS × Int32) : MS × Int32 := if !(jhold p.1 n c) && decide (p.1.2 26 c < 2) then ((p.1.1, aup p.1.2 26 c (if p.1.2 26 c = 0 then 2 else 3)), p.2 + 1) else p
def j2 (n s r : Nat) (S : MS) : MS := if brk S n s r then (match cfo S (ncl S) (S.2 7 s) (nI s) (nI r) with
  | none => mk S (ncl S) (S.2 7 s) (nI s) (nI r)
  | some c => (S.1, aup S.2 26 c (if S.2 26 c = 2 then 0 else if S.2 26 c = 3 then 1 else S.2 26 c))) else S
def j3 (n nr s : Nat) (S : MS) : MS := lp (fun r S => j2 n s r S) S nr
def jdg (S : MS) (n nr nc : Nat) : MS × Int32 := (lp (fun s S => j3 n nr s S) (lp (j1 n) (S, 0) nc).1 n, (lp (j1 n) (S, 0) nc).2)
theorem JW.st {S : MS} {n nr : Nat} (w : JW S n nr) (c : Nat) (x : Int32) : JW (S.1, aup S.2 26 c x) n nr := by
  refine ⟨w.1, w.2.1, w.2.2.1, w.2.2.2.1, fun r hr => ?_⟩
  obtain ⟨m, h1, h2⟩ := w.2.2.2.2 r hr
  exact ⟨m, h1, by simpa [aup] using h2⟩
theorem CW.st {S : MS} {n nr nc : Nat} (w : CW S n nr nc) (c : Nat) (x : Int32) : CW (S.1, aup S.2 26 c x) n nr nc := by
  refine ⟨w.1, w.2.1, fun c2 hc => ?_⟩
  have := w.2.2 c2 hc
  simpa [cw, cs, cr, aup] using this
theorem JW.mk {S : MS} {n nr : Nat} (w : JW S n nr) (nc : Nat) (a b c : Int32) : JW (mk S nc a b c) n nr := by
  show JW (if nc < 200 then (fup S.1 22 (nI (nc + 1)), aup (aup (aup (aup S.2 23 nc a) 24 nc b) 25 nc c) 26 nc 0) else S) n nr
  split
  · refine ⟨by simpa [fup] using w.1, w.2.1, by simpa [fup] using w.2.2.1, w.2.2.2.1, fun r hr => ?_⟩
    obtain ⟨m, h1, h2⟩ := w.2.2.2.2 r hr
    exact ⟨m, h1, by simpa [aup] using h2⟩
  · exact w
theorem mk_n {S : MS} {nc : Nat} (h : S.1 22 = nI nc) (hn : nc ≤ 200) (a b c : Int32) : ∃ nc', nc' ≤ 200 ∧ (mk S nc a b c).1 22 = nI nc' := by
  unfold mk
  split
  · exact ⟨nc + 1, by omega, by simp [fup]⟩
  · exact ⟨nc, hn, h⟩
section M8
variable {l : Launch} {D : Dg} {b : Nat} {h : Hp} {o : Nat} {ad : Nat → Nat} {S : MS}
end M8

/-! 38.m9.lean.txt -/
/-! the text -/
def is3 (T : Nat → Int32) (a t : Nat) (x y z : Int32) : Bool := decide (t = a + 3) && decide (T a = x) && decide (T (a + 1) = y) && decide (T (a + 2) = z)
def is4 (T : Nat → Int32) (a t : Nat) (x y z u : Int32) : Bool := decide (t = a + 4) && decide (T a = x) && decide (T (a + 1) = y) && decide (T (a + 2) = z) && decide (T (a + 3) = u)
def is5 (T : Nat → Int32) (a t : Nat) (x y z u v : Int32) : Bool := decide (t = a + 5) && decide (T a = x) && decide (T (a + 1) = y) && decide (T (a + 2) = z) && decide (T (a + 3) = u) && decide (T (a + 4) = v)
def nlp (T : Nat → Int32) (a : Nat) : Nat → Option Int32
  | 0 => some 0
  | k + 1 => match nlp T a k with
    | none => none
    | some x => if T (a + k) < 48 ∨ 57 < T (a + k) then none else some (10 * x + T (a + k) - 48)
def nof (T : Nat → Int32) (a t d : Nat) : Int32 := if d < t - a then -1 else match nlp T a (t - a) with
  | none => -1
  | some x => x
theorem nlp_none {T : Nat → Int32} {a : Nat} : ∀ n k, k ≤ n → nlp T a k = none → nlp T a n = none := by
  intro n
  induction n with
  | zero => intro k hk h; rw [show k = 0 by omega] at h; exact h
  | succ n ih =>
    intro k hk h
    by_cases e : k = n + 1
    · rw [← e]; exact h
    · unfold nlp
      rw [ih k (by omega) h]
abbrev T11_bad (c : Int32) : Prop := c < 48 ∨ 57 < c
section M9
variable {l : Launch} {D : Dg} {b : Nat} {h : Hp} {o : Nat} {ad : Nat → Nat} {S : MS}
end M9

/-! 39.m10.lean.txt -/
theorem nl0 : nI 0 = 0 := rfl
theorem nl1 : nI 1 = 1 := rfl
theorem nl2 : nI 2 = 2 := rfl
theorem nl3 : nI 3 = 3 := rfl
theorem nl4 : nI 4 = 4 := rfl
theorem nl5 : nI 5 = 5 := rfl
theorem nl6 : nI 6 = 6 := rfl
def wk0 (T : Nat → Int32) (a t : Nat) : Int32 := if is4 T a t 82 69 83 84 then 0 else if is4 T a t 87 69 69 75 then 1 else if is3 T a t 82 79 87 then 2 else if is4 T a t 76 79 78 71 then 3 else -1
def wrd (S : MS) (st a t : Nat) : Option Nat × MS := match st with
  | 0 => (if wk0 (S.2 11) a t = -1 then none else some 1, (fup S.1 12 (wk0 (S.2 11) a t), S.2))
  | 1 => (if 1 ≤ nof (S.2 11) a t 3 ∧ nof (S.2 11) a t 3 ≤ 200 then some 2 else none, (fup S.1 13 (nof (S.2 11) a t 3), S.2))
  | 2 => (if is5 (S.2 11) a t 83 75 73 76 76 then some 3 else if is3 (S.2 11) a t 80 65 89 then some 5 else none, S)
  | 3 => (if 0 ≤ nof (S.2 11) a t 1 ∧ nof (S.2 11) a t 1 ≤ 3 then some 4 else none, (fup S.1 14 (nof (S.2 11) a t 1), S.2))
  | 4 => (if is3 (S.2 11) a t 80 65 89 then some 5 else none, S)
  | 5 => (if 0 ≤ nof (S.2 11) a t 3 ∧ nof (S.2 11) a t 3 ≤ 200 then some 6 else none, (fup S.1 15 (nof (S.2 11) a t 3), S.2))
  | _ => (none, S)
section M10
variable {l : Launch} {D : Dg} {b : Nat} {h : Hp} {o : Nat} {ad : Nat → Nat} {S : MS}
end M10

/-! 41.m11.lean.txt -/
/-- where the word at a ends -/
def wend (T : Nat → Int32) (nl a : Nat) : Nat := match fnd (fun i => decide (T (a + i) = 32)) (nl - a) with
  | none => nl
  | some i => a + i
theorem wend_ge {T : Nat → Int32} {nl a : Nat} (h : a ≤ nl) : a ≤ wend T nl a ∧ wend T nl a ≤ nl := by
  unfold wend
  split
  · exact ⟨h, Nat.le_refl _⟩
  · rename_i i hi
    have := (fnd_spec _ _ hi).1
    omega
theorem wend_gt {T : Nat → Int32} {nl a : Nat} (h : a < nl) (hT : ¬ T a = 32) : a < wend T nl a := by
  unfold wend
  split
  · exact h
  · rename_i i hi
    have h1 := (fnd_spec _ _ hi).2.1
    by_cases e : i = 0
    · subst e
      simp at h1
      exact absurd h1 hT
    · omega
def wro (nl : Nat) : Nat → Nat → Nat → MS → Int32 × MS
  | 0, _, _, S => (0, S)
  | f + 1, st, a, S => if nl ≤ a then (if st = 6 then -1 else nI nl, S) else if S.2 11 a = 32 then wro nl f st (a + 1) S else match wrd S st a (wend (S.2 11) nl a) with
    | (none, S') => (nI a, S')
    | (some st', S') => wro nl f st' (wend (S.2 11) nl a) S'
def wrg (S : MS) (nl : Nat) : Int32 × MS := wro nl (nl + 1) 0 0 (fup S.1 14 (-1), S.2)
/-- only what reading a text leaves differs -/
def tEq (S S' : MS) : Prop := S'.2 = S.2 ∧ ∀ k, (k < 12 ∨ 15 < k) → S'.1 k = S.1 k
theorem tEq.rf {S : MS} : tEq S S := ⟨rfl, fun _ _ => rfl⟩
theorem tEq.tr {S S' S'' : MS} (a : tEq S S') (c : tEq S' S'') : tEq S S'' := ⟨c.1.trans a.1, fun k hk => (c.2 k hk).trans (a.2 k hk)⟩
theorem tEq_f {S : MS} (k : Nat) (x : Int32) (h : 12 ≤ k ∧ k ≤ 15) : tEq S (fup S.1 k x, S.2) := ⟨rfl, fun j hj => by
  show fup S.1 k x j = S.1 j
  simp [fup, show j ≠ k by omega]⟩
theorem wrd_eq (S : MS) (st a t : Nat) : tEq S (wrd S st a t).2 := by
  unfold wrd
  split <;> first | exact tEq_f _ _ (by omega) | exact tEq.rf
theorem wrd_st {S : MS} {st a t st' : Nat} (h : (wrd S st a t).1 = some st') : st' ≤ 6 := by
  unfold wrd at h
  split at h <;> (repeat' split at h) <;> simp at h <;> omega
theorem wro_eq (nl : Nat) : ∀ f st a S, tEq S (wro nl f st a S).2
  | 0, _, _, _ => tEq.rf
  | f + 1, st, a, S => by
    unfold wro
    split
    · exact tEq.rf
    · split
      · exact wro_eq nl f st (a + 1) S
      · have h := wrd_eq S st a (wend (S.2 11) nl a)
        split
        · rename_i S' e
          rw [e] at h
          exact h
        · rename_i st' S' e
          rw [e] at h
          exact h.tr (wro_eq nl f st' _ S')
section M11
variable {l : Launch} {D : Dg} {b : Nat} {h : Hp} {o : Nat} {ad : Nat → Nat} {S : MS}
end M11

/-! 42.m12.lean.txt -/
theorem in_ok {k n : Nat} (h : k < n) (hn : n ≤ 2000) : decide (0 ≤ nI k ∧ nI k ≤ nI n - 1) = true := by
  have e : nI n - 1 = nI (n - 1) := nJ_sb (a := 1) (by omega)
  rw [decide_eq_true_eq, e, show (0 : Int32) = nI 0 from rfl, nJ_le (by omega) (by omega), nJ_le (by omega) (by omega)]
  omega
theorem in_ex {x : Int32} {n : Nat} (hn : n ≤ 2000) (h : 0 ≤ x ∧ x ≤ nI n - 1) : ∃ k, k < n ∧ x = nI k := by
  have h1 := Int32.le_iff_toInt_le.mp h.1
  have h2 := Int32.le_iff_toInt_le.mp h.2
  rw [Int32.toInt_zero] at h1
  by_cases hz : n = 0
  · subst hz
    have : (nI 0 - 1 : Int32).toInt = -1 := by decide
    omega
  · have e : nI n - 1 = nI (n - 1) := nJ_sb (a := 1) (by omega)
    rw [e, nI_toInt (by omega)] at h2
    refine ⟨x.toInt.toNat, by omega, ?_⟩
    apply Int32.toInt_inj.mp
    rw [nI_toInt (by omega)]
    omega
theorem in_no {x : Int32} {n : Nat} (hn : n ≤ 2000) (h : ¬ ∃ k, k < n ∧ x = nI k) : decide (0 ≤ x ∧ x ≤ nI n - 1) = false := by
  rw [decide_eq_false_iff_not]
  exact fun z => h (in_ex hn z)
theorem w8_ok {k : Nat} (h : k < 8) : decide (0 ≤ nI k ∧ nI k ≤ 7) = true := in_ok (n := 8) h (by omega)
theorem w8_no {x : Int32} (h : ¬ ∃ k, k < 8 ∧ x = nI k) : decide (0 ≤ x ∧ x ≤ 7) = false := in_no (n := 8) (by omega) h
section M12
variable {l : Launch} {D : Dg} {b : Nat} {h : Hp} {o : Nat} {ad : Nat → Nat} {S : MS}
end M12

/-! 43.m13.lean.txt -/
def m_pass (S : MS) (x : Int32) : Int32 × MS := if 1 ≤ x ∧ x ≤ 200 then (if S.1 0 + x ≤ 2000 then (S.1 0 + x, (fup (thr S 0).1 0 (S.1 0 + x), S.2)) else (0, thr S 2)) else (0, thr S 1)
def m_put (S : MS) (nl : Nat) (x : Int32) : Int32 × MS := if (65 ≤ x ∧ x ≤ 90) ∨ (48 ≤ x ∧ x ≤ 57) ∨ x = 32 then (if nl < 40 then (nI (nl + 1), (fup (thr S 0).1 10 (nI (nl + 1)), aup S.2 11 nl x)) else (0, thr S 2)) else (0, thr S 1)
def m_work (S : MS) (k : Nat) (y z : Int32) : Int32 × MS := if (0 ≤ y ∧ y ≤ 15) ∧ (0 ≤ z ∧ z ≤ 1000) then (S.2 2 k, ((thr S 0).1, aup (aup S.2 1 k y) 2 k z)) else (0, thr S 2)
def m_shift (S : MS) (n : Nat) (x y z : Int32) : Int32 × MS := if (0 ≤ x ∧ x ≤ 2000) ∧ (1 ≤ y ∧ y ≤ 16) ∧ (0 ≤ z ∧ z ≤ 3) then (if n < 40 then (nI n, (fup (thr S 0).1 3 (nI (n + 1)), aup (aup (aup (aup (aup (aup S.2 4 n x) 5 n (x + y)) 8 n x) 9 n (x + y)) 6 n z) 7 n (-1))) else (0, thr S 2)) else (0, thr S 1)
theorem nl40 {n : Nat} (h : n ≤ 40) : ((40 : Int32) ≤ nI n) = (40 ≤ n) := nJ_le (a := 40) (by omega) (by omega)
theorem nl12 {n : Nat} (h : n ≤ 12) : ((12 : Int32) ≤ nI n) = (12 ≤ n) := nJ_le (a := 12) (by omega) (by omega)
theorem narC {x : Int32} (h : 0 ≤ x ∧ x ≤ 65535) : narrow .char (.int x) = .int x := by
  have h1 := Int32.le_iff_toInt_le.mp h.1
  have h2 := Int32.le_iff_toInt_le.mp h.2
  rw [Int32.toInt_zero] at h1
  have e : (65535 : Int32).toInt = 65535 := by decide
  rw [e] at h2
  show Value.int _ = Value.int _
  congr 1
  have hx : x = nI x.toInt.toNat := by
    apply Int32.toInt_inj.mp
    rw [nI_toInt (by omega)]
    omega
  have hk : x.toInt.toNat < 65536 := by omega
  rw [hx]
  generalize x.toInt.toNat = k at hk
  unfold nI
  apply Int32.toBitVec_inj.mp
  apply BitVec.eq_of_toNat_eq
  simp
  omega
section M13
variable {l : Launch} {D : Dg} {b : Nat} {h : Hp} {o : Nat} {ad : Nat → Nat} {S : MS}
end M13

/-! 44.m14.lean.txt -/
theorem JW.cg {S S' : MS} {n nr : Nat} (w : JW S n nr) (a : S'.1 3 = S.1 3) (c : S'.1 16 = S.1 16) (e : S'.2 18 = S.2 18) : JW S' n nr := by
  unfold JW
  rw [a, c, e]
  exact w
theorem CW.cg {S S' : MS} {n nr nc : Nat} (w : CW S n nr nc) (a : S'.1 22 = S.1 22) (c : S'.2 23 = S.2 23) (e : S'.2 24 = S.2 24) (f : S'.2 25 = S.2 25) : CW S' n nr nc := by
  unfold CW cw cs cr
  rw [a, c, e, f]
  exact w
theorem gvt_1 (S : MS) (no t : Nat) (w : Int32) : (gvt S no t w).1 = S.1 := by unfold gvt clr; split <;> rfl
theorem gvt_2 (S : MS) (no t : Nat) (w : Int32) (k : Nat) (h : k ≠ 7 ∧ k ≠ 31) : (gvt S no t w).2 k = S.2 k := by
  unfold gvt clr
  split
  · funext i; simp [aup, h.1]
  · funext i; simp [aup, h.1, h.2]
/-- what judging leaves alone -/
def jE (S S' : MS) : Prop := (∀ k, k ≠ 22 → S'.1 k = S.1 k) ∧ ∀ k, (k < 23 ∨ 26 < k) → S'.2 k = S.2 k
theorem jE.rf {S : MS} : jE S S := ⟨fun _ _ => rfl, fun _ _ => rfl⟩
theorem jE.tr {S S' S'' : MS} (a : jE S S') (c : jE S' S'') : jE S S'' := ⟨fun k hk => (c.1 k hk).trans (a.1 k hk), fun k hk => (c.2 k hk).trans (a.2 k hk)⟩
theorem jE_st {S : MS} (c : Nat) (x : Int32) : jE S (S.1, aup S.2 26 c x) := ⟨fun _ _ => rfl, fun k hk => by funext i; simp [aup, show k ≠ 26 by omega]⟩
theorem jE_mk {S : MS} (nc : Nat) (a b c : Int32) : jE S (mk S nc a b c) := by
  unfold mk
  split
  · exact ⟨fun k hk => by simp [fup, hk], fun k hk => by funext i; simp [aup, show k ≠ 26 by omega, show k ≠ 25 by omega, show k ≠ 24 by omega, show k ≠ 23 by omega]⟩
  · exact jE.rf
theorem jE_lp {f : Nat → MS → MS} (hf : ∀ i S, jE S (f i S)) (S : MS) : ∀ n, jE S (lp f S n)
  | 0 => jE.rf
  | n + 1 => (jE_lp hf S n).tr (hf n _)
theorem jE_j1 {n : Nat} (S : MS) (g : Int32) : ∀ k, jE S (lp (j1 n) (S, g) k).1
  | 0 => jE.rf
  | k + 1 => by
    refine (jE_j1 (n := n) S g k).tr ?_
    show jE _ (j1 n k (lp (j1 n) (S, g) k)).1
    unfold j1
    split
    · exact jE_st _ _
    · exact jE.rf
theorem jE_jdg (S : MS) (n nr nc : Nat) : jE S (jdg S n nr nc).1 := by
  refine (jE_j1 (n := n) S 0 nc).tr (jE_lp (fun s S => jE_lp (fun r S => ?_) S nr) _ n)
  unfold j2
  split
  · split
    · exact jE_mk _ _ _ _
    · exact jE_st _ _
  · exact jE.rf
def m_hold (S : MS) (n nr nc no k : Nat) (w : Int32) (c2 : Bool) : Int32 × MS := if c2 then (S.2 7 k, (jdg (gvt (thr S 0) no k w) n nr nc).1) else (0, thr S 2)
def m_stamp (S : MS) (n nr nc k : Nat) (x y : Int32) : Int32 × MS :=
  if 0 ≤ x ∧ x ≤ S.1 0 ∧ x < y ∧ y ≤ x + 24 ∧ y ≤ S.1 0 then (if ¬ S.2 7 k = -1 ∧ S.1 0 ≤ S.2 5 k + 100 then (y - x - (S.2 5 k - S.2 4 k), (jdg ((thr S 0).1, aup (aup S.2 8 k x) 9 k y) n nr nc).1) else (0, thr S 3)) else (0, thr S 2)
def m_drop (S : MS) (n nr nc k : Nat) : Int32 × MS := if S.2 21 k = 0 then ((jdg ((thr S 0).1, aup S.2 21 k 1) n nr nc).2, (jdg ((thr S 0).1, aup S.2 21 k 1) n nr nc).1) else (0, thr S 2)
def m_pay (S : MS) (k w s r : Nat) : Int32 × MS := if S.2 26 k = 0 then ((S.2 9 s - S.2 8 s) * S.2 2 w * S.2 20 r / 100, ((thr S 0).1, aup (aup S.2 26 k 1) 27 k ((S.2 9 s - S.2 8 s) * S.2 2 w * S.2 20 r / 100))) else (0, thr S 2)
def m_take (S : MS) (k : Nat) : Int32 × MS := if S.2 26 k = 3 then (S.2 27 k, ((thr S 0).1, aup S.2 26 k 2)) else (0, thr S 2)
def m_wdr (S : MS) (no k : Nat) : Int32 × MS := if S.2 31 k = 0 then (0, thr S 2) else (cnt ((thr S 0).1, aup S.2 31 k 0) no, ((thr S 0).1, aup S.2 31 k 0))
section M14
variable {l : Launch} {D : Dg} {b : Nat} {h : Hp} {o : Nat} {ad : Nat → Nat} {S : MS}
end M14

/-! 45.m15.lean.txt -/
def m_breach (S : MS) (n nr : Nat) (w : Int32) (y : Int32) : Int32 := lp (fun s a => lp (fun r a => a + (if S.2 7 s = w ∧ S.2 8 s / 168 = y ∧ brk S n s r = true then 1 else 0)) a nr) 0 n
def m_whr (S : MS) (n : Nat) (w : Int32) : Int32 := lp (fun s a => a + (if S.2 7 s = w ∧ S.2 9 s ≤ S.1 0 then S.2 9 s - S.2 8 s else 0)) 0 n
def m_wag (S : MS) (n nc k : Nat) : Int32 := lp (fun c a => a + (if S.2 23 c = nI k ∧ (S.2 26 c = 1 ∨ S.2 26 c = 3) then S.2 27 c else 0)) (m_whr S n (nI k) * S.2 2 k) nc
section M15
variable {l : Launch} {D : Dg} {b : Nat} {h : Hp} {o : Nat} {ad : Nat → Nat} {S : MS}
end M15

/-! 46.m16.lean.txt -/
def m_offer (S : MS) (no g w : Nat) : Int32 × MS := if (¬ S.2 7 g = -1 ∧ ¬ S.2 7 w = -1 ∧ ¬ S.2 7 g = S.2 7 w ∧ S.1 0 < S.2 4 g ∧ S.1 0 < S.2 4 w) ∧ no < 40 then (nI no, (fup (thr S 0).1 28 (nI (no + 1)), aup (aup (aup S.2 29 no (nI g)) 30 no (nI w)) 31 no 1)) else (0, thr S 2)
section M16
variable {l : Launch} {D : Dg} {b : Nat} {h : Hp} {o : Nat} {ad : Nat → Nat} {S : MS}
end M16

/-! 47.m17.lean.txt -/
def acn (S : MS) (n s : Nat) : Int32 := lp (fun t a => a + b2i (ahd S t s)) 0 n
def m_sof (S : MS) (n w : Nat) (p : Int32) : Option Nat := lp (fun s f => if S.2 7 s = nI w ∧ acn S n s = p then some s else f) none n
theorem sof_lt {S : MS} {w : Nat} {p : Int32} {m : Nat} : ∀ n c, lp (fun s f => if S.2 7 s = nI w ∧ acn S m s = p then some s else f) none n = some c → c < n := by
  intro n
  induction n with
  | zero => intro c hc; simp [lp] at hc
  | succ n ih =>
    intro c hc
    simp only [lp] at hc
    split at hc
    · cases hc; omega
    · have := ih c hc; omega
theorem rgo_ok {S : MS} {no f : Nat} : ∀ k at1 acc ls, rgo S no f k at1 acc = some ls → (∀ a, at1 = some a → a < no ∧ ¬ S.2 31 a = 0) → (∀ c ∈ acc, c < no ∧ ¬ S.2 31 c = 0) → acc.length + k ≤ 8 → ls.length ≤ 8 ∧ ls ≠ [] ∧ ∀ c ∈ ls, c < no ∧ ¬ S.2 31 c = 0 := by
  intro k
  induction k with
  | zero => intro at1 acc ls h; simp [rgo] at h
  | succ k ih =>
    intro at1 acc ls h ha hacc hl
    cases at1 with
    | none => simp [rgo] at h
    | some a =>
      have hacc2 : ∀ c ∈ acc ++ [a], c < no ∧ ¬ S.2 31 c = 0 := by
        intro c hc
        rcases List.mem_append.mp hc with hc | hc
        · exact hacc c hc
        · rw [List.mem_singleton.mp hc]; exact ha a rfl
      unfold rgo at h
      split at h
      · cases h
      · split at h
        · cases h
          exact ⟨by simp; omega, by simp, hacc2⟩
        · refine ih _ _ _ h (fun d hd => ?_) hacc2 (by simp; omega)
          obtain ⟨h1, h2, -⟩ := fnd_spec _ _ hd
          simp only [Bool.and_eq_true, Bool.not_eq_true', decide_eq_false_iff_not] at h2
          exact ⟨h1, h2.1⟩
theorem fnr_ok {S : MS} {no f : Nat} {ls : List Nat} (h : fnr S no f = some ls) (hf : f < no) : ls.length ≤ 8 ∧ ls ≠ [] ∧ ∀ c ∈ ls, c < no ∧ ¬ S.2 31 c = 0 := by
  unfold fnr at h
  refine rgo_ok _ _ _ _ h (fun a ha => ?_) (fun c hc => by cases hc) (by simp)
  split at ha
  · cases ha
  · cases ha; exact ⟨hf, by assumption⟩
theorem rgo_c {S S' : MS} (h : S'.2 = S.2) (no f : Nat) : ∀ k a acc, rgo S' no f k a acc = rgo S no f k a acc := by
  obtain ⟨u, v⟩ := S'
  obtain ⟨u2, v2⟩ := S
  cases h
  intro k
  induction k with
  | zero => intro a acc; rfl
  | succ k ih =>
    intro a acc
    cases a with
    | none => rfl
    | some a =>
      unfold rgo
      rw [ih]
      rfl
theorem fnr_c {S S' : MS} (h : S'.2 = S.2) (no f : Nat) : fnr S' no f = fnr S no f := by
  unfold fnr
  rw [rgo_c h, h]
section M17
variable {l : Launch} {D : Dg} {b : Nat} {h : Hp} {o : Nat} {ad : Nat → Nat} {S : MS}
end M17

/-! 48.m18.lean.txt -/
/-- the same state with another row of the ring -/
def rset (S : MS) (x : Int32) (g : Nat → Int32) : MS := (fup S.1 32 x, fun k i => if k = 33 then g i else S.2 k i)
theorem rset_of {S S' : MS} (e : rEq S S') : S' = rset S (S'.1 32) (S'.2 33) := by
  refine Prod.ext ?_ ?_
  · funext k
    show S'.1 k = if k = 32 then S'.1 32 else S.1 k
    split
    · rename_i q; rw [q]
    · rename_i q; exact e.1 k q
  · funext k i
    show S'.2 k i = if k = 33 then S'.2 33 i else S.2 k i
    split
    · rename_i q; rw [q]
    · rename_i q; rw [e.2 k q]
theorem rset_eq (S : MS) (x : Int32) (g : Nat → Int32) : rEq S (rset S x g) := ⟨fun k hk => by show (if k = 32 then x else S.1 k) = _; rw [if_neg hk], fun k hk => by funext i; show (if k = 33 then g i else S.2 k i) = _; rw [if_neg hk]⟩
theorem rset_a (S : MS) (x : Int32) (g : Nat → Int32) (k i : Nat) (y : Int32) (hk : k ≠ 33) : ((rset S x g).1, aup (rset S x g).2 k i y) = rset (S.1, aup S.2 k i y) x g := by
  refine Prod.ext rfl ?_
  funext k' i'
  show (if k' = k ∧ i' = i then y else if k' = 33 then g i' else S.2 k' i') = if k' = 33 then g i' else (if k' = k ∧ i' = i then y else S.2 k' i')
  by_cases e : k' = 33
  · have : ¬ k' = k := fun z => hk (by rw [← z]; exact e)
    simp [this]
  · simp [e]
theorem rset_f (S : MS) (x : Int32) (g : Nat → Int32) (k : Nat) (y : Int32) (hk : k ≠ 32) : (fup (rset S x g).1 k y, (rset S x g).2) = rset (fup S.1 k y, S.2) x g := by
  refine Prod.ext ?_ rfl
  funext k'
  show (if k' = k then y else if k' = 32 then x else S.1 k') = if k' = 32 then x else if k' = k then y else S.1 k'
  by_cases e : k' = 32
  · have : ¬ k' = k := fun z => hk (by rw [← z]; exact e)
    simp [this]
  · simp [e]
theorem rset_thr (S : MS) (x : Int32) (g : Nat → Int32) (y : Int32) : thr (rset S x g) y = rset (thr S y) x g := rset_f S x g 34 y (by decide)
theorem rset_brk (S : MS) (x : Int32) (g : Nat → Int32) (n s r : Nat) : brk (rset S x g) n s r = brk S n s r := rfl
theorem rset_mk (S : MS) (x : Int32) (g : Nat → Int32) (nc : Nat) (a b c : Int32) : mk (rset S x g) nc a b c = rset (mk S nc a b c) x g := by
  unfold mk
  split
  · have e1 := rset_f S x g 22 (nI (nc + 1)) (by decide)
    have e2 := rset_a (fup S.1 22 (nI (nc + 1)), S.2) x g 23 nc a (by decide)
    rw [← e1] at e2
    have e3 := rset_a (fup S.1 22 (nI (nc + 1)), aup S.2 23 nc a) x g 24 nc b (by decide)
    rw [← e2] at e3
    have e4 := rset_a (fup S.1 22 (nI (nc + 1)), aup (aup S.2 23 nc a) 24 nc b) x g 25 nc c (by decide)
    rw [← e3] at e4
    have e5 := rset_a (fup S.1 22 (nI (nc + 1)), aup (aup (aup S.2 23 nc a) 24 nc b) 25 nc c) x g 26 nc 0 (by decide)
    rw [← e4] at e5
    exact e5
  · rfl
theorem rset_j2 (S : MS) (x : Int32) (g : Nat → Int32) (n s r : Nat) : j2 n s r (rset S x g) = rset (j2 n s r S) x g := by
  unfold j2
  rw [rset_brk]
  split
  · have e : cfo (rset S x g) (ncl (rset S x g)) ((rset S x g).2 7 s) (nI s) (nI r) = cfo S (ncl S) (S.2 7 s) (nI s) (nI r) := rfl
    rw [e]
    split
    · exact rset_mk S x g _ _ _ _
    · exact rset_a S x g 26 _ _ (by decide)
  · rfl
theorem rset_lp (x : Int32) (g : Nat → Int32) {f : Nat → MS → MS} (hf : ∀ i S, f i (rset S x g) = rset (f i S) x g) (S : MS) : ∀ n, lp f (rset S x g) n = rset (lp f S n) x g
  | 0 => rfl
  | n + 1 => by
    show f n (lp f (rset S x g) n) = rset (f n (lp f S n)) x g
    rw [rset_lp x g hf S n, hf]
theorem rset_j1 (x : Int32) (g : Nat → Int32) (n c : Nat) (S : MS) (y : Int32) : j1 n c (rset S x g, y) = (rset (j1 n c (S, y)).1 x g, (j1 n c (S, y)).2) := by
  unfold j1
  have e : jhold (rset S x g) n c = jhold S n c := rfl
  show (if (!jhold (rset S x g) n c && decide ((rset S x g).2 26 c < 2)) = true then _ else _) = _
  rw [e]
  show (if (!jhold S n c && decide (S.2 26 c < 2)) = true then _ else _) = _
  split
  · exact Prod.ext (rset_a S x g 26 c _ (by decide)) rfl
  · rfl
theorem rset_l1 (x : Int32) (g : Nat → Int32) (n : Nat) (S : MS) : ∀ nc, lp (j1 n) (rset S x g, 0) nc = (rset (lp (j1 n) (S, 0) nc).1 x g, (lp (j1 n) (S, 0) nc).2)
  | 0 => rfl
  | c + 1 => by
    show j1 n c (lp (j1 n) (rset S x g, 0) c) = _
    rw [rset_l1 x g n S c, rset_j1]
    rfl
theorem rset_jdg (S : MS) (x : Int32) (g : Nat → Int32) (n nr nc : Nat) : jdg (rset S x g) n nr nc = (rset (jdg S n nr nc).1 x g, (jdg S n nr nc).2) := by
  unfold jdg
  rw [rset_l1]
  refine Prod.ext ?_ rfl
  exact rset_lp x g (fun s S => rset_lp x g (fun r S => rset_j2 S x g n s r) S nr) _ n
theorem rset_gvt (S : MS) (x : Int32) (g : Nat → Int32) (no t : Nat) (w : Int32) : gvt (rset S x g) no t w = rset (gvt S no t w) x g := by
  unfold gvt
  have e : (rset S x g).2 7 t = S.2 7 t := rfl
  rw [e]
  split
  · exact rset_a S x g 7 t w (by decide)
  · have e2 : clr (rset S x g) (nI t) no = rset (clr S (nI t) no) x g := by
      refine Prod.ext rfl ?_
      funext j i
      by_cases e : j = 33
      · subst e
        simp [clr, rset]
      · by_cases e9 : j = 31
        · subst e9
          simp [clr, rset]
        · simp [clr, rset, e, e9]
    rw [e2]
    exact rset_a (clr S (nI t) no) x g 7 t w (by decide)
/-- the shifts of a ring, given one behind the other -/
def swl (S : MS) (no t : Nat) (w : Int32) : List Nat → MS
  | [] => gvt S no t w
  | c :: r => swl (gvt S no t w) no (wn S c) (S.2 7 (gn S c)) r
theorem rset_swl (x : Int32) (g : Nat → Int32) (no : Nat) : ∀ (ls : List Nat) (S : MS) (t : Nat) (w : Int32), swl (rset S x g) no t w ls = rset (swl S no t w ls) x g
  | [], S, t, w => rset_gvt S x g no t w
  | c :: r, S, t, w => by
    show swl (gvt (rset S x g) no t w) no (wn S c) (S.2 7 (gn S c)) r = _
    rw [rset_gvt, rset_swl x g no r]
    rfl
def m_swp (S : MS) (n nr nc no k : Nat) : Int32 × MS := match fnr S no k with
  | some (c :: r) => if csw S n (c :: r) then ((jdg (swl (thr S 0) no (wn S c) (S.2 7 (gn S c)) r) n nr nc).1.1 22 - S.1 22, (jdg (swl (thr S 0) no (wn S c) (S.2 7 (gn S c)) r) n nr nc).1) else (0, thr S 2)
  | _ => (0, thr S 2)
section M18
variable {l : Launch} {D : Dg} {b : Nat} {h : Hp} {o : Nat} {ad : Nat → Nat} {S : MS}
end M18

/-! 49.m19.lean.txt -/
/-- what is known of the words that were read -/
def Rg (st : Nat) (S : MS) : Prop := (1 ≤ st → ∃ k, k < 4 ∧ S.1 12 = nI k) ∧ (2 ≤ st → ∃ m, 1 ≤ m ∧ m ≤ 200 ∧ S.1 13 = nI m)
theorem i_rng {x : Int32} {k : Nat} (hk : k ≤ 2000) (h0 : 0 ≤ x) (h : x ≤ nI k) : ∃ m, m ≤ k ∧ x = nI m := by
  have e0 : (0 : Int32).toInt = 0 := by decide
  have h1 : 0 ≤ x.toInt := by rw [← e0]; exact Int32.le_iff_toInt_le.mp h0
  have h2 : x.toInt ≤ (nI k).toInt := Int32.le_iff_toInt_le.mp h
  rw [nI_toInt (by omega)] at h2
  refine ⟨x.toInt.toNat, by omega, ?_⟩
  apply Int32.toInt_inj.mp
  rw [nI_toInt (by omega)]
  omega
theorem wk0_rng {T : Nat → Int32} {a t : Nat} (h : ¬ wk0 T a t = -1) : ∃ k, k < 4 ∧ wk0 T a t = nI k := by
  unfold wk0 at h ⊢
  split
  · exact ⟨0, by decide, rfl⟩
  · split
    · exact ⟨1, by decide, rfl⟩
    · split
      · exact ⟨2, by decide, rfl⟩
      · split
        · exact ⟨3, by decide, rfl⟩
        · rename_i a1 a2 a3 a4
          rw [if_neg a1, if_neg a2, if_neg a3, if_neg a4] at h
          exact absurd rfl h
theorem Rg_f {S : MS} {st : Nat} {k : Nat} {x : Int32} (g : Rg st S) (hk : k ≠ 12 ∧ k ≠ 13) : Rg st (fup S.1 k x, S.2) := by
  refine ⟨fun h => ?_, fun h => ?_⟩
  · show ∃ k', k' < 4 ∧ (if 12 = k then x else S.1 12) = nI k'
    rw [if_neg (fun e => hk.1 e.symm)]; exact g.1 h
  · show ∃ m, 1 ≤ m ∧ m ≤ 200 ∧ (if 13 = k then x else S.1 13) = nI m
    rw [if_neg (fun e => hk.2 e.symm)]; exact g.2 h
theorem Rg_wrd {S : MS} {st a t st' : Nat} (g : Rg st S) (h : (wrd S st a t).1 = some st') : Rg st' (wrd S st a t).2 := by
  match st with
  | 0 =>
    simp only [wrd] at h ⊢
    split at h
    · cases h
    · rename_i q
      cases h
      exact ⟨fun _ => wk0_rng q, fun z => absurd z (by decide)⟩
  | 1 =>
    simp only [wrd] at h ⊢
    split at h
    · rename_i q
      cases h
      refine ⟨fun _ => g.1 (by decide), fun _ => ?_⟩
      obtain ⟨m, h1, h2⟩ := i_rng (k := 200) (by decide) (Int32.le_trans (by decide) q.1) q.2
      refine ⟨m, ?_, h1, h2⟩
      cases m with
      | zero => rw [h2] at q; exact absurd q.1 (by decide)
      | succ m => omega
    · cases h
  | 2 =>
    simp only [wrd] at h ⊢
    exact ⟨fun _ => g.1 (by decide), fun _ => g.2 (by decide)⟩
  | 3 => exact Rg_f ⟨fun _ => g.1 (by decide), fun _ => g.2 (by decide)⟩ (by decide)
  | 4 => exact ⟨fun _ => g.1 (by decide), fun _ => g.2 (by decide)⟩
  | 5 => exact Rg_f ⟨fun _ => g.1 (by decide), fun _ => g.2 (by decide)⟩ (by decide)
  | s + 6 => cases h
theorem Rg_wro (nl : Nat) (hnl : nl ≤ 40) : ∀ f st a S, nl + 1 ≤ a + f → a ≤ nl → Rg st S → (wro nl f st a S).1 = -1 → Rg 6 (wro nl f st a S).2
  | 0, _, a, _, h, h2, _, _ => absurd h (by omega)
  | f + 1, st, a, S, h, h2, g, e => by
    unfold wro at e ⊢
    split
    · rename_i q
      rw [if_pos q] at e
      have e : (if st = 6 then (-1 : Int32) else nI nl) = -1 := e
      split at e
      · rename_i q2
        subst q2
        exact g
      · have := nI_m1 (k := nl)
        by_cases q3 : nl < 40
        · rw [nI_m1 q3] at e; exact e.elim
        · have : nl = 40 := by omega
          subst this
          exact absurd e (by decide)
    · rename_i q
      rw [if_neg q] at e
      split
      · rename_i q2
        rw [if_pos q2] at e
        exact Rg_wro nl hnl f st (a + 1) S (by omega) (by omega) g e
      · rename_i q2
        rw [if_neg q2] at e
        have h9 := wend_gt (T := S.2 11) (show a < nl by omega) q2
        have h8 := wend_ge (T := S.2 11) (show a ≤ nl by omega)
        split
        · rename_i S' e2
          rw [e2] at e
          have e : nI a = -1 := e
          rw [nI_m1 (by omega)] at e
          exact e.elim
        · rename_i st' S' e2
          rw [e2] at e
          have g2 := Rg_wrd (st' := st') g (by rw [e2])
          rw [e2] at g2
          exact Rg_wro nl hnl f st' _ S' (by omega) (by omega) g2 e
theorem Rg_wrg {S : MS} {nl : Nat} (hnl : nl ≤ 40) (e : (wrg S nl).1 = -1) : Rg 6 (wrg S nl).2 :=
  Rg_wro nl hnl (nl + 1) 0 0 _ (by omega) (by omega) ⟨fun z => absurd z (by decide), fun z => absurd z (by decide)⟩ e
/-- a rule is put down -/
def m_rul (S1 : MS) (nr : Nat) : MS := (fup (fup (thr S1 0).1 16 (nI (nr + 1))) 10 0, aup (aup (aup (aup S1.2 17 nr (S1.1 12)) 18 nr (S1.1 13)) 19 nr (S1.1 14)) 20 nr (S1.1 15))
def m_read (S : MS) (n nr nc nl : Nat) : Int32 × MS := if (wrg S nl).1 = -1 then (if nr < 12 then (nI nr, (jdg (m_rul (wrg S nl).2 nr) n (nr + 1) nc).1) else (0, thr (wrg S nl).2 2)) else (0, thr (wrg S nl).2 1)
theorem JW.rul {S : MS} {n nr nl : Nat} (w : JW S n nr) (hnl : nl ≤ 40) (h : nr < 12) (e : (wrg S nl).1 = -1) : JW (m_rul (wrg S nl).2 nr) n (nr + 1) := by
  have g := Rg_wrg hnl e
  have t := wro_eq nl (nl + 1) 0 0 (fup S.1 14 (-1), S.2)
  refine ⟨?_, w.2.1, ?_, by omega, fun r hr => ?_⟩
  · have := t.2 3 (by omega)
    show (wrg S nl).2.1 3 = nI n
    rw [← w.1]
    exact this
  · rfl
  · show ∃ m, m ≤ 200 ∧ aup (aup (aup (aup (wrg S nl).2.2 17 nr ((wrg S nl).2.1 12)) 18 nr ((wrg S nl).2.1 13)) 19 nr ((wrg S nl).2.1 14)) 20 nr ((wrg S nl).2.1 15) 18 r = nI m
    have es : (wrg S nl).2.2 = S.2 := t.1
    rw [es]
    obtain ⟨m, -, h1, h2⟩ := g.2 (by decide)
    by_cases e9 : r = nr
    · subst e9
      exact ⟨m, h1, by simp [aup, h2]⟩
    · obtain ⟨m', h3, h4⟩ := w.2.2.2.2 r (by omega)
      exact ⟨m', h3, by simp [aup, e9, h4]⟩
theorem CW.rul {S : MS} {n nr nc nl : Nat} (w : CW S n nr nc) : CW (m_rul (wrg S nl).2 nr) n (nr + 1) nc := by
  have t := wro_eq nl (nl + 1) 0 0 (fup S.1 14 (-1), S.2)
  refine ⟨?_, w.2.1, fun c hc => ?_⟩
  · have := t.2 22 (by omega)
    show (wrg S nl).2.1 22 = nI nc
    rw [← w.1]
    exact this
  · obtain ⟨a1, a2, a3, a4⟩ := w.2.2 c hc
    have es : (wrg S nl).2.2 = S.2 := t.1
    have a3 : cr S c < nr + 1 := by omega
    refine ⟨?_, ?_, ?_, ?_⟩
    · simpa [cw, m_rul, aup, es] using a1
    · simpa [cs, m_rul, aup, es] using a2
    · simpa [cr, m_rul, aup, es] using a3
    · simpa [cw, cs, cr, m_rul, aup, es] using a4
section M19
variable {l : Launch} {D : Dg} {b : Nat} {h : Hp} {o : Nat} {ad : Nat → Nat} {S : MS}
end M19

/-! 50.rows.lean.txt -/
theorem wsG_at (i : Nat) {w : Cond} (h : lw_tbl[i]? = some w) (g : goodWord w = true) : w ∈ wsG := wsG_in i h g
/-- the words of a throw: good ones of the tables, or such as are known -/
def thrOk (E : String) (w : Cond) : Bool := (decide (w ∈ lw_tbl) && goodWord w) || decide (w = .castable E E) || decide (w ∈ ["java/lang/RuntimeException", "java/lang/Exception", "java/lang/Throwable"].map fun y => Cond.declares (Bundle.initS y))
theorem thr_in {D : Dg} {b : Nat} {E : String} {args : Array Value} {s : State} {L : List Cond} (hG : L.all (thrOk E) = true) (hE : E ∈ ["java/lang/IllegalArgumentException", "java/lang/IllegalStateException", "java/lang/IndexOutOfBoundsException"]) (hts : ∀ w ∈ wsG, w.before args s = true) (hKn : Kn D b s s.heap) : ∀ w ∈ L, w.before args s = true ∧ vx_ot w = true := by
  intro w hw
  have h9 := List.all_eq_true.mp hG w hw
  simp only [thrOk, Bool.or_eq_true, Bool.and_eq_true, decide_eq_true_eq] at h9
  rcases h9 with (⟨h1, h2⟩ | h1) | h1
  · exact ⟨hts w (List.mem_filter.mpr ⟨h1, h2⟩), by simp only [vx_ot, h2, Bool.or_true]⟩
  · subst h1
    exact ⟨va_Nw.use rfl (hKn.2.2.2.2.2.2.2.2.2.2.1 E hE), rfl⟩
  · obtain ⟨y, hy, rfl⟩ := List.mem_map.mp h1
    exact ⟨va_Nw.use rfl (hKn.2.2.2.2.2.2.2.2.2.2.2 y hy), rfl⟩
section VNEW
variable {p : Program} {l : Launch} {e : Env} {R : Room} {s : State} {m : MethodId} {args : Array Value} {below : List Frame} {meth : Method} {c : Code} {D : Dg} {b : Nat} {P : Option Value → Hp → Prop} {X : String → Hp → Prop} {mc ms : Nat}
variable {own nm : String} {cc : ByteArray} {nL d : Nat} {rt : Option FieldType} {tb : List ExceptionTableEntry} {h : Hp} {cs ss pc : Nat} {L : List (Option Value)} {st rest : List Value}
theorem Rel.fresh {H : Heap} (hR : Rel D b h H) : h.1 H.size = none := by
  cases q : h.1 H.size with
  | none => rfl
  | some κ => exact absurd (hR.lt q) (Nat.lt_irrefl _)
theorem v_oinit (K : Ok ((p, l, e, R), (s, m, args, below), (meth, c, D, b), (P, X, mc, ms)) own cc nL rt nm d tb) {idx a : Nat} (hw : Cond.methodLink own idx Lib.objectInit ∈ wsG) (hL : L.length = nL) (hcat : (rest.map fun v => v.category).sum ≤ 8) (h1 : 1 ≤ d) (hd : decode cc pc = .ok (.invokespecial idx, 3))
    (kk : V ((p, l, e, R), (s, m, args, below), (meth, c, D, b), (P, X, mc, ms)) h cs ss (pc + 3) L rest) : V ((p, l, e, R), (s, m, args, below), (meth, c, D, b), (P, X, mc, ms)) h cs ss pc L (.ref a :: rest) := by
  obtain ⟨hx, hb, hml, hown, hts, hr, hlk, hnm, hKn, hbs, hR0, hfl, hxt⟩ := K
  have hR0' : R = rmD d mc ms := hR0
  intro H locs ls hR hS hLs
  have w2 : Cond.instanceMethod Lib.objectInit ∈ wsG := List.mem_filter.mpr ⟨by decide +kernel, by decide +kernel⟩
  have w3 : Cond.code Lib.objectInit { data := #[177] } 1 none ∈ wsG := List.mem_filter.mpr ⟨by decide +kernel, by decide +kernel⟩
  exact W.objInit hx hb hown (hts _ hw) (hts _ w2) (hts _ w3) rfl ((hLs.1.trans hL).trans hml.symm) rfl hd (by rw [hR0']; exact h1) (by rw [hR0']; show 2 * 0 + (rest.map fun v => v.category).sum + 12 ≤ 35 * d; omega) (kk H locs ls hR hS hLs)
theorem v_new (K : Ok ((p, l, e, R), (s, m, args, below), (meth, c, D, b), (P, X, mc, ms)) own cc nL rt nm d tb) {idx ci : Nat} {r : vw_C} (hc : vcl[ci]? = some r) (w1 : Cond.classLink own idx r.1 ∈ wsG) (w2 : Cond.instantiable r.1 r.2.2 ∈ wsG) (w3 : Cond.initialized r.1 ∈ wsG) (hroom : cs + 1 ≤ mc ∧ ss + r.2.2 ≤ ms) (hd : decode cc pc = .ok (.new idx, 3))
    (kk : ∀ q, h.1 q = none → b ≤ q → V ((p, l, e, R), (s, m, args, below), (meth, c, D, b), (P, X, mc, ms)) (kup h.1 q (.inl ci), rup h.2 q (fun k => defaultValue (vft ci k))) (cs + 1) (ss + r.2.2) (pc + 3) L (.ref q :: st)) : V ((p, l, e, R), (s, m, args, below), (meth, c, D, b), (P, X, mc, ms)) h cs ss pc L st := by
  obtain ⟨hx, hb, hml, hown, hts, hr, hlk, hnm, hKn, hbs, hR0, hfl, hxt⟩ := K
  have hR0' : R = rmD d mc ms := hR0
  intro H locs ls hR hS hLs
  have hK := hKn.1.1 ci r hc
  have hbH : b ≤ H.size := Nat.le_trans hbs hS.1
  refine W.newcK hx hb hown (hts _ w1) (hts _ w2) (hts _ w3) rfl hd (by rw [hR0']; exact hroom.1) (by rw [hR0']; exact hroom.2) hK.2.1 rfl fun H1 kC hkC e1 z1 o1 => ?_
  exact kk H.size hR.fresh hbH H1 locs ls (hR.new hbH ⟨r, hc, u_born (vft ci) hts (vcl_in hc) hK hkC e1 (vft_ok hc)⟩ o1) ⟨Nat.le_trans hS.1 (by omega), fun x h1 h2 => (o1 x (Nat.lt_of_lt_of_le h1 hS.1)).trans (hS.2.1 x h1 h2), hS.2.2⟩ hLs
theorem v_newa (K : Ok ((p, l, e, R), (s, m, args, below), (meth, c, D, b), (P, X, mc, ms)) own cc nL rt nm d tb) {atype : ArrayType} (t : Nat) (ht : t = 0 ∨ t = 2) (hty : newarray.typeOf atype = vty t) (harr : Cond.arrayClass (vty t) ∈ wsG) {n : Int32} {N : Nat} (hn : ¬ n < 0) (hN : n.toNatClampNeg = N) (hN2 : N ≤ 2048) (hroom : cs + 1 ≤ mc ∧ ss + N ≤ ms) (hd : decode cc pc = .ok (.newarray atype, 2))
    (kk : ∀ q, h.1 q = none → b ≤ q → V ((p, l, e, R), (s, m, args, below), (meth, c, D, b), (P, X, mc, ms)) (kup h.1 q (.inr (t, N)), rup h.2 q (fun _ => defaultValue (vty t))) (cs + 1) (ss + N) (pc + 2) L (.ref q :: rest)) : V ((p, l, e, R), (s, m, args, below), (meth, c, D, b), (P, X, mc, ms)) h cs ss pc L (.int n :: rest) := by
  obtain ⟨hx, hb, hml, hown, hts, hr, hlk, hnm, hKn, hbs, hR0, hfl, hxt⟩ := K
  have hR0' : R = rmD d mc ms := hR0
  intro H locs ls hR hS hLs
  have hbH : b ≤ H.size := Nat.le_trans hbs hS.1
  rw [← hty] at harr
  refine va_newaK (atype := atype) hx hb (hts _ harr) rfl hd rfl hn hN ?_ (by rw [hR0']; exact hroom.1) (by rw [hR0']; exact hroom.2) rfl fun H1 cA e1 z1 o1 hAr hNm => ?_
  · have : componentBytes (newarray.typeOf atype) ≤ 8 := by cases atype <;> decide
    exact Nat.le_trans (Nat.mul_le_mul hN2 this) (by decide)
  · rw [hty] at hAr hNm e1
    have h4 := (hKn.1.2 t _ (vtl_at D.2 (by omega))).2
    have hcA : cA = D.2 t := by
      rcases ht with rfl | rfl
      · exact Option.some.inj (hNm.symm.trans h4)
      · exact Option.some.inj (hNm.symm.trans h4)
    subst hcA
    exact kk H.size hR.fresh hbH H1 locs ls (hR.new hbH ⟨by omega, e1⟩ o1) ⟨Nat.le_trans hS.1 (by omega), fun x h1 h2 => (o1 x (Nat.lt_of_lt_of_le h1 hS.1)).trans (hS.2.1 x h1 h2), hS.2.2⟩ hLs
theorem v_newq (K : Ok ((p, l, e, R), (s, m, args, below), (meth, c, D, b), (P, X, mc, ms)) own cc nL rt nm d tb) (t : Nat) (ht : 4 ≤ t ∧ t < 9) {idx : Nat} {r : vw_C} (hc : vcl[vec t]? = some r) (w1 : Cond.classLink own idx r.1 ∈ wsG) (w2 : r.1 ∈ ["UnionClock$Worker", "UnionClock$Shift", "UnionClock$Rule", "UnionClock$Claim", "UnionClock$Offer"]) {n : Int32} {N : Nat} (hn : ¬ n < 0) (hN : n.toNatClampNeg = N) (hN2 : N ≤ 2048) (hroom : cs + 1 ≤ mc ∧ ss + N ≤ ms) (hd : decode cc pc = .ok (.anewarray idx, 3))
    (kk : ∀ q, h.1 q = none → b ≤ q → V ((p, l, e, R), (s, m, args, below), (meth, c, D, b), (P, X, mc, ms)) (kup h.1 q (.inr (t, N)), rup h.2 q (fun _ => .null)) (cs + 1) (ss + N) (pc + 3) L (.ref q :: rest)) : V ((p, l, e, R), (s, m, args, below), (meth, c, D, b), (P, X, mc, ms)) h cs ss pc L (.int n :: rest) := by
  obtain ⟨hx, hb, hml, hown, hts, hr, hlk, hnm, hKn, hbs, hR0, hfl, hxt⟩ := K
  have hR0' : R = rmD d mc ms := hR0
  intro H locs ls hR hS hLs
  have hbH : b ≤ H.size := Nat.le_trans hbs hS.1
  subst hN
  refine W.anew hx hb hown (hts _ w1) (va_AO.use (hKn.2.2.2.2.2.2.2.1 _ w2)) rfl hd rfl hn (Nat.le_trans (Nat.mul_le_mul_right 4 hN2) (by decide)) (by rw [hR0']; exact hroom.1) (by rw [hR0']; exact hroom.2) fun cA kA comp f1 f2 f3 f4 => ?_
  generalize hH1 : H.push ({ cls := cA, slots := Array.replicate n.toNatClampNeg .null, vm := .none } : Cell) = H1
  have z1 : H1.size = H.size + 1 := by rw [← hH1, Array.size_push]
  have e1 : H1[H.size]? = some (arrV cA n.toNatClampNeg (fun _ => .null)) := by rw [← hH1, Array.getElem?_push_size, ← arrV_new]
  have o1 : ∀ q : Nat, q < H.size → H1[q]? = H[q]? := fun q hq => by rw [← hH1, Array.getElem?_push, if_neg (Nat.ne_of_lt hq)]
  obtain ⟨r9, hr9, hv9⟩ := v_vec ht.1 ht.2
  have er : r9 = r := Option.some.inj (hr9.symm.trans hc)
  subst er
  have h4 := (hKn.1.2 t _ (vtl_at D.2 (by omega))).2
  rw [hv9] at h4
  obtain ⟨kA9, comp9, g1, g2, g3, g4⟩ := h4
  have hcA : cA = D.2 t := Option.some.inj (f1.symm.trans g4)
  subst hcA
  exact kk H.size hR.fresh hbH H1 locs ls (hR.new hbH ⟨by omega, e1⟩ o1) ⟨Nat.le_trans hS.1 (by omega), fun x h1 h2 => (o1 x (Nat.lt_of_lt_of_le h1 hS.1)).trans (hS.2.1 x h1 h2), hS.2.2⟩ hLs
/-- 'throw new E(text)' -/
theorem v_thr (K : Ok ((p, l, e, R), (s, m, args, below), (meth, c, D, b), (P, X, mc, ms)) own cc nL rt nm d []) {cls : String} {ik is ic : Nat} (z : String × Nat × String × Nat) (hz : z ∈ strC) (hzo : z.1 = own ∧ z.2.1 = is) (hcls : Bundle.fit cls = true) (hE : cls ∈ ["java/lang/IllegalArgumentException", "java/lang/IllegalStateException", "java/lang/IndexOutOfBoundsException"]) (hG : (Cond.classLink own ik cls :: Cond.initialized cls :: vx_atS own ic cls ["java/lang/RuntimeException", "java/lang/Exception"]).all (thrOk cls) = true)
    (d0 : decode cc pc = .ok (.new ik, 3)) (d3 : decode cc (pc + 3) = .ok (.dup, 1)) (d4 : decode cc (pc + 4) = .ok (.ldc is, 2)) (d6 : decode cc (pc + 6) = .ok (.invokespecial ic, 3)) (d9 : decode cc (pc + 9) = .ok (.athrow, 1)) (hL : L.length = nL) (hcat : (st.map fun v => v.category).sum ≤ 8) (hdd : 6 ≤ d) (hroom : cs + 1 ≤ mc ∧ ss + 6 ≤ ms) (hX : X cls h) :
    V ((p, l, e, R), (s, m, args, below), (meth, c, D, b), (P, X, mc, ms)) h cs ss pc L st := by
  obtain ⟨hx, hb, hml, hown, hts, hr, hlk, hnm, hKn, hbs, hR0, hfl, hxt⟩ := K
  have hR0' : R = rmD d mc ms := hR0
  intro H locs ls hR hS hLs
  have hl : l.stackTraces = false := by
    have hfl : l.flags = flags0 := hfl
    simp only [Launch.stackTraces, hfl]
    decide
  have hall := thr_in hG hE hts hKn
  have hstr : vk_R own is z.2.2.1 (D.2 (9 + z.2.2.2)) s := by
    have := hKn.2.2.2.1 z hz
    rw [hzo.1, hzo.2] at this
    exact this
  refine vx_throwS hx hb hl (own := own) (cls := cls) (names := ["java/lang/RuntimeException", "java/lang/Exception"]) hown hcls (by decide) (hall _ (by simp)).1 (hall _ (by simp)).1 hstr (fun w hw => (hall _ (by simp [hw])).1) (fun w hw => (hall _ hw).2) hKn.2.1 hKn.2.2.1 hS ((hLs.1.trans hL).trans hml.symm) d0 d3 d4 d6 d9 (by rw [hxt]; exact fun x hx => nomatch hx) (by rw [hR0']; show 2 + 3 < d; omega) (by rw [hR0']; show (st.map fun v => v.category).sum + (13 * (2 + 1) + 43) ≤ 35 * d; omega) (by rw [hR0']; exact hroom.1) (by rw [hR0']; exact hroom.2) hlk (fun t _ h1 h2 => ?_) hS.2.2 hroom.1 hroom.2
  refine ⟨h, hX, fun a κ ha => ?_, Nat.le_trans hS.1 h1, fun q hq => ?_⟩
  · have h3 := hR a κ ha
    exact ⟨h3.1, h3.2.kept (h2 a h3.2.lt)⟩
  · have hq2 : q < s.heap.size := Nat.lt_of_lt_of_le hq hbs
    exact (h2 q (Nat.lt_of_lt_of_le hq2 hS.1)).trans (hS.2.1 q hq2 (Nat.not_le.mpr hq))
theorem v_ldc (K : Ok ((p, l, e, R), (s, m, args, below), (meth, c, D, b), (P, X, mc, ms)) own cc nL rt nm d tb) {is : Nat} (z : String × Nat × String × Nat) (hz : z ∈ strC) (hzo : z.1 = own ∧ z.2.1 = is) (hd : decode cc pc = .ok (.ldc is, 2))
    (kk : V ((p, l, e, R), (s, m, args, below), (meth, c, D, b), (P, X, mc, ms)) h cs ss (pc + 2) L (.ref (D.2 (9 + z.2.2.2)) :: st)) : V ((p, l, e, R), (s, m, args, below), (meth, c, D, b), (P, X, mc, ms)) h cs ss pc L st := by
  obtain ⟨hx, hb, hml, hown, hts, hr, hlk, hnm, hKn, hbs, hR0, hfl, hxt⟩ := K
  intro H locs ls hR hS hLs
  have hstr : vk_R own is z.2.2.1 (D.2 (9 + z.2.2.2)) s := by
    have := hKn.2.2.2.1 z hz
    rw [hzo.1, hzo.2] at this
    exact this
  exact va_ldcS hx hb hown hstr hd (kk H locs ls hR hS hLs)
end VNEW

