section BASE
variable {L : List (Option Value)} {v : Value} {o : Option Value} {x : Int32} {a k : Nat}
theorem lgt_0 : lgt (some v :: L) 0 = v := rfl
theorem lgt_s : lgt (o :: L) (k + 1) = lgt L k := by simp [lgt]
theorem lhas_0 : lhas (some v :: L) 0 = True := rfl
theorem lhas_s : lhas (o :: L) (k + 1) = lhas L k := by simp [lhas]
theorem isI_i : isI (.int x) = True := rfl
theorem isRf_r : isRf (.ref a) = True := rfl
theorem isRf_n : isRf .null = True := rfl
theorem inc_i (z : Int) : inc (.int x) z = .int (x + Int32.ofInt z) := rfl
theorem of1 : Int32.ofInt 1 = 1 := rfl
theorem ofm1 : Int32.ofInt (-1) = -1 := rfl
theorem rokI_i : rokI (some .int) x = True := by simp [rokI, narrow]
theorem rokI_0 : rokI (some .boolean) 0 = True := by simp [rokI, narrow]
theorem rokI_1 : rokI (some .boolean) 1 = True := by simp [rokI, narrow]
theorem okv_i : okv .int (.int x) = True := by simp [okv, narrow, fits]
theorem okv_z0 : okv .boolean (.int 0) = True := by simp [okv, narrow, fits]
theorem okv_z1 : okv .boolean (.int 1) = True := by simp [okv, narrow, fits]
theorem okv_or (C : String) : okv (.object C) (.ref a) = True := by simp [okv, narrow, fits]
theorem okv_on (C : String) : okv (.object C) .null = True := by simp [okv, narrow, fits]
theorem okv_ar (t : FieldType) : okv (.array t) (.ref a) = True := by simp [okv, narrow, fits]
theorem isA_s (t n : Nat) (c : Nat → Nat → Prop) : isA (some (.inr (t, n))) c = c t n := rfl
theorem alen_s (t n : Nat) : alen (some (.inr (t, n))) = n := rfl
theorem cat_i : (Value.int x).category = 1 := rfl
theorem cat_r : (Value.ref a).category = 1 := rfl
theorem cat_n : Value.null.category = 1 := rfl
/-- a truth value as the machine has it -/
def b2i (c : Bool) : Int32 := if c then 1 else 0
theorem b2i_t : b2i true = 1 := rfl
theorem b2i_f : b2i false = 0 := rfl
theorem rokI_b (c : Bool) : rokI (some .boolean) (b2i c) = True := by cases c <;> simp [rokI, narrow, b2i]
theorem okv_b (c : Bool) : okv .boolean (.int (b2i c)) = True := by cases c <;> simp [okv, narrow, fits, b2i]
theorem narB (c : Bool) : narrow .boolean (.int (b2i c)) = .int (b2i c) := by cases c <;> simp [narrow, b2i]
theorem b2i_0 (c : Bool) : (b2i c = 0) = (c = false) := by cases c <;> simp [b2i]
theorem b2i_1 (c : Bool) : (b2i c = 1) = (c = true) := by cases c <;> simp [b2i]
theorem b2i_inj (c d : Bool) : (b2i c = b2i d) = (c = d) := by cases c <;> cases d <;> simp [b2i]
end BASE
section FIN
variable {p : Program} {l : Launch} {e : Env} {R : Room} {s : State} {m : MethodId} {args : Array Value} {below : List Frame} {meth : Method} {c : Code} {D : Dg} {b : Nat} {P : Option Value → Hp → Prop} {X : String → Hp → Prop} {mc ms : Nat}
theorem finC_s (v : Option Value) (h : Hp) (cs ss : Nat) : finC ((p, l, e, R), (s, m, args, below), (meth, c, D, b), (P, X, mc, ms)) v h cs ss = (P v h ∧ cs ≤ mc ∧ ss ≤ ms) := rfl
end FIN
theorem vpin {s n : Nat} (h : s < n) (hn : n ≤ 2048) : vp_in (nI s) n := vp_in_nI h (by omega)
theorem nIc {s : Nat} (h : s < 2048) : (nI s).toNatClampNeg = s := nI_clamp (by omega)
theorem nJ_le {a c : Nat} (h : a < 2048) (h2 : c < 2048) : (nI a ≤ nI c) = (a ≤ c) := by
  apply propext
  rw [Int32.le_iff_toInt_le, nI_toInt (by omega), nI_toInt (by omega)]; omega
theorem nJ_lt {a c : Nat} (h : a < 2048) (h2 : c < 2048) : (nI a < nI c) = (a < c) := by
  apply propext
  rw [Int32.lt_iff_toInt_lt, nI_toInt (by omega), nI_toInt (by omega)]; omega
theorem nJ_eq {a c : Nat} (h : a < 2048) (h2 : c < 2048) : (nI a = nI c) = (a = c) := by
  apply propext
  constructor
  · intro e
    have e1 := congrArg Int32.toInt e
    rw [nI_toInt (by omega), nI_toInt (by omega)] at e1
    omega
  · intro e; rw [e]
theorem nI_p1 (a : Nat) : nI a + 1 = nI (a + 1) := (nI_succ a).symm
theorem pl7 : plainName RX7 = true := by decide +kernel
/-- a counted fold, and the loop that makes it -/
def lp {α : Type} (f : Nat → α → α) (a : α) : Nat → α
  | 0 => a
  | n + 1 => f n (lp f a n)
theorem v_loop {α : Type} {G : Nat → α → Prop} (n : Nat) (f : Nat → α → α) (a : α) (hexit : G n (lp f a n)) (hstep : ∀ i, i < n → G (i + 1) (f i (lp f a i)) → G i (lp f a i)) : G 0 a := by
  have key : ∀ k i, i + k = n → G i (lp f a i) := by
    intro k
    induction k with
    | zero => intro i hi; rw [show i = n by omega]; exact hexit
    | succ k ih => intro i hi; exact hstep i (by omega) (ih (i + 1) (by omega))
  exact key n 0 (by omega)
abbrev rv (v : Value) (h : Hp) : Option Value → Hp → Prop := fun r h' => r = some v ∧ h' = h
abbrev nox : String → Hp → Prop := fun _ _ => False
def fup (f : Nat → Int32) (k : Nat) (x : Int32) : Nat → Int32 := fun j => if j = k then x else f j
def aup (f : Nat → Nat → Int32) (k i : Nat) (x : Int32) : Nat → Nat → Int32 := fun k' i' => if k' = k ∧ i' = i then x else f k' i'
theorem MRel.nn {o : Nat} {ad : Nat → Nat} {S : MS} {h : Hp} (m : MRel o ad S h) (k : Nat) (hk : (mlen k).isSome = true) : (o = ad k) = False := by
  apply propext
  refine ⟨fun e => ?_, fun z => z.elim⟩
  obtain ⟨q, hq⟩ := Option.isSome_iff_exists.mp hk
  have h1 := (m.2.2.1 k q hq).2.1
  rw [← e, m.1] at h1
  cases h1
theorem MRel.nn' {o : Nat} {ad : Nat → Nat} {S : MS} {h : Hp} (m : MRel o ad S h) (k : Nat) (hk : (mlen k).isSome = true) : (ad k = o) = False := by
  rw [← m.nn k hk]; exact propext ⟨Eq.symm, Eq.symm⟩
theorem MRel.aa {o : Nat} {ad : Nat → Nat} {S : MS} {h : Hp} (m : MRel o ad S h) (j k : Nat) (hj : (mlen j).isSome = true) (hk : (mlen k).isSome = true) : (ad j = ad k) = (j = k) := by
  apply propext
  refine ⟨fun e => m.2.2.2 j k (fun z => by rw [z] at hj; cases hj) (fun z => by rw [z] at hk; cases hk) e, fun e => by rw [e]⟩
/-- the addresses of the reference's own cells -/
def mown (o : Nat) (ad : Nat → Nat) (a : Nat) : Prop := a = o ∨ ∃ k, (mlen k).isSome = true ∧ a = ad k
def MTo (o : Nat) (ad : Nat → Nat) (S' : MS) (h h' : Hp) : Prop := MRel o ad S' h' ∧ h'.1 = h.1 ∧ ∀ a, ¬ mown o ad a → h'.2 a = h.2 a
theorem MTo.rf {o : Nat} {ad : Nat → Nat} {S : MS} {h : Hp} (m : MRel o ad S h) : MTo o ad S h h := ⟨m, rfl, fun _ _ => rfl⟩
theorem MTo.tr {o : Nat} {ad : Nat → Nat} {S S' : MS} {h h' h'' : Hp} (a : MTo o ad S h h') (c : MTo o ad S' h' h'') : MTo o ad S' h h'' := ⟨c.1, c.2.1.trans a.2.1, fun x hx => (c.2.2 x hx).trans (a.2.2 x hx)⟩
theorem MTo.setf {o : Nat} {ad : Nat → Nat} {S : MS} {h0 h : Hp} (t : MTo o ad S h0 h) (k : Nat) (x : Int32) (hk : mlen k = none) : MTo o ad (fup S.1 k x, S.2) h0 (h.1, hup h.2 o k (.int x)) := by
  have m := t.1
  refine ⟨⟨m.1, fun j hj hm => ?_, fun j q hq => ?_, m.2.2.2⟩, t.2.1, fun a ha => ?_⟩
  · show hup h.2 o k (.int x) o j = .int (fup S.1 k x j)
    by_cases e : j = k
    · simp [hup, fup, e]
    · simp [hup, fup, e]; exact m.2.1 j hj hm
  · obtain ⟨a1, a2, a3⟩ := m.2.2.1 j q hq
    have hne : j ≠ k := fun e => by rw [e, hk] at hq; cases hq
    have hna : ¬ ad j = o := fun e => by rw [m.nn' j (by rw [hq]; rfl)] at e; exact e
    refine ⟨?_, a2, fun i hi => ?_⟩
    · show hup h.2 o k (.int x) o j = _
      simp [hup, hne]; exact a1
    · show hup h.2 o k (.int x) (ad j) i = _
      simp [hup, hna]; exact a3 i hi
  · show hup h.2 o k (.int x) a = h0.2 a
    have hne : a ≠ o := fun e => ha (Or.inl e)
    rw [hup_ne _ _ hne]
    exact t.2.2 a ha
theorem MTo.seta {o : Nat} {ad : Nat → Nat} {S : MS} {h0 h : Hp} (t : MTo o ad S h0 h) (k i : Nat) (x : Int32) (hk : (mlen k).isSome = true) : MTo o ad (S.1, aup S.2 k i x) h0 (h.1, hup h.2 (ad k) i (.int x)) := by
  have m := t.1
  refine ⟨⟨m.1, fun j hj hm => ?_, fun j q hq => ?_, m.2.2.2⟩, t.2.1, fun a ha => ?_⟩
  · show hup h.2 (ad k) i (.int x) o j = _
    have hna : ¬ o = ad k := fun e => by rw [m.nn k hk] at e; exact e
    simp [hup, hna]; exact m.2.1 j hj hm
  · obtain ⟨a1, a2, a3⟩ := m.2.2.1 j q hq
    have hna : ¬ o = ad k := fun e => by rw [m.nn k hk] at e; exact e
    refine ⟨?_, a2, fun z hz => ?_⟩
    · show hup h.2 (ad k) i (.int x) o j = _
      simp [hup, hna]; exact a1
    · show hup h.2 (ad k) i (.int x) (ad j) z = .int (aup S.2 k i x j z)
      have e1 := m.aa j k (by rw [hq]; rfl) hk
      by_cases e : j = k
      · subst e
        by_cases e2 : z = i
        · simp [hup, aup, e2]
        · simp [hup, aup, e2]; exact a3 z hz
      · have : ¬ ad j = ad k := fun z => by rw [e1] at z; exact e z
        simp [hup, aup, e, this]; exact a3 z hz
  · show hup h.2 (ad k) i (.int x) a = h0.2 a
    have hne : a ≠ ad k := fun e => ha (Or.inr ⟨k, hk, e⟩)
    rw [hup_ne _ _ hne]
    exact t.2.2 a ha
theorem ie_m1_0 : ((-1 : Int32) = (0 : Int32)) = False := by decide
theorem il_m1_0 : ((-1 : Int32) < (0 : Int32)) = True := by decide
theorem ie_m1_1 : ((-1 : Int32) = (1 : Int32)) = False := by decide
theorem il_m1_1 : ((-1 : Int32) < (1 : Int32)) = True := by decide
theorem ie_m1_2 : ((-1 : Int32) = (2 : Int32)) = False := by decide
theorem il_m1_2 : ((-1 : Int32) < (2 : Int32)) = True := by decide
theorem ie_m1_3 : ((-1 : Int32) = (3 : Int32)) = False := by decide
theorem il_m1_3 : ((-1 : Int32) < (3 : Int32)) = True := by decide
theorem ie_m1_4 : ((-1 : Int32) = (4 : Int32)) = False := by decide
theorem ie_m1_5 : ((-1 : Int32) = (5 : Int32)) = False := by decide
theorem ie_m1_6 : ((-1 : Int32) = (6 : Int32)) = False := by decide
theorem ie_m1_7 : ((-1 : Int32) = (7 : Int32)) = False := by decide
theorem ie_m1_8 : ((-1 : Int32) = (8 : Int32)) = False := by decide
theorem ie_0_m1 : ((0 : Int32) = (-1 : Int32)) = False := by decide
theorem il_0_0 : ((0 : Int32) < (0 : Int32)) = False := by decide
theorem ie_0_1 : ((0 : Int32) = (1 : Int32)) = False := by decide
theorem il_0_1 : ((0 : Int32) < (1 : Int32)) = True := by decide
theorem ie_0_2 : ((0 : Int32) = (2 : Int32)) = False := by decide
theorem il_0_2 : ((0 : Int32) < (2 : Int32)) = True := by decide
theorem ie_0_3 : ((0 : Int32) = (3 : Int32)) = False := by decide
theorem il_0_3 : ((0 : Int32) < (3 : Int32)) = True := by decide
theorem ie_0_4 : ((0 : Int32) = (4 : Int32)) = False := by decide
theorem ie_0_5 : ((0 : Int32) = (5 : Int32)) = False := by decide
theorem ie_0_6 : ((0 : Int32) = (6 : Int32)) = False := by decide
theorem ie_0_7 : ((0 : Int32) = (7 : Int32)) = False := by decide
theorem ie_0_8 : ((0 : Int32) = (8 : Int32)) = False := by decide
theorem ie_1_m1 : ((1 : Int32) = (-1 : Int32)) = False := by decide
theorem ie_1_0 : ((1 : Int32) = (0 : Int32)) = False := by decide
theorem il_1_0 : ((1 : Int32) < (0 : Int32)) = False := by decide
theorem il_1_1 : ((1 : Int32) < (1 : Int32)) = False := by decide
theorem ie_1_2 : ((1 : Int32) = (2 : Int32)) = False := by decide
theorem il_1_2 : ((1 : Int32) < (2 : Int32)) = True := by decide
theorem ie_1_3 : ((1 : Int32) = (3 : Int32)) = False := by decide
theorem il_1_3 : ((1 : Int32) < (3 : Int32)) = True := by decide
theorem ie_1_4 : ((1 : Int32) = (4 : Int32)) = False := by decide
theorem ie_1_5 : ((1 : Int32) = (5 : Int32)) = False := by decide
theorem ie_1_6 : ((1 : Int32) = (6 : Int32)) = False := by decide
theorem ie_1_7 : ((1 : Int32) = (7 : Int32)) = False := by decide
theorem ie_1_8 : ((1 : Int32) = (8 : Int32)) = False := by decide
theorem ie_2_m1 : ((2 : Int32) = (-1 : Int32)) = False := by decide
theorem ie_2_0 : ((2 : Int32) = (0 : Int32)) = False := by decide
theorem il_2_0 : ((2 : Int32) < (0 : Int32)) = False := by decide
theorem ie_2_1 : ((2 : Int32) = (1 : Int32)) = False := by decide
theorem il_2_1 : ((2 : Int32) < (1 : Int32)) = False := by decide
theorem il_2_2 : ((2 : Int32) < (2 : Int32)) = False := by decide
theorem ie_2_3 : ((2 : Int32) = (3 : Int32)) = False := by decide
theorem il_2_3 : ((2 : Int32) < (3 : Int32)) = True := by decide
theorem ie_2_4 : ((2 : Int32) = (4 : Int32)) = False := by decide
theorem ie_2_5 : ((2 : Int32) = (5 : Int32)) = False := by decide
theorem ie_2_6 : ((2 : Int32) = (6 : Int32)) = False := by decide
theorem ie_2_7 : ((2 : Int32) = (7 : Int32)) = False := by decide
theorem ie_2_8 : ((2 : Int32) = (8 : Int32)) = False := by decide
theorem ie_3_m1 : ((3 : Int32) = (-1 : Int32)) = False := by decide
theorem ie_3_0 : ((3 : Int32) = (0 : Int32)) = False := by decide
theorem il_3_0 : ((3 : Int32) < (0 : Int32)) = False := by decide
theorem ie_3_1 : ((3 : Int32) = (1 : Int32)) = False := by decide
theorem il_3_1 : ((3 : Int32) < (1 : Int32)) = False := by decide
theorem ie_3_2 : ((3 : Int32) = (2 : Int32)) = False := by decide
theorem il_3_2 : ((3 : Int32) < (2 : Int32)) = False := by decide
theorem il_3_3 : ((3 : Int32) < (3 : Int32)) = False := by decide
theorem ie_3_4 : ((3 : Int32) = (4 : Int32)) = False := by decide
theorem ie_3_5 : ((3 : Int32) = (5 : Int32)) = False := by decide
theorem ie_3_6 : ((3 : Int32) = (6 : Int32)) = False := by decide
theorem ie_3_7 : ((3 : Int32) = (7 : Int32)) = False := by decide
theorem ie_3_8 : ((3 : Int32) = (8 : Int32)) = False := by decide
theorem ie_4_m1 : ((4 : Int32) = (-1 : Int32)) = False := by decide
theorem ie_4_0 : ((4 : Int32) = (0 : Int32)) = False := by decide
theorem il_4_0 : ((4 : Int32) < (0 : Int32)) = False := by decide
theorem ie_4_1 : ((4 : Int32) = (1 : Int32)) = False := by decide
theorem il_4_1 : ((4 : Int32) < (1 : Int32)) = False := by decide
theorem ie_4_2 : ((4 : Int32) = (2 : Int32)) = False := by decide
theorem il_4_2 : ((4 : Int32) < (2 : Int32)) = False := by decide
theorem ie_4_3 : ((4 : Int32) = (3 : Int32)) = False := by decide
theorem il_4_3 : ((4 : Int32) < (3 : Int32)) = False := by decide
theorem ie_4_5 : ((4 : Int32) = (5 : Int32)) = False := by decide
theorem ie_4_6 : ((4 : Int32) = (6 : Int32)) = False := by decide
theorem ie_4_7 : ((4 : Int32) = (7 : Int32)) = False := by decide
theorem ie_4_8 : ((4 : Int32) = (8 : Int32)) = False := by decide
theorem ie_5_m1 : ((5 : Int32) = (-1 : Int32)) = False := by decide
theorem ie_5_0 : ((5 : Int32) = (0 : Int32)) = False := by decide
theorem il_5_0 : ((5 : Int32) < (0 : Int32)) = False := by decide
theorem ie_5_1 : ((5 : Int32) = (1 : Int32)) = False := by decide
theorem il_5_1 : ((5 : Int32) < (1 : Int32)) = False := by decide
theorem ie_5_2 : ((5 : Int32) = (2 : Int32)) = False := by decide
theorem il_5_2 : ((5 : Int32) < (2 : Int32)) = False := by decide
theorem ie_5_3 : ((5 : Int32) = (3 : Int32)) = False := by decide
theorem il_5_3 : ((5 : Int32) < (3 : Int32)) = False := by decide
theorem ie_5_4 : ((5 : Int32) = (4 : Int32)) = False := by decide
theorem ie_5_6 : ((5 : Int32) = (6 : Int32)) = False := by decide
theorem ie_5_7 : ((5 : Int32) = (7 : Int32)) = False := by decide
theorem ie_5_8 : ((5 : Int32) = (8 : Int32)) = False := by decide
theorem ie_6_m1 : ((6 : Int32) = (-1 : Int32)) = False := by decide
theorem ie_6_0 : ((6 : Int32) = (0 : Int32)) = False := by decide
theorem il_6_0 : ((6 : Int32) < (0 : Int32)) = False := by decide
theorem ie_6_1 : ((6 : Int32) = (1 : Int32)) = False := by decide
theorem il_6_1 : ((6 : Int32) < (1 : Int32)) = False := by decide
theorem ie_6_2 : ((6 : Int32) = (2 : Int32)) = False := by decide
theorem il_6_2 : ((6 : Int32) < (2 : Int32)) = False := by decide
theorem ie_6_3 : ((6 : Int32) = (3 : Int32)) = False := by decide
theorem il_6_3 : ((6 : Int32) < (3 : Int32)) = False := by decide
theorem ie_6_4 : ((6 : Int32) = (4 : Int32)) = False := by decide
theorem ie_6_5 : ((6 : Int32) = (5 : Int32)) = False := by decide
theorem ie_6_7 : ((6 : Int32) = (7 : Int32)) = False := by decide
theorem ie_6_8 : ((6 : Int32) = (8 : Int32)) = False := by decide
theorem ie_7_m1 : ((7 : Int32) = (-1 : Int32)) = False := by decide
theorem ie_7_0 : ((7 : Int32) = (0 : Int32)) = False := by decide
theorem il_7_0 : ((7 : Int32) < (0 : Int32)) = False := by decide
theorem ie_7_1 : ((7 : Int32) = (1 : Int32)) = False := by decide
theorem il_7_1 : ((7 : Int32) < (1 : Int32)) = False := by decide
theorem ie_7_2 : ((7 : Int32) = (2 : Int32)) = False := by decide
theorem il_7_2 : ((7 : Int32) < (2 : Int32)) = False := by decide
theorem ie_7_3 : ((7 : Int32) = (3 : Int32)) = False := by decide
theorem il_7_3 : ((7 : Int32) < (3 : Int32)) = False := by decide
theorem ie_7_4 : ((7 : Int32) = (4 : Int32)) = False := by decide
theorem ie_7_5 : ((7 : Int32) = (5 : Int32)) = False := by decide
theorem ie_7_6 : ((7 : Int32) = (6 : Int32)) = False := by decide
theorem ie_7_8 : ((7 : Int32) = (8 : Int32)) = False := by decide
theorem ie_8_m1 : ((8 : Int32) = (-1 : Int32)) = False := by decide
theorem ie_8_0 : ((8 : Int32) = (0 : Int32)) = False := by decide
theorem il_8_0 : ((8 : Int32) < (0 : Int32)) = False := by decide
theorem ie_8_1 : ((8 : Int32) = (1 : Int32)) = False := by decide
theorem il_8_1 : ((8 : Int32) < (1 : Int32)) = False := by decide
theorem ie_8_2 : ((8 : Int32) = (2 : Int32)) = False := by decide
theorem il_8_2 : ((8 : Int32) < (2 : Int32)) = False := by decide
theorem ie_8_3 : ((8 : Int32) = (3 : Int32)) = False := by decide
theorem il_8_3 : ((8 : Int32) < (3 : Int32)) = False := by decide
theorem ie_8_4 : ((8 : Int32) = (4 : Int32)) = False := by decide
theorem ie_8_5 : ((8 : Int32) = (5 : Int32)) = False := by decide
theorem ie_8_6 : ((8 : Int32) = (6 : Int32)) = False := by decide
theorem ie_8_7 : ((8 : Int32) = (7 : Int32)) = False := by decide
theorem hup_at (f : Nat → Nat → Value) (a k : Nat) (v : Value) (a2 k2 : Nat) : hup f a k v a2 k2 = if a2 = a ∧ k2 = k then v else f a2 k2 := rfl
theorem vpT {s n : Nat} (h : s < n) (hn : n ≤ 2048) : vp_in (nI s) n = True := eq_true (vpin h hn)
theorem nIc8 {s : Nat} (h : s < 8) : (nI s).toNatClampNeg = s := nIc (by omega)
theorem nIc12 {s : Nat} (h : s < 12) : (nI s).toNatClampNeg = s := nIc (by omega)
theorem nIc40 {s : Nat} (h : s < 40) : (nI s).toNatClampNeg = s := nIc (by omega)
theorem nIc200 {s : Nat} (h : s < 200) : (nI s).toNatClampNeg = s := nIc (by omega)
theorem nL8 {s t : Nat} (h : s < 8) (h2 : t < 8) : (nI s < nI t) = (s < t) := nJ_lt (by omega) (by omega)
theorem nL40 {s t : Nat} (h : s < 40) (h2 : t < 40) : (nI s < nI t) = (s < t) := nJ_lt (by omega) (by omega)
theorem nE8 {s t : Nat} (h : s < 8) (h2 : t < 8) : (nI s = nI t) = (s = t) := nJ_eq (by omega) (by omega)
theorem nE12 {s t : Nat} (h : s < 12) (h2 : t < 12) : (nI s = nI t) = (s = t) := nJ_eq (by omega) (by omega)
theorem nE40 {s t : Nat} (h : s < 40) (h2 : t < 40) : (nI s = nI t) = (s = t) := nJ_eq (by omega) (by omega)
/-- the head of a loop to n: 'i >= n' -/
theorem nG {i n : Nat} (h : i ≤ n) (hn : n ≤ 2000) : (nI n ≤ nI i) = (n ≤ i) := nJ_le (by omega) (by omega)
theorem nZ : nI 0 = 0 := rfl
theorem b2iD (q : Prop) {d : Decidable q} : b2i (@decide q d) = if q then 1 else 0 := by by_cases h : q <;> simp [b2i, h]
theorem nM40 {s t : Nat} (h : s < 40) (h2 : t < 40) : (nI s ≤ nI t) = (s ≤ t) := nJ_le (by omega) (by omega)
theorem v_forget {C : Ctx} {h : Hp} {cs ss pc : Nat} {L : List (Option Value)} {st : List Value} (k : Nat) (kk : V C h cs ss pc (L.set k none) st) : V C h cs ss pc L st := by
  intro H locs ls hR hS hL
  refine kk H locs ls hR hS ⟨by rw [List.length_set]; exact hL.1, fun i v hv => ?_, hL.2.2⟩
  by_cases e : k = i
  · subst e
    rw [List.getElem?_set] at hv
    split at hv
    · split at hv <;> cases hv
    · exact hL.2.1 _ v hv
  · rw [List.getElem?_set_ne e] at hv
    exact hL.2.1 i v hv
/-- a number or none, as the machine has it -/
def oI (r : Option Nat) : Int32 := match r with
  | none => -1
  | some k => nI k
theorem oI_n : oI none = -1 := rfl
theorem oI_s (k : Nat) : oI (some k) = nI k := rfl
theorem nI_m1 {k : Nat} (h : k < 40) : (nI k = -1) = False := by
  apply propext
  refine ⟨fun e => ?_, fun z => z.elim⟩
  have e1 := congrArg Int32.toInt e
  rw [nI_toInt (by omega)] at e1
  have : (-1 : Int32).toInt = -1 := by decide
  omega
theorem d24 : ((24 : Int32) = 0) = False := by decide
theorem d168 : ((168 : Int32) = 0) = False := by decide
theorem d100 : ((100 : Int32) = 0) = False := by decide
theorem v_find {G : Nat → Prop} (n : Nat) (g : Nat → Bool) (hexit : (∀ j, j < n → g j = false) → G n) (hstep : ∀ i, i < n → (∀ j, j < i → g j = false) → (g i = false → G (i + 1)) → G i) : G 0 := by
  have key : ∀ k i, i + k = n → (∀ j, j < i → g j = false) → G i := by
    intro k
    induction k with
    | zero => intro i hi hg; rw [show i = n by omega] at hg ⊢; exact hexit hg
    | succ k ih =>
      intro i hi hg
      refine hstep i (by omega) hg (fun hgi => ih (i + 1) (by omega) (fun j hj => ?_))
      by_cases e : j = i
      · rw [e]; exact hgi
      · exact hg j (by omega)
  exact key n 0 (by omega) (fun j hj => absurd hj (by omega))
/-- the first place below n -/
def fnd (g : Nat → Bool) : Nat → Option Nat
  | 0 => none
  | n + 1 => match fnd g n with
    | some c => some c
    | none => if g n then some n else none
theorem fnd_none {g : Nat → Bool} : ∀ n, (∀ j, j < n → g j = false) → fnd g n = none
  | 0, _ => rfl
  | n + 1, h => by
    unfold fnd
    rw [fnd_none n (fun j hj => h j (by omega)), h n (by omega)]
    rfl
theorem fnd_some {g : Nat → Bool} {i : Nat} (hg : g i = true) (hb : ∀ j, j < i → g j = false) : ∀ n, i < n → fnd g n = some i
  | 0, h => absurd h (by omega)
  | n + 1, h => by
    unfold fnd
    by_cases e : i = n
    · rw [← e, fnd_none i hb, hg]
      rfl
    · rw [fnd_some hg hb n (by omega)]
theorem fnd_spec {g : Nat → Bool} : ∀ n i, fnd g n = some i → i < n ∧ g i = true ∧ ∀ j, j < i → g j = false
  | 0, i, h => by simp [fnd] at h
  | n + 1, i, h => by
    unfold fnd at h
    cases hf : fnd g n with
    | some c =>
      rw [hf] at h
      cases h
      obtain ⟨a, b, c⟩ := fnd_spec n i hf
      exact ⟨by omega, b, c⟩
    | none =>
      rw [hf] at h
      by_cases e : g n = true
      · simp [e] at h
        subst h
        refine ⟨by omega, e, fun j hj => ?_⟩
        cases hgj : g j with
        | false => rfl
        | true =>
          exfalso
          have : ∀ m, j < m → fnd g m ≠ none := by
            intro m
            induction m with
            | zero => intro h; omega
            | succ m ih =>
              intro hm hn
              unfold fnd at hn
              cases hfm : fnd g m with
              | some c => rw [hfm] at hn; cases hn
              | none =>
                rw [hfm] at hn
                by_cases e2 : j = m
                · rw [← e2, hgj] at hn; simp at hn
                · exact ih (by omega) hfm
          exact this n hj hf
      · simp [e] at h
theorem nar1 : narrow .boolean (.int 1) = .int 1 := by simp [narrow]
theorem nar0 : narrow .boolean (.int 0) = .int 0 := by simp [narrow]
theorem lp_ff {g : Nat → Bool} : ∀ n i, i ≤ n → lp (fun i z => z && g i) true i = false → lp (fun i z => z && g i) true n = false := by
  intro n
  induction n with
  | zero => intro i hi h; rw [show i = 0 by omega] at h; exact h
  | succ n ih =>
    intro i hi h
    by_cases e : i = n + 1
    · rw [← e]; exact h
    · show (lp (fun i z => z && g i) true n && g n) = false
      rw [ih i (by omega) h]; rfl
theorem nG1 {d m : Nat} (h : d ≤ 300) (hm : m ≤ 300) : (nI m < nI d) = (m < d) := nJ_lt (by omega) (by omega)
