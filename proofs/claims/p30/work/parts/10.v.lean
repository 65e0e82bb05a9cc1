/-! THE PROVER'S OWN LAYER: an abstract heap (kinds, and values by address and place), locals as a list, one step as a function, and a method's contract over them. -/
abbrev Hp : Type := (Nat → Option (Nat ⊕ (Nat × Nat))) × (Nat → Nat → Value)
abbrev Dg : Type := va_G × (Nat → ClassId)
def vcl : List vw_C := [(RX0, TX0, 6), (RX1, TX1, 4), (RX2, TX2, 6), (RX3, TX3, 8), (RX4, TX4, 8), (RX5, TX5, 4), (RX6, TX6, 12)]
def vft (c : Nat) : Nat → FieldType := match c with
  | 0 => tyX0
  | 1 => tyX1
  | 2 => tyX2
  | 3 => tyX3
  | 4 => tyX4
  | 5 => tyX5
  | _ => tyX6
def vty (k : Nat) : FieldType := match k with
  | 0 => .int
  | 1 => .boolean
  | 2 => .char
  | 3 => .long
  | 4 => .object RX5
  | 5 => .object RX4
  | 6 => .object RX2
  | 7 => .object RX0
  | _ => .object RX1
def vtl (dA : Nat → ClassId) : List (ClassId × FieldType) := (List.range 9).map fun k => if k = 1 ∨ k = 3 then (dA 0, vty 0) else (dA k, vty k)
def rat (D : Dg) (κ : Nat ⊕ (Nat × Nat)) (a : Nat) (g : Nat → Value) (H : Heap) : Prop := match κ with
  | .inl c => ∃ r : vw_C, vcl[c]? = some r ∧ t_OB a (D.1.1 c) r.2.2 (D.1.2 c) H g
  | .inr q => (q.1 < 9 ∧ q.1 ≠ 1 ∧ q.1 ≠ 3) ∧ H[a]? = some (arrV (D.2 q.1) q.2 g)
def Rel (D : Dg) (b : Nat) (h : Hp) (H : Heap) : Prop := ∀ (a : Nat) (κ : Nat ⊕ (Nat × Nat)), h.1 a = some κ → b ≤ a ∧ rat D κ a (h.2 a) H
theorem rat.kept {D : Dg} {κ : Nat ⊕ (Nat × Nat)} {a : Nat} {g : Nat → Value} {H H1 : Heap} (h : rat D κ a g H) (hq : H1[a]? = H[a]?) : rat D κ a g H1 := by
  cases κ with
  | inl c =>
    obtain ⟨r, h1, h2⟩ := h
    exact ⟨r, h1, h2.kept hq⟩
  | inr q => exact ⟨h.1, by rw [hq]; exact h.2⟩
theorem rat.lt {D : Dg} {κ : Nat ⊕ (Nat × Nat)} {a : Nat} {g : Nat → Value} {H : Heap} (h : rat D κ a g H) : a < H.size := by
  cases κ with
  | inl c =>
    obtain ⟨r, h1, cell, h2, -⟩ := h
    exact (Array.getElem?_eq_some_iff.mp h2).1
  | inr q => exact (Array.getElem?_eq_some_iff.mp h.2).1
theorem Rel.lt {D : Dg} {b : Nat} {h : Hp} {H : Heap} (hR : Rel D b h H) {a : Nat} {κ : Nat ⊕ (Nat × Nat)} (ha : h.1 a = some κ) : a < H.size := (hR a κ ha).2.lt
def hup (f : Nat → Nat → Value) (a k : Nat) (v : Value) : Nat → Nat → Value := fun a' k' => if a' = a ∧ k' = k then v else f a' k'
def kup (f : Nat → Option (Nat ⊕ (Nat × Nat))) (a : Nat) (κ : Nat ⊕ (Nat × Nat)) : Nat → Option (Nat ⊕ (Nat × Nat)) := fun a' => if a' = a then some κ else f a'
def rup (f : Nat → Nat → Value) (a : Nat) (g : Nat → Value) : Nat → Nat → Value := fun a' => if a' = a then g else f a'
theorem hup_row (f : Nat → Nat → Value) (a k : Nat) (v : Value) : hup f a k v a = updV (f a) k v := by
  funext j
  by_cases h : j = k <;> simp [hup, updV, h]
theorem hup_ne (f : Nat → Nat → Value) {a a' k : Nat} (v : Value) (h : a' ≠ a) : hup f a k v a' = f a' := by
  funext j
  simp [hup, h]
theorem Rel.put {D : Dg} {b : Nat} {h : Hp} {H H1 : Heap} (hR : Rel D b h H) {a k : Nat} {v : Value} {κ : Nat ⊕ (Nat × Nat)} (ha : h.1 a = some κ) (hn : rat D κ a (updV (h.2 a) k v) H1) (oq : ∀ q : Nat, q ≠ a → H1[q]? = H[q]?) : Rel D b (h.1, hup h.2 a k v) H1 := by
  intro a' κ' h'
  have h1 := hR a' κ' h'
  refine ⟨h1.1, ?_⟩
  by_cases e : a' = a
  · subst e
    have e2 : κ' = κ := Option.some.inj (h'.symm.trans ha)
    subst e2
    show rat D κ' a' (hup h.2 a' k v a') H1
    rw [hup_row]
    exact hn
  · show rat D κ' a' (hup h.2 a k v a') H1
    rw [hup_ne _ _ e]
    exact h1.2.kept (oq a' e)
theorem Rel.new {D : Dg} {b : Nat} {h : Hp} {H H1 : Heap} (hR : Rel D b h H) {g : Nat → Value} {κ : Nat ⊕ (Nat × Nat)} (hb : b ≤ H.size) (hn : rat D κ H.size g H1) (oq : ∀ q : Nat, q < H.size → H1[q]? = H[q]?) : Rel D b (kup h.1 H.size κ, rup h.2 H.size g) H1 := by
  intro a' κ' h'
  by_cases e : a' = H.size
  · subst e
    have e2 : κ = κ' := by simpa [kup] using h'
    subst e2
    refine ⟨hb, ?_⟩
    show rat D κ H.size (rup h.2 H.size g H.size) H1
    simpa [rup] using hn
  · have h'' : h.1 a' = some κ' := by simpa [kup, e] using h'
    have h1 := hR a' κ' h''
    refine ⟨h1.1, ?_⟩
    show rat D κ' a' (rup h.2 H.size g a') H1
    simpa [rup, e] using h1.2.kept (oq a' h1.2.lt)
/-- the words that every call may carry -/
def wsG : List Cond := lw_tbl.filter goodWord
theorem wsG_in {w : Cond} (i : Nat) (h : lw_tbl[i]? = some w) (g : goodWord w = true) : w ∈ wsG := List.mem_filter.mpr ⟨List.mem_of_getElem? h, g⟩
theorem wsG_good {w : Cond} (h : w ∈ wsG) : (w.onTables && w.keeps) = true ∨ ∃ ty, w = .arrayClass ty := good_of_word (List.mem_filter.mp h).2
theorem wsG_all {L : List Cond} (h : L.all (fun w => decide (w ∈ lw_tbl) && goodWord w) = true) : ∀ w ∈ L, w ∈ wsG := by
  intro w hw
  have h1 := List.all_eq_true.mp h w hw
  simp only [Bool.and_eq_true, decide_eq_true_eq] at h1
  exact List.mem_filter.mpr h1
set_option maxRecDepth 100000 in
set_option maxHeartbeats 4000000 in
theorem vcl_in0 : (vcl.flatMap fun r => u_ws r.1 r.2.1 r.2.2).all (fun w => decide (w ∈ lw_tbl) && goodWord w) = true := by decide +kernel
theorem vcl_in {c : Nat} {r : vw_C} (h : vcl[c]? = some r) : ∀ w ∈ u_ws r.1 r.2.1 r.2.2, w ∈ wsG := fun w hw =>
  wsG_all vcl_in0 w (List.mem_flatMap.mpr ⟨r, List.mem_of_getElem? h, hw⟩)
theorem vft_ok {c : Nat} {r : vw_C} (h : vcl[c]? = some r) : ∀ k, k < r.2.2 → parseFieldDescriptor (r.2.1 k).2.2.1 = some (vft c k) := by
  match c, h with
  | 0, h => cases h; exact tyX0_ok
  | 1, h => cases h; exact tyX1_ok
  | 2, h => cases h; exact tyX2_ok
  | 3, h => cases h; exact tyX3_ok
  | 4, h => cases h; exact tyX4_ok
  | 5, h => cases h; exact tyX5_ok
  | 6, h => cases h; exact tyX6_ok
  | c + 7, h => simp [vcl] at h
theorem vcl_nm {c : Nat} {r : vw_C} (h : vcl[c]? = some r) : ∀ a, a < r.2.2 → ∀ b, b < r.2.2 → a ≠ b → (r.2.1 a).2.1 ≠ (r.2.1 b).2.1 := by
  match c, h with
  | 0, h => cases h; exact nmX0
  | 1, h => cases h; exact nmX1
  | 2, h => cases h; exact nmX2
  | 3, h => cases h; exact nmX3
  | 4, h => cases h; exact nmX4
  | 5, h => cases h; exact nmX5
  | 6, h => cases h; exact nmX6
  | c + 7, h => simp [vcl] at h
/-- the String constants: class, entry, text, number; of the first six the signs are known -/
def strC : List (String × Nat × String × Nat) := [("UnionClock$RuleText", 49, "SKILL", 0), ("UnionClock$RuleText", 55, "PAY", 1), ("UnionClock$RuleText", 64, "REST", 2), ("UnionClock$RuleText", 66, "WEEK", 3), ("UnionClock$RuleText", 68, "ROW", 4), ("UnionClock$RuleText", 70, "LONG", 5), ("UnionClock", 115, "begin is up to now, end 1 to 24 hours behind it, up to now", 6), ("UnionClock", 120, "nobody holds the shift, or it is too late", 7), ("UnionClock", 146, "the worker has not so many shifts", 8), ("UnionClock", 160, "a character is A to Z, 0 to 9, or a space", 9), ("UnionClock", 166, "the text has 40 characters", 10), ("UnionClock", 181, "the text is no rule", 11), ("UnionClock", 186, "12 rules were read", 12), ("UnionClock", 199, "the rule was dropped", 13), ("UnionClock", 205, "weeks are 0 to 11", 14), ("UnionClock", 242, "the claim is not OPEN", 15), ("UnionClock", 247, "the claim is not OWED", 16), ("UnionClock", 256, "two workers hold the shifts, which begin behind now", 17), ("UnionClock", 261, "40 offers were made", 18), ("UnionClock", 273, "the offer is not there any more", 19), ("UnionClock", 285, "there is no ring, or it cannot swap", 20), ("UnionClock", 291, "no such worker", 21), ("UnionClock", 293, "no such shift", 22), ("UnionClock", 295, "no such rule", 23), ("UnionClock", 297, "no such claim", 24), ("UnionClock", 299, "no such offer", 25), ("UnionClock", 54, "hours are 1 to 200", 26), ("UnionClock", 65, "now is at most 2000", 27), ("UnionClock", 72, "skills are 0 to 15, a wage is 0 to 1000", 28), ("UnionClock", 80, "begin is 0 to 2000, hours 1 to 16, skill 0 to 3", 29), ("UnionClock", 85, "there are 40 shifts", 30), ("UnionClock", 98, "the worker cannot hold the shift", 31)]
def slen : List Nat := [5, 3, 4, 4, 3, 4]
def sbyt : List (List Int32) := [[83, 75, 73, 76, 76], [80, 65, 89], [82, 69, 83, 84], [87, 69, 69, 75], [82, 79, 87], [76, 79, 78, 71]]
/-- words that the tables alone don't keep -/
def KnW (U : State) : Prop := (∀ C ∈ ["UnionClock$Worker", "UnionClock$Shift", "UnionClock$Rule", "UnionClock$Claim", "UnionClock$Offer"], va_AO C U) ∧ va_Nw (.methodLinkNest "UnionClock" 44 ⟨"UnionClock$RuleText", "<init>", "()V"⟩ "UnionClock") U ∧
  (∀ z ∈ [("java/lang/IllegalArgumentException", "java/lang/IllegalStateException"), ("java/lang/IllegalArgumentException", "java/lang/IndexOutOfBoundsException"), ("java/lang/IllegalStateException", "java/lang/IllegalArgumentException"), ("java/lang/IllegalStateException", "java/lang/IndexOutOfBoundsException"), ("java/lang/IndexOutOfBoundsException", "java/lang/IllegalArgumentException"), ("java/lang/IndexOutOfBoundsException", "java/lang/IllegalStateException")], va_Nc z.1 z.2 U) ∧ (∀ E ∈ ["java/lang/IllegalArgumentException", "java/lang/IllegalStateException", "java/lang/IndexOutOfBoundsException"], va_Nw (.castable E E) U) ∧ ∀ E ∈ ["java/lang/RuntimeException", "java/lang/Exception", "java/lang/Throwable"], va_Nw (.declares (Bundle.initS E)) U
theorem KnW.moved {u U : State} (hW : u.WarmedH U.vm) (h : KnW u) : KnW U := ⟨fun C hC => va_AO.moved hW.alike (h.1 C hC), va_Nw.warmM hW h.2.1, fun z hz => va_Nc.moved hW.alike (h.2.2.1 z hz), fun E hE => va_Nw.warmC hW (h.2.2.2.1 E hE), fun E hE => va_Nw.warmD hW (h.2.2.2.2 E hE)⟩
def KnS (D : Dg) (b : Nat) (U : State) (H : Heap) : Prop :=
  (∀ z ∈ strC, vk_R z.1 z.2.1 z.2.2.1 (D.2 (9 + z.2.2.2)) U) ∧ vk_S 6 slen sbyt (fun i => D.2 (9 + i)) (fun i => D.2 (50 + i)) (fun q => b ≤ q) U H ∧ va_Z "java/lang/String" "COMPACT_STRINGS" "Z" (.int 1) (fun q => b ≤ q) U H ∧ va_Zq "jdk/internal/util/Preconditions" "SIOOBE_FORMATTER" "Ljava/util/function/BiFunction;" (fun q => b ≤ q) U H ∧ KnW U
/-- what stays true of the tables, and of the cells below b -/
def Kn (D : Dg) (b : Nat) (U : State) (H : Heap) : Prop :=
  va_K D.1 vcl (vtl D.2) U ∧ vx_Zq Bundle.tN "UNASSIGNED_STACK" Bundle.steD (fun q => b ≤ q) U H ∧ vx_Zq Bundle.tN "SUPPRESSED_SENTINEL" Bundle.listD (fun q => b ≤ q) U H ∧ KnS D b U H
theorem Kn.moved {D : Dg} {b : Nat} {u U : State} {H : Heap} (hW : u.WarmedH U.vm) (h : Kn D b u H) : Kn D b U H := ⟨va_K.moved hW.alike h.1, vx_Zq.moved hW.alike h.2.1, vx_Zq.moved hW.alike h.2.2.1, fun z hz => vk_R.warm hW (h.2.2.2.1 z hz), vk_S.moved hW.alike h.2.2.2.2.1, va_Z.moved hW.alike h.2.2.2.2.2.1, va_Zq.moved hW.alike h.2.2.2.2.2.2.1, KnW.moved hW h.2.2.2.2.2.2.2⟩
theorem Kn.kept {D : Dg} {b : Nat} {U : State} {H H1 : Heap} (h : Kn D b U H) (hq : ∀ a : Nat, a < H.size → ¬ b ≤ a → H1[a]? = H[a]?) : Kn D b U H1 := ⟨h.1, vx_Zq.kept h.2.1 hq, vx_Zq.kept h.2.2.1 hq, h.2.2.2.1, vk_S.kept h.2.2.2.2.1 hq, va_Z.kept h.2.2.2.2.2.1 hq, va_Zq.kept h.2.2.2.2.2.2.1 hq, h.2.2.2.2.2.2.2⟩
/-- the locals: no long lies among them -/
def lsok (L : List (Option Value)) (ls : Array Slot) : Prop := ls.size = L.length ∧ (∀ (i : Nat) (v : Value), L[i]? = some (some v) → ls[i]? = some (.val v)) ∧ ∀ (i : Nat) (z : Slot), ls[i]? = some z → match z with
  | .second => False
  | .val v => v.category = 1
  | .unset => True
theorem lsok.store {L : List (Option Value)} {ls : Array Slot} {i : Nat} {v : Value} (h : lsok L ls) (hi : i < L.length) (hv : v.category = 1) : ∃ ls', storeLocals ls i v = some ls' ∧ lsok (L.set i (some v)) ls' := by
  obtain ⟨h1, h2, h3⟩ := h
  have hil : i < ls.size := by omega
  have hx : ls[i]? = some ls[i] := Array.getElem?_eq_getElem hil
  have key : ∀ z : Slot, ls[i]? = some z → storeLocals ls i v = some (ls.setIfInBounds i (.val v)) := by
    intro z hz
    have h4 := h3 i z hz
    cases z with
    | second => exact h4.elim
    | val w => exact storeLocals_cat1 hz hv h4
    | unset => exact storeLocals_cat1 hz hv trivial
  refine ⟨ls.setIfInBounds i (.val v), key _ hx, by simp [h1], fun j w hj => ?_, fun j z hj => ?_⟩
  · by_cases e : i = j
    · subst e
      rw [List.getElem?_set_self hi] at hj
      cases hj
      simp [hil]
    · rw [List.getElem?_set_ne e] at hj
      rw [Array.getElem?_setIfInBounds_ne e]
      exact h2 j w hj
  · by_cases e : i = j
    · subst e
      simp [hil] at hj
      subst hj
      exact hv
    · rw [Array.getElem?_setIfInBounds_ne e] at hj
      exact h3 j z hj
theorem lsok.entry {As : List Value} (h : ∀ v ∈ As, v.category = 1) (n : Nat) : lsok (As.map some ++ List.replicate (n - As.length) none) ((As.map Slot.val ++ List.replicate (n - As.length) Slot.unset).toArray) := by
  refine ⟨by simp, fun i v hv => ?_, fun i z hz => ?_⟩
  · rw [List.getElem?_toArray]
    by_cases hi : i < As.length
    · rw [List.getElem?_append_left (by simpa using hi), List.getElem?_map] at hv ⊢
      cases ha : As[i]? with
      | none => rw [ha] at hv; cases hv
      | some w => rw [ha] at hv; cases hv; rfl
    · rw [List.getElem?_append_right (by simp; omega), List.getElem?_replicate] at hv
      split at hv <;> cases hv
  · rw [List.getElem?_toArray] at hz
    by_cases hi : i < As.length
    · rw [List.getElem?_append_left (by simpa using hi), List.getElem?_map] at hz
      cases ha : As[i]? with
      | none => rw [ha] at hz; cases hz
      | some w => rw [ha] at hz; cases hz; exact h w (List.mem_of_getElem? ha)
    · rw [List.getElem?_append_right (by simp; omega), List.getElem?_replicate] at hz
      split at hz
      · cases hz; trivial
      · cases hz
/-- contracts: what a method answers, or throws -/
def PQ (D : Dg) (b : Nat) (P : Option Value → Hp → Prop) : Array Value → State → Outcome → State → Prop := fun _ st o t => ∃ (v : Option Value) (h' : Hp), o = .returned v ∧ P v h' ∧ Rel D b h' t.heap ∧ st.heap.size ≤ t.heap.size ∧ ∀ q : Nat, q < b → t.heap[q]? = st.heap[q]?
def PX (D : Dg) (b : Nat) (X : String → Hp → Prop) : String → State → State → Prop := fun E st t => ∃ h' : Hp, X E h' ∧ Rel D b h' t.heap ∧ st.heap.size ≤ t.heap.size ∧ ∀ q : Nat, q < b → t.heap[q]? = st.heap[q]?
abbrev MI : Type := MethodName × ByteArray × Nat × Option FieldType × Nat
def PA (D : Dg) (b : Nat) (As : List Value) (h : Hp) : Array Value → State → Prop := va_Pc As (fun U => Rel D b h U.heap ∧ Kn D b U U.heap ∧ b ≤ U.heap.size)
def rmD (d mc ms : Nat) : Room := { frames := d, cells := mc, slots := ms, locals := 35 * d }
def Cal (l : Launch) (D : Dg) (b : Nat) (i : MI) (d mc ms : Nat) (As : List Value) (h : Hp) (P : Option Value → Hp → Prop) (X : String → Hp → Prop) : Prop :=
  vx_Met l i.1 (Cond.code i.1 i.2.1 i.2.2.1 i.2.2.2.1 :: wsG) (rmD d mc ms) (PA D b As h) (PQ D b P) (PX D b X) mc ms (fun q => b ≤ q)
theorem PA.blind {D : Dg} {b : Nat} {As : List Value} {h : Hp} : FrameBlind (PA D b As h) := fun a U g mk q => ⟨q.1, q.2.1, Kn.moved (u := U) (U := U.calling g mk a) (State.WarmedH.refl U) q.2.2.1, q.2.2.2⟩
abbrev Ctx : Type := (Program × Launch × Env × Room) × (State × MethodId × Array Value × List Frame) × (Method × Code × Dg × Nat) × ((Option Value → Hp → Prop) × (String → Hp → Prop) × Nat × Nat)
def V (C : Ctx) (h : Hp) (cs ss pc : Nat) (L : List (Option Value)) (st : List Value) : Prop :=
  ∀ (H : Heap) (locs : List Loc) (ls : Array Slot), Rel C.2.2.1.2.2.1 C.2.2.1.2.2.2 h H → va_S (fun q => C.2.2.1.2.2.2 ≤ q) C.2.1.1.heap H locs → lsok L ls →
    W C.1.1 C.1.2.1 C.1.2.2.1 C.1.2.2.2 C.2.1.1 C.2.1.2.1 C.2.1.2.2.1 C.2.1.2.2.2 C.2.2.1.1 C.2.2.1.2.1 H locs cs ss
      (vx_MQ C.2.1.2.2.2 (PQ C.2.2.1.2.2.1 C.2.2.1.2.2.2 C.2.2.2.1) (PX C.2.2.1.2.2.1 C.2.2.1.2.2.2 C.2.2.2.2.1) C.2.1.2.2.1 C.2.1.1 C.2.2.2.2.2.1 C.2.2.2.2.2.2 (fun q => C.2.2.1.2.2.2 ≤ q)) (F0 C.2.1.2.1 pc ls st)
/-- what holds all through a method's run: own class, code, size of the locals, type of the answer, name, depth -/
def Ok (C : Ctx) (own : String) (cc : ByteArray) (nL : Nat) (rt : Option FieldType) (nm : String) (d : Nat) (tb : List ExceptionTableEntry) : Prop :=
  C.1.1.tables.exec = Jvm.exec ∧ C.2.2.1.2.1.code = cc ∧ C.2.2.1.2.1.maxLocals = nL ∧ C.2.1.1.vm.findClass own = some C.2.1.2.1.cls ∧ (∀ w ∈ wsG, w.before C.2.1.2.2.1 C.2.1.1 = true) ∧ C.2.2.1.1.sig.returnType = rt ∧ C.2.2.1.1.locks = false ∧ C.2.2.1.1.name = nm ∧
  Kn C.2.2.1.2.2.1 C.2.2.1.2.2.2 C.2.1.1 C.2.1.1.heap ∧ C.2.2.1.2.2.2 ≤ C.2.1.1.heap.size ∧ C.1.2.2.2 = rmD d C.2.2.2.2.2.1 C.2.2.2.2.2.2 ∧ C.1.2.1.flags = flags0 ∧ C.2.2.1.2.1.exceptionTable.toList = tb
