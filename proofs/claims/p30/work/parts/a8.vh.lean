/-! THE LAW: calls where an exception table may lie, helpers, the script -/
abbrev eIOAS : List String := ["java/lang/IllegalArgumentException", "java/lang/IllegalStateException", "java/lang/IndexOutOfBoundsException"]
abbrev ePairs : List (String × String) := [("java/lang/IllegalArgumentException", "java/lang/IllegalStateException"), ("java/lang/IllegalArgumentException", "java/lang/IndexOutOfBoundsException"), ("java/lang/IllegalStateException", "java/lang/IllegalArgumentException"), ("java/lang/IllegalStateException", "java/lang/IndexOutOfBoundsException"), ("java/lang/IndexOutOfBoundsException", "java/lang/IllegalArgumentException"), ("java/lang/IndexOutOfBoundsException", "java/lang/IllegalStateException")]
/-- a row of the table tb takes what is thrown at pc -/
def Hnd (own : String) (tb : List ExceptionTableEntry) (pc : Nat) (E : String) (hp : Nat) : Prop := E ∈ eIOAS ∧ ∃ pre x suf, tb = pre ++ x :: suf ∧ (∀ z ∈ pre, z.catchType ≠ 0 ∧ ∃ nm9 : String, Cond.classLink own z.catchType nm9 ∈ wsG ∧ (E, nm9) ∈ ePairs) ∧ covers x pc = true ∧ x.catchType ≠ 0 ∧ Cond.classLink own x.catchType E ∈ wsG ∧ x.handlerPc = hp
def HCal (l : Launch) (D : Dg) (b : Nat) (i : MI) (hh : List (Nat × Nat × Nat × Nat)) (d mc ms : Nat) (As : List Value) (h : Hp) (P : Option Value → Hp → Prop) (X : String → Hp → Prop) : Prop :=
  vx_Met l i.1 (Cond.codeWith i.1 i.2.1 i.2.2.1 i.2.2.2.1 hh :: wsG) (rmD d mc ms) (PA D b As h) (PQ D b P) (PX D b X) mc ms (fun q => b ≤ q)
section VH
variable {p : Program} {l : Launch} {e : Env} {R : Room} {s : State} {m : MethodId} {args : Array Value} {below : List Frame} {meth : Method} {c : Code} {D : Dg} {b : Nat} {P : Option Value → Hp → Prop} {X : String → Hp → Prop} {mc ms : Nat}
variable {own nm : String} {cc : ByteArray} {nL d : Nat} {rt : Option FieldType} {tb : List ExceptionTableEntry} {h : Hp} {cs ss pc : Nat} {L : List (Option Value)} {st rest : List Value}
theorem HCal.met {i : MI} {hh : List (Nat × Nat × Nat × Nat)} {d' mc' ms' : Nat} {As : List Value} {P' : Option Value → Hp → Prop} (hc : HCal l D b i hh d' mc' ms' As h P' (fun _ _ => False)) : Met l i.1 (Cond.codeWith i.1 i.2.1 i.2.2.1 i.2.2.2.1 hh :: wsG) (rmD d' mc' ms') (PA D b As h) (PQ D b P') mc' ms' (fun q => b ≤ q) := by
  intro p e ha hcas hclk s m args below hf happ hP hk
  obtain ⟨n, o, h1, h2, h3, h4⟩ := hc p e ha hcas hclk s m args below hf happ hP hk
  refine ⟨n, o, h1, h2, h3, ?_⟩
  rcases h4 with h4 | ⟨q, -, E, ce, L, ⟨h', hF, -⟩, -⟩
  · exact h4
  · exact hF.elim
theorem v_entryH (i : MI) (hh : List (Nat × Nat × Nat × Nat)) (hy : plainName i.1.cls = true) (hmem : Cond.codeWith i.1 i.2.1 i.2.2.1 i.2.2.2.1 hh ∈ wsG) {As : List Value} (hcat : ∀ v ∈ As, v.category = 1) (hfl : l.flags = flags0)
    (k : ∀ C : Ctx, C.1.2.1 = l → C.2.2.1.2.2.1 = D → C.2.2.1.2.2.2 = b → C.2.2.2 = (P, X, mc, ms) → Ok C i.1.cls i.2.1 i.2.2.1 i.2.2.2.1 i.1.name d (tableOf hh) → V C h 0 0 0 (As.map some ++ List.replicate (i.2.2.1 - As.length) none) []) : HCal l D b i hh d mc ms As h P X := by
  refine vx_ofWH hy rfl ?_
  intro p e s m args below meth c s₁ B hml hv
  obtain ⟨rfl, hRel, hKn, hbs⟩ := hv
  have hts0 := atoms_spec (ws := Cond.codeWith i.1 i.2.1 i.2.2.1 i.2.2.2.1 hh :: wsG) B.pre
  have hxt' : c.exceptionTable.toList = tableOf hh := vx_table (x := i.1) B (hts0 _ List.mem_cons_self)
  have hV := k ((p, l, e, rmD d mc ms), (s, m, As.toArray, below), (meth, c, D, b), (P, X, mc, ms)) rfl rfl rfl rfl
    ⟨B.exec, B.bytes, hml, findClass_of_methodNamed B.named, fun w hw => hts0 w (List.mem_cons_of_mem _ hw), B.returns, B.notSynchronized, (name_of_methodNamed B.named B.method).1, hKn, hbs, rfl, hfl, hxt'⟩
  have h2 := hV s.heap [] _ hRel va_S.rf (lsok.entry hcat i.2.2.1)
  rw [entry_eq m As hcat]
  exact h2
theorem v_backH (K : Ok ((p, l, e, R), (s, m, args, below), (meth, c, D, b), (P, X, mc, ms)) own cc nL rt nm d tb) {mc' ms' : Nat} {P' : Option Value → Hp → Prop} {X' : String → Hp → Prop} {a : Array Value}
    (hr : ∀ (H : Heap) (locs : List Loc) (ls : Array Slot), Rel D b h H → va_S (fun q => b ≤ q) s.heap H locs → lsok L ls → vx_Run p l e R s m args below meth c H locs cs ss mc' ms' (F0 m pc ls st) rest (PQ D b P' a) (PX D b X') (fun q => b ≤ q))
    (kx : ∀ E h', X' E h' → ∃ hp, Hnd own tb pc E hp ∧ ∀ q, V ((p, l, e, R), (s, m, args, below), (meth, c, D, b), (P, X, mc, ms)) h' (cs + mc') (ss + ms') hp L [.ref q]) (kk : ∀ v h', P' v h' → V ((p, l, e, R), (s, m, args, below), (meth, c, D, b), (P, X, mc, ms)) h' (cs + mc') (ss + ms') (pc + 3) L (v.toList ++ rest)) :
    V ((p, l, e, R), (s, m, args, below), (meth, c, D, b), (P, X, mc, ms)) h cs ss pc L st := by
  obtain ⟨hx, hb, hml, hown, hts, hrt, hlk, hnm, hKn, hbs, hR0, hfl, hxt⟩ := id K
  have hKW : KnW s := hKn.2.2.2.2.2.2.2
  intro H locs ls hR hS hL T hT X9
  rcases hr H locs ls hR hS hL T hT X9 with ⟨v, st₀, t, T', L9, h0, X', hL9, e1, e2, ⟨v', h', hv, hP', hR', hz, hk⟩, st9⟩ | ⟨q, st₀, t, T', L9, E, ce, h0, X', hL9, e1, e2, ⟨h', hX', hR', hz, hk⟩, hce, hcv, hcl, st9⟩
  · have hvv : v = v' := Outcome.returned.inj hv
    subst hvv
    rw [h0] at hz hk
    obtain ⟨t2, a1, b1⟩ := kk v h' hP' T'.heap (locs ++ L9) ls (by rw [e1]; exact hR') (v_keep hbs hS (by rw [e1]; exact hz) (fun q hq => by rw [e1]; exact hk q hq) hL9) hL T' rfl X'
    exact ⟨t2, st9 t2 a1, b1⟩
  · rw [h0] at hz hk
    have hS' : va_S (fun q => b ≤ q) s.heap T'.heap (locs ++ L9) := v_keep hbs hS (by rw [e1]; exact hz) (fun q hq => by rw [e1]; exact hk q hq) hL9
    obtain ⟨hp, ⟨hE, pre, x, suf, hsp, hpass, hcov, hx0, hlk9, hhp⟩, kv⟩ := kx E h' hX'
    subst hhp
    obtain ⟨t2, a1, b1⟩ := vx_catch (p := p) (l := l) (e := e) (R := R) (args := args) (below := below) (meth := meth) (locs := locs ++ L9) (cells := cs + mc') (slots := ss + ms') (ls := ls) (rest := rest) (pc := pc) (name := E) hown pre x suf (by rw [hxt, hsp]) (fun z hz => by
      obtain ⟨z0, nm9, z1, z2⟩ := hpass z hz
      exact Or.inr ⟨z0, nm9, hts _ z1, hKW.2.2.1 (E, nm9) z2⟩) hcov hx0 (hts _ hlk9) (va_Nw.use rfl (hKW.2.2.2.1 E hE)) (by rw [e1]; exact hce) hcv hcl
      (kv q T'.heap (locs ++ L9) ls (by rw [e1]; exact hR') hS' hL) T' rfl X'
    exact ⟨t2, st9.trans a1, b1⟩
theorem v_callVH (K : Ok ((p, l, e, R), (s, m, args, below), (meth, c, D, b), (P, X, mc, ms)) own cc nL rt nm d tb) {i : MI} {d' mc' ms' idx a ci : Nat} {As : List Value} {P' : Option Value → Hp → Prop} {X' : String → Hp → Prop}
    (hc : Cal l D b i d' mc' ms' (.ref a :: As) h P' X') (hw : LkV own idx i) (hci : (vcl[ci]?).map (·.1) = some i.1.cls) (ha : h.1 a = some (.inl ci)) (hn : As.length = i.2.2.2.2) (hdd : d' + 1 ≤ d) (hL : L.length = nL) (hcat : (rest.map fun v => v.category).sum ≤ 8)
    (hst : st = As.reverse ++ .ref a :: rest) (hd : decode cc pc = .ok (.invokevirtual idx, 3)) (hroom : cs + mc' ≤ mc ∧ ss + ms' ≤ ms) (kx : ∀ E h', X' E h' → ∃ hp, Hnd own tb pc E hp ∧ ∀ q, V ((p, l, e, R), (s, m, args, below), (meth, c, D, b), (P, X, mc, ms)) h' (cs + mc') (ss + ms') hp L [.ref q])
    (kk : ∀ v h', P' v h' → V ((p, l, e, R), (s, m, args, below), (meth, c, D, b), (P, X, mc, ms)) h' (cs + mc') (ss + ms') (pc + 3) L (v.toList ++ rest)) : V ((p, l, e, R), (s, m, args, below), (meth, c, D, b), (P, X, mc, ms)) h cs ss pc L st := by
  obtain ⟨hx, hb, hml, hown, hts, hrt, hlk, hnm, hKn, hbs, hR0, hfl, hxt⟩ := id K
  obtain ⟨w1, w2, w3, w4, w5, y1, y2, y3, y4⟩ := hw
  subst hst
  have hR0' : R = rmD d mc ms := hR0
  refine v_backH (a := (Value.ref a :: As).toArray) K (fun H locs ls hR hS hLs => ?_) kx kk
  have hcell : ∃ cellB : Cell, H[a]? = some cellB ∧ cellB.vm.isStatics = false ∧ s.vm.findClass i.1.cls = some cellB.cls := by
    obtain ⟨_, r, hr, cell, q1, q2, q3, -⟩ := hR a _ ha
    rw [hr] at hci
    have e1 : r.1 = i.1.cls := Option.some.inj hci
    exact ⟨cell, q1, by rw [q3]; rfl, by rw [q2, ← e1]; exact (hKn.1.1 ci r hr).2.1⟩
  refine vx_runV (C := i.1.cls) ⟨hx, hb, hml, hown, hts⟩ hc (cwV i.2.2.2.2 hts ?_ rfl rfl rfl ⟨rfl, y1, y2, y3⟩ ⟨by rw [hR0']; exact hdd, by rw [hR0']; show 8 + (i.2.2.1 + 11) + 35 * d' ≤ 35 * d; omega⟩) ⟨PA.blind, hcell, fun U hU hW => ⟨rfl, by rw [hU]; exact hR, by rw [hU]; exact (v_kn hKn hS).moved hW, by rw [hU]; exact Nat.le_trans hbs hS.1⟩⟩ rfl hn (hLs.1.trans hL) rfl (lv_room hcat) hd ⟨by rw [hR0']; exact Nat.le_trans hroom.1 (Nat.le_refl _), by rw [hR0']; exact hroom.2⟩
  intro w hw
  rcases List.mem_append.mp hw with hw | hw
  · simp only [List.mem_cons, List.mem_nil_iff, or_false] at hw
    rcases hw with rfl | rfl | rfl | rfl
    · exact ⟨w1, wsG_good w1⟩
    · exact ⟨w2, wsG_good w2⟩
    · exact ⟨w3, wsG_good w3⟩
    · exact ⟨w4, wsG_good w4⟩
  · exact v_good w5 w hw
theorem v_callIH (K : Ok ((p, l, e, R), (s, m, args, below), (meth, c, D, b), (P, X, mc, ms)) own cc nL rt nm d tb) {i : MI} {d' mc' ms' idx a : Nat} {As : List Value} {P' : Option Value → Hp → Prop}
    (hc : Cal l D b i d' mc' ms' (.ref a :: As) h P' (fun _ _ => False)) (hw : LkI own idx i) (hn : As.length = i.2.2.2.2) (hdd : d' + 1 ≤ d) (hL : L.length = nL) (hcat : (rest.map fun v => v.category).sum ≤ 8)
    (hst : st = As.reverse ++ .ref a :: rest) (hd : decode cc pc = .ok (.invokespecial idx, 3)) (hroom : cs + mc' ≤ mc ∧ ss + ms' ≤ ms)
    (kk : ∀ v h', P' v h' → V ((p, l, e, R), (s, m, args, below), (meth, c, D, b), (P, X, mc, ms)) h' (cs + mc') (ss + ms') (pc + 3) L (v.toList ++ rest)) : V ((p, l, e, R), (s, m, args, below), (meth, c, D, b), (P, X, mc, ms)) h cs ss pc L st := by
  obtain ⟨hx, hb, hml, hown, hts, hrt, hlk, hnm, hKn, hbs, hR0, hfl, hxt⟩ := id K
  obtain ⟨w1, w2, w4, w5, y0, y9, y1, y2, y3, y4⟩ := hw
  subst hst
  have hR0' : R = rmD d mc ms := hR0
  have hM := hc.met
  rw [y0] at hM
  refine v_backH (X' := fun _ _ => False) (a := (Value.ref a :: As).toArray) K (fun H locs ls hR hS hLs => ?_) (fun _ _ hf => hf.elim) kk
  have hG : GoodIn wsG (Cond.code i.1 i.2.1 i.2.2.1 none :: wsG) := by
    intro w hw
    rcases List.mem_cons.mp hw with rfl | hw
    · exact ⟨w5, wsG_good w5⟩
    · exact ⟨hw, wsG_good hw⟩
  have hr := va_runI (p := p) (s := s) (m := m) (args := args) (locs := locs) (meth := meth) (c := c) (H := H) (cells := cs) (slots := ss) (below := below) (e := e) (rest := rest) (g := F0 m pc ls (As.reverse ++ .ref a :: rest)) ⟨hx, hb, hml, hown, hts⟩ hM (cwI (R := R) i.2.2.2.2 hts hG rfl rfl rfl (hts _ w4) (hts _ w1) (hts _ w2) y9 ⟨y1, y2, y3⟩ ⟨by rw [hR0']; exact hdd, by rw [hR0']; show 8 + (i.2.2.1 + 11) + 35 * d' ≤ 35 * d; omega⟩) ⟨PA.blind, fun U hU hW => ⟨rfl, by rw [hU]; exact hR, by rw [hU]; exact (v_kn hKn hS).moved hW, by rw [hU]; exact Nat.le_trans hbs hS.1⟩⟩ rfl hn (hLs.1.trans hL) rfl (lv_room hcat) hd ⟨by rw [hR0']; exact hroom.1, by rw [hR0']; exact hroom.2⟩
  intro T hT X9
  obtain ⟨v, st₀, t, T', L9, g0, g1, g2, g3, g4, g5, g6⟩ := hr T hT X9
  exact Or.inl ⟨v, st₀, t, T', L9, g0, g1, g2, g3, g4, g5, g6⟩
/-- the words of a call of a static method with a table -/
def LkSH (own : String) (idx : Nat) (i : MI) (hh : List (Nat × Nat × Nat × Nat)) : Prop := (Cond.methodLink own idx i.1 ∈ wsG ∧ Cond.static i.1 ∈ wsG ∧ Cond.initialized i.1.cls ∈ wsG ∧ Cond.codeWith i.1 i.2.1 i.2.2.1 i.2.2.2.1 hh ∈ wsG) ∧ i.1.cls ≠ "java/lang/invoke/MethodHandle" ∧ i.1.cls ≠ "java/lang/invoke/VarHandle" ∧ (parseMethodDescriptor i.1.desc).map (fun d => d.parameters.length) = some i.2.2.2.2 ∧ i.2.2.1 ≤ 16
theorem v_callSH (K : Ok ((p, l, e, R), (s, m, args, below), (meth, c, D, b), (P, X, mc, ms)) own cc nL rt nm d tb) {i : MI} {hh : List (Nat × Nat × Nat × Nat)} {d' mc' ms' idx : Nat} {As : List Value} {P' : Option Value → Hp → Prop}
    (hc : HCal l D b i hh d' mc' ms' As h P' (fun _ _ => False)) (hw : LkSH own idx i hh) (hn : As.length = i.2.2.2.2) (hdd : d' + 1 ≤ d) (hL : L.length = nL) (hcat : (rest.map fun v => v.category).sum ≤ 8)
    (hst : st = As.reverse ++ rest) (hd : decode cc pc = .ok (.invokestatic idx, 3)) (hroom : cs + mc' ≤ mc ∧ ss + ms' ≤ ms)
    (kk : ∀ v h', P' v h' → V ((p, l, e, R), (s, m, args, below), (meth, c, D, b), (P, X, mc, ms)) h' (cs + mc') (ss + ms') (pc + 3) L (v.toList ++ rest)) : V ((p, l, e, R), (s, m, args, below), (meth, c, D, b), (P, X, mc, ms)) h cs ss pc L st := by
  obtain ⟨hx, hb, hml, hown, hts, hrt, hlk, hnm, hKn, hbs, hR0, hfl, hxt⟩ := id K
  obtain ⟨⟨w1, w2, w4, w5⟩, y1, y2, y3, y4⟩ := hw
  subst hst
  have hR0' : R = rmD d mc ms := hR0
  refine v_backH (X' := fun _ _ => False) (a := As.toArray) K (fun H locs ls hR hS hLs => ?_) (fun _ _ hf => hf.elim) kk
  have hG : GoodIn wsG (va_wsS own idx i.1 (Cond.codeWith i.1 i.2.1 i.2.2.1 i.2.2.2.1 hh :: wsG)) := by
    intro w hw
    rcases List.mem_append.mp hw with hw | hw
    · simp only [List.mem_cons, List.mem_nil_iff, or_false] at hw
      rcases hw with rfl | rfl | rfl
      · exact ⟨w1, wsG_good w1⟩
      · exact ⟨w2, wsG_good w2⟩
      · exact ⟨w4, wsG_good w4⟩
    · rcases List.mem_cons.mp hw with rfl | hw
      · exact ⟨w5, wsG_good w5⟩
      · exact ⟨hw, wsG_good hw⟩
  have hr := vx_runSW (p := p) (s := s) (m := m) (args := args) (locs := locs) (meth := meth) (c := c) (H := H) (cells := cs) (slots := ss) (below := below) (e := e) (rest := rest) (g := F0 m pc ls (As.reverse ++ rest)) ⟨hx, hb, hml, hown, hts⟩ hc.met (vx_cwSW (R := R) i.2.2.2.2 hts hG rfl rfl rfl ⟨y1, y2, y3⟩ ⟨by rw [hR0']; exact hdd, by rw [hR0']; show 8 + (i.2.2.1 + 11) + 35 * d' ≤ 35 * d; omega⟩) ⟨PA.blind, fun U hU hW => ⟨rfl, by rw [hU]; exact hR, by rw [hU]; exact (v_kn hKn hS).moved hW, by rw [hU]; exact Nat.le_trans hbs hS.1⟩⟩ rfl hn (hLs.1.trans hL) rfl (lv_room hcat) hd ⟨by rw [hR0']; exact hroom.1, by rw [hR0']; exact hroom.2⟩
  intro T hT X9
  obtain ⟨v, st₀, t, T', L9, g0, g1, g2, g3, g4, g5, g6⟩ := hr T hT X9
  exact Or.inl ⟨v, st₀, t, T', L9, g0, g1, g2, g3, g4, g5, g6⟩
theorem v_sld (K : Ok ((p, l, e, R), (s, m, args, below), (meth, c, D, b), (P, X, mc, ms)) own cc nL rt nm d tb) {b9 n9 : Nat} {xs : Nat → Int32} (hX : va_X b9 n9 xs s s.heap) (hbl : b9 < s.heap.size) (hbA : ¬ b ≤ b9) {i : Int32} (hin : vp_in i n9) (hd : decode cc pc = .ok (.iaload, 1))
    (kk : V ((p, l, e, R), (s, m, args, below), (meth, c, D, b), (P, X, mc, ms)) h cs ss (pc + 1) L (.int (xs i.toNatClampNeg) :: rest)) : V ((p, l, e, R), (s, m, args, below), (meth, c, D, b), (P, X, mc, ms)) h cs ss pc L (.int i :: .ref b9 :: rest) := by
  obtain ⟨hx, hb, -⟩ := id K
  intro H locs ls hR hS hLs
  exact va_sld (A := fun q => b ≤ q) hx hb hX hbl hbA hS hin hd (kk H locs ls hR hS hLs)
theorem v_slenA (K : Ok ((p, l, e, R), (s, m, args, below), (meth, c, D, b), (P, X, mc, ms)) own cc nL rt nm d tb) {b9 n9 : Nat} {xs : Nat → Int32} (hX : va_X b9 n9 xs s s.heap) (hbl : b9 < s.heap.size) (hbA : ¬ b ≤ b9) (hd : decode cc pc = .ok (.arraylength, 1))
    (kk : V ((p, l, e, R), (s, m, args, below), (meth, c, D, b), (P, X, mc, ms)) h cs ss (pc + 1) L (.int (nI n9) :: rest)) : V ((p, l, e, R), (s, m, args, below), (meth, c, D, b), (P, X, mc, ms)) h cs ss pc L (.ref b9 :: rest) := by
  obtain ⟨hx, hb, -⟩ := id K
  intro H locs ls hR hS hLs
  exact va_slen (A := fun q => b ≤ q) hx hb hX hbl hbA hS hd (kk H locs ls hR hS hLs)
end VH
