section VCALL
variable {p : Program} {l : Launch} {e : Env} {R : Room} {s : State} {m : MethodId} {args : Array Value} {below : List Frame} {meth : Method} {c : Code} {D : Dg} {b : Nat} {P : Option Value → Hp → Prop} {X : String → Hp → Prop} {mc ms : Nat}
variable {own nm : String} {cc : ByteArray} {nL d : Nat} {rt : Option FieldType} {tb : List ExceptionTableEntry} {h : Hp} {cs ss pc : Nat} {L : List (Option Value)} {st : List Value} {F : Nat → Option Fq}
theorem rn_ok (K : Ok ((p, l, e, R), (s, m, args, below), (meth, c, D, b), (P, X, mc, ms)) own cc nL rt nm d tb) (hF : Fok own F) {ini : Option Nat} (hini : ∀ c, ini = some c → nm = "<init>" ∧ ∀ r : vw_C, vcl[c]? = some r → ∀ k, k < r.2.2 → (r.2.1 k).1 = own) (stop : List Nat) (f : Nat) : ∀ pc L st h cs ss,
    rn cc F ini rt (finC ((p, l, e, R), (s, m, args, below), (meth, c, D, b), (P, X, mc, ms))) (fun pc L st h cs ss => V ((p, l, e, R), (s, m, args, below), (meth, c, D, b), (P, X, mc, ms)) h cs ss pc L st) stop f pc L st h cs ss → V ((p, l, e, R), (s, m, args, below), (meth, c, D, b), (P, X, mc, ms)) h cs ss pc L st := by
  induction f with
  | zero => exact fun pc L st h cs ss k => k
  | succ f ih =>
    intro pc L st h cs ss k
    unfold rn at k
    split at k
    · exact k
    · split at k
      · rename_i i n hd
        exact sw_ok K hF hini (fun pc L st h cs ss k => k) ih i n pc L st h cs ss hd k
      · exact k.elim
theorem rn1_ok (K : Ok ((p, l, e, R), (s, m, args, below), (meth, c, D, b), (P, X, mc, ms)) own cc nL rt nm d tb) (hF : Fok own F) {ini : Option Nat} (hini : ∀ c, ini = some c → nm = "<init>" ∧ ∀ r : vw_C, vcl[c]? = some r → ∀ k, k < r.2.2 → (r.2.1 k).1 = own) (stop : List Nat) (f : Nat)
    (k : rn1 cc F ini rt (finC ((p, l, e, R), (s, m, args, below), (meth, c, D, b), (P, X, mc, ms))) (fun pc L st h cs ss => V ((p, l, e, R), (s, m, args, below), (meth, c, D, b), (P, X, mc, ms)) h cs ss pc L st) stop f pc L st h cs ss) : V ((p, l, e, R), (s, m, args, below), (meth, c, D, b), (P, X, mc, ms)) h cs ss pc L st := by
  unfold rn1 at k
  split at k
  · rename_i i n hd
    exact sw_ok K hF hini (fun pc L st h cs ss k => k) (rn_ok K hF hini stop f) i n pc L st h cs ss hd k
  · exact k.elim
/-- a method's entry -/
theorem v_entry (i : MI) (hy : plainName i.1.cls = true) (hmem : Cond.code i.1 i.2.1 i.2.2.1 i.2.2.2.1 ∈ wsG) {As : List Value} (hcat : ∀ v ∈ As, v.category = 1) (hfl : l.flags = flags0)
    (k : ∀ C : Ctx, C.1.2.1 = l → C.2.2.1.2.2.1 = D → C.2.2.1.2.2.2 = b → C.2.2.2 = (P, X, mc, ms) → Ok C i.1.cls i.2.1 i.2.2.1 i.2.2.2.1 i.1.name d [] → V C h 0 0 0 (As.map some ++ List.replicate (i.2.2.1 - As.length) none) []) : Cal l D b i d mc ms As h P X := by
  refine vx_ofW hy rfl ?_
  intro p e s m args below meth c s₁ B hml hxt hv
  obtain ⟨rfl, hRel, hKn, hbs⟩ := hv
  have hts0 := atoms_spec (ws := Cond.code i.1 i.2.1 i.2.2.1 i.2.2.2.1 :: wsG) B.pre
  have hxt' : c.exceptionTable.toList = [] := List.eq_nil_iff_forall_not_mem.mpr hxt
  have hV := k ((p, l, e, rmD d mc ms), (s, m, As.toArray, below), (meth, c, D, b), (P, X, mc, ms)) rfl rfl rfl rfl
    ⟨B.exec, B.bytes, hml, findClass_of_methodNamed B.named, fun w hw => hts0 w (List.mem_cons_of_mem _ hw), B.returns, B.notSynchronized, (name_of_methodNamed B.named B.method).1, hKn, hbs, rfl, hfl, hxt'⟩
  have h2 := hV s.heap [] _ hRel va_S.rf (lsok.entry hcat i.2.2.1)
  rw [entry_eq m As hcat]
  exact h2
/-- the words of a call -/
def LkV (own : String) (idx : Nat) (i : MI) : Prop := Cond.methodLink own idx i.1 ∈ wsG ∧ Cond.instanceMethod i.1 ∈ wsG ∧ Cond.selects i.1.cls i.1 i.1 ∈ wsG ∧ Cond.initialized i.1.cls ∈ wsG ∧ Cond.code i.1 i.2.1 i.2.2.1 i.2.2.2.1 ∈ wsG ∧ i.1.cls ≠ "java/lang/invoke/MethodHandle" ∧ i.1.cls ≠ "java/lang/invoke/VarHandle" ∧ (parseMethodDescriptor i.1.desc).map (fun d => d.parameters.length) = some i.2.2.2.2 ∧ i.2.2.1 ≤ 16
def LkS (own : String) (idx : Nat) (i : MI) : Prop := Cond.methodLink own idx i.1 ∈ wsG ∧ Cond.static i.1 ∈ wsG ∧ Cond.initialized i.1.cls ∈ wsG ∧ Cond.code i.1 i.2.1 i.2.2.1 i.2.2.2.1 ∈ wsG ∧ i.1.cls ≠ "java/lang/invoke/MethodHandle" ∧ i.1.cls ≠ "java/lang/invoke/VarHandle" ∧ (parseMethodDescriptor i.1.desc).map (fun d => d.parameters.length) = some i.2.2.2.2 ∧ i.2.2.1 ≤ 16
def LkI (own : String) (idx : Nat) (i : MI) : Prop := Cond.methodLink own idx i.1 ∈ wsG ∧ Cond.instanceMethod i.1 ∈ wsG ∧ Cond.initialized i.1.cls ∈ wsG ∧ Cond.code i.1 i.2.1 i.2.2.1 none ∈ wsG ∧ i.2.2.2.1 = none ∧ i.1.name = "<init>" ∧ i.1.cls ≠ "java/lang/invoke/MethodHandle" ∧ i.1.cls ≠ "java/lang/invoke/VarHandle" ∧ (parseMethodDescriptor i.1.desc).map (fun d => d.parameters.length) = some i.2.2.2.2 ∧ i.2.2.1 ≤ 16
theorem v_good {i : MI} (h : Cond.code i.1 i.2.1 i.2.2.1 i.2.2.2.1 ∈ wsG) : GoodIn wsG (Cond.code i.1 i.2.1 i.2.2.1 i.2.2.2.1 :: wsG) := by
  intro w hw
  rcases List.mem_cons.mp hw with rfl | hw
  · exact ⟨h, wsG_good h⟩
  · exact ⟨hw, wsG_good hw⟩
theorem v_keep {H H1 : Heap} {locs L9 : List Loc} (hbs : b ≤ s.heap.size) (hS : va_S (fun q => b ≤ q) s.heap H locs) (hz : H.size ≤ H1.size) (hk : ∀ q : Nat, q < b → H1[q]? = H[q]?) (hL : ∀ z ∈ L9, b ≤ z.base) : va_S (fun q => b ≤ q) s.heap H1 (locs ++ L9) := by
  refine ⟨Nat.le_trans hS.1 hz, fun q h1 h2 => ?_, fun q hq => ?_⟩
  · rw [hk q (Nat.not_le.mp h2)]
    exact hS.2.1 q h1 h2
  · rcases List.mem_append.mp hq with h | h
    · exact hS.2.2 q h
    · exact hL q h
/-- behind a call: it has returned, or thrown what nobody here catches -/
theorem v_back (K : Ok ((p, l, e, R), (s, m, args, below), (meth, c, D, b), (P, X, mc, ms)) own cc nL rt nm d []) {mc' ms' : Nat} {P' : Option Value → Hp → Prop} {X' : String → Hp → Prop} {a : Array Value} {rest : List Value} (hroom : cs + mc' ≤ mc ∧ ss + ms' ≤ ms)
    (hr : ∀ (H : Heap) (locs : List Loc) (ls : Array Slot), Rel D b h H → va_S (fun q => b ≤ q) s.heap H locs → lsok L ls → vx_Run p l e R s m args below meth c H locs cs ss mc' ms' (F0 m pc ls st) rest (PQ D b P' a) (PX D b X') (fun q => b ≤ q))
    (kx : ∀ E h', X' E h' → X E h') (kk : ∀ v h', P' v h' → V ((p, l, e, R), (s, m, args, below), (meth, c, D, b), (P, X, mc, ms)) h' (cs + mc') (ss + ms') (pc + 3) L (v.toList ++ rest)) :
    V ((p, l, e, R), (s, m, args, below), (meth, c, D, b), (P, X, mc, ms)) h cs ss pc L st := by
  obtain ⟨hx, hb, hml, hown, hts, hrt, hlk, hnm, hKn, hbs, hR0, hfl, hxt⟩ := id K
  intro H locs ls hR hS hL T hT X9
  rcases hr H locs ls hR hS hL T hT X9 with ⟨v, st₀, t, T', L9, h0, X', hL9, e1, e2, ⟨v', h', hv, hP', hR', hz, hk⟩, st9⟩ | ⟨q, st₀, t, T', L9, E, ce, h0, X', hL9, e1, e2, ⟨h', hX', hR', hz, hk⟩, hce, hcv, hcl, st9⟩
  · have hvv : v = v' := Outcome.returned.inj hv
    subst hvv
    rw [h0] at hz hk
    obtain ⟨t2, a1, b1⟩ := kk v h' hP' T'.heap (locs ++ L9) ls (by rw [e1]; exact hR') (v_keep hbs hS (by rw [e1]; exact hz) (fun q hq => by rw [e1]; exact hk q hq) hL9) hL T' rfl X'
    exact ⟨t2, st9 t2 a1, b1⟩
  · rw [h0] at hz hk
    have hS' : va_S (fun q => b ≤ q) s.heap T'.heap (locs ++ L9) := v_keep hbs hS (by rw [e1]; exact hz) (fun q hq => by rw [e1]; exact hk q hq) hL9
    obtain ⟨t2, a1, b1⟩ := vx_out (p := p) (l := l) (e := e) (R := R) (below := below) (cells := cs + mc') (slots := ss + ms') (Qc := PQ D b P) (XC := PX D b X) (free := fun q => b ≤ q) (ls := ls) (rest := rest) (pc := pc) (mc := mc) (ms := ms) (by rw [hxt]; exact fun x hx => nomatch hx) hlk (by rw [e1]; exact hce) hcv hcl
      (fun t9 ht9 _ => ⟨h', kx E h' hX', by rw [ht9, e1]; exact hR', by rw [ht9]; exact hS'.1, fun q hq => by rw [ht9]; exact hS'.2.1 q (Nat.lt_of_lt_of_le hq hbs) (Nat.not_le.mpr hq)⟩) hS'.2.2 hroom.1 hroom.2 T' rfl X'
    exact ⟨t2, st9.trans a1, b1⟩
theorem v_kn {H : Heap} {locs : List Loc} (hKn : Kn D b s s.heap) (hS : va_S (fun q => b ≤ q) s.heap H locs) : Kn D b s H := hKn.kept fun a h1 h2 => hS.2.1 a h1 h2
theorem v_callV (K : Ok ((p, l, e, R), (s, m, args, below), (meth, c, D, b), (P, X, mc, ms)) own cc nL rt nm d []) {i : MI} {d' mc' ms' idx a ci : Nat} {As rest : List Value} {P' : Option Value → Hp → Prop} {X' : String → Hp → Prop}
    (hc : Cal l D b i d' mc' ms' (.ref a :: As) h P' X') (hw : LkV own idx i) (hci : (vcl[ci]?).map (·.1) = some i.1.cls) (ha : h.1 a = some (.inl ci)) (hn : As.length = i.2.2.2.2) (hdd : d' + 1 ≤ d) (hL : L.length = nL) (hcat : (rest.map fun v => v.category).sum ≤ 8)
    (hst : st = As.reverse ++ .ref a :: rest) (hd : decode cc pc = .ok (.invokevirtual idx, 3)) (hroom : cs + mc' ≤ mc ∧ ss + ms' ≤ ms) (kx : ∀ E h', X' E h' → X E h')
    (kk : ∀ v h', P' v h' → V ((p, l, e, R), (s, m, args, below), (meth, c, D, b), (P, X, mc, ms)) h' (cs + mc') (ss + ms') (pc + 3) L (v.toList ++ rest)) : V ((p, l, e, R), (s, m, args, below), (meth, c, D, b), (P, X, mc, ms)) h cs ss pc L st := by
  obtain ⟨hx, hb, hml, hown, hts, hrt, hlk, hnm, hKn, hbs, hR0, hfl, hxt⟩ := id K
  obtain ⟨w1, w2, w3, w4, w5, y1, y2, y3, y4⟩ := hw
  subst hst
  have hR0' : R = rmD d mc ms := hR0
  refine v_back (a := (Value.ref a :: As).toArray) K hroom (fun H locs ls hR hS hLs => ?_) kx kk
  have hcell : ∃ cellB : Cell, H[a]? = some cellB ∧ cellB.vm.isStatics = false ∧ s.vm.findClass i.1.cls = some cellB.cls := by
    obtain ⟨_, r, hr, cell, q1, q2, q3, -⟩ := hR a _ ha
    rw [hr] at hci
    have e1 : r.1 = i.1.cls := Option.some.inj hci
    exact ⟨cell, q1, by rw [q3]; rfl, by rw [q2, ← e1]; exact (hKn.1.1 ci r hr).2.1⟩
  refine vx_runV (C := i.1.cls) ⟨hx, hb, hml, hown, hts⟩ hc (cwV i.2.2.2.2 hts ?_ rfl rfl rfl ⟨rfl, y1, y2, y3⟩ ⟨by rw [hR0']; exact hdd, by rw [hR0']; show 8 + (i.2.2.1 + 11) + 35 * d' ≤ 35 * d; omega⟩) ⟨PA.blind, hcell, fun U hU hW => ⟨rfl, by rw [hU]; exact hR, by rw [hU]; exact (v_kn hKn hS).moved hW, by rw [hU]; exact Nat.le_trans hbs hS.1⟩⟩ rfl hn (hLs.1.trans hL) rfl (lv_room hcat) hd ⟨by rw [hR0']; exact hroom.1, by rw [hR0']; exact hroom.2⟩
  intro w hw
  rcases List.mem_append.mp hw with hw | hw
  · simp only [List.mem_cons, List.mem_nil_iff, or_false] at hw
    rcases hw with rfl | rfl | rfl | rfl
    · exact ⟨w1, wsG_good w1⟩
    · exact ⟨w2, wsG_good w2⟩
    · exact ⟨w3, wsG_good w3⟩
    · exact ⟨w4, wsG_good w4⟩
  · exact v_good w5 w hw
theorem v_callS (K : Ok ((p, l, e, R), (s, m, args, below), (meth, c, D, b), (P, X, mc, ms)) own cc nL rt nm d []) {i : MI} {d' mc' ms' idx : Nat} {As rest : List Value} {P' : Option Value → Hp → Prop} {X' : String → Hp → Prop}
    (hc : Cal l D b i d' mc' ms' As h P' X') (hw : LkS own idx i) (hn : As.length = i.2.2.2.2) (hdd : d' + 1 ≤ d) (hL : L.length = nL) (hcat : (rest.map fun v => v.category).sum ≤ 8)
    (hst : st = As.reverse ++ rest) (hd : decode cc pc = .ok (.invokestatic idx, 3)) (hroom : cs + mc' ≤ mc ∧ ss + ms' ≤ ms) (kx : ∀ E h', X' E h' → X E h')
    (kk : ∀ v h', P' v h' → V ((p, l, e, R), (s, m, args, below), (meth, c, D, b), (P, X, mc, ms)) h' (cs + mc') (ss + ms') (pc + 3) L (v.toList ++ rest)) : V ((p, l, e, R), (s, m, args, below), (meth, c, D, b), (P, X, mc, ms)) h cs ss pc L st := by
  obtain ⟨hx, hb, hml, hown, hts, hrt, hlk, hnm, hKn, hbs, hR0, hfl, hxt⟩ := id K
  obtain ⟨w1, w2, w4, w5, y1, y2, y3, y4⟩ := hw
  subst hst
  have hR0' : R = rmD d mc ms := hR0
  refine v_back (a := As.toArray) K hroom (fun H locs ls hR hS hLs => ?_) kx kk
  refine vx_runS ⟨hx, hb, hml, hown, hts⟩ hc (va_cwS i.2.2.2.2 hts ?_ rfl rfl rfl ⟨y1, y2, y3⟩ ⟨by rw [hR0']; exact hdd, by rw [hR0']; show 8 + (i.2.2.1 + 11) + 35 * d' ≤ 35 * d; omega⟩) ⟨PA.blind, fun U hU hW => ⟨rfl, by rw [hU]; exact hR, by rw [hU]; exact (v_kn hKn hS).moved hW, by rw [hU]; exact Nat.le_trans hbs hS.1⟩⟩ rfl hn (hLs.1.trans hL) rfl (lv_room hcat) hd ⟨by rw [hR0']; exact hroom.1, by rw [hR0']; exact hroom.2⟩
  intro w hw
  rcases List.mem_append.mp hw with hw | hw
  · simp only [List.mem_cons, List.mem_nil_iff, or_false] at hw
    rcases hw with rfl | rfl | rfl
    · exact ⟨w1, wsG_good w1⟩
    · exact ⟨w2, wsG_good w2⟩
    · exact ⟨w4, wsG_good w4⟩
  · exact v_good w5 w hw
/-- a contract of what throws nothing, as the kit's own -/
theorem Cal.met {i : MI} {d' mc' ms' : Nat} {As : List Value} {P' : Option Value → Hp → Prop} (hc : Cal l D b i d' mc' ms' As h P' (fun _ _ => False)) : Met l i.1 (Cond.code i.1 i.2.1 i.2.2.1 i.2.2.2.1 :: wsG) (rmD d' mc' ms') (PA D b As h) (PQ D b P') mc' ms' (fun q => b ≤ q) := by
  intro p e ha hcas hclk s m args below hf happ hP hk
  obtain ⟨n, o, h1, h2, h3, h4⟩ := hc p e ha hcas hclk s m args below hf happ hP hk
  refine ⟨n, o, h1, h2, h3, ?_⟩
  rcases h4 with h4 | ⟨q, -, E, ce, L, ⟨h', hF, -⟩, -⟩
  · exact h4
  · exact hF.elim
theorem v_callI (K : Ok ((p, l, e, R), (s, m, args, below), (meth, c, D, b), (P, X, mc, ms)) own cc nL rt nm d []) {i : MI} {d' mc' ms' idx a : Nat} {As rest : List Value} {P' : Option Value → Hp → Prop}
    (hc : Cal l D b i d' mc' ms' (.ref a :: As) h P' (fun _ _ => False)) (hw : LkI own idx i) (hn : As.length = i.2.2.2.2) (hdd : d' + 1 ≤ d) (hL : L.length = nL) (hcat : (rest.map fun v => v.category).sum ≤ 8)
    (hst : st = As.reverse ++ .ref a :: rest) (hd : decode cc pc = .ok (.invokespecial idx, 3)) (hroom : cs + mc' ≤ mc ∧ ss + ms' ≤ ms)
    (kk : ∀ v h', P' v h' → V ((p, l, e, R), (s, m, args, below), (meth, c, D, b), (P, X, mc, ms)) h' (cs + mc') (ss + ms') (pc + 3) L (v.toList ++ rest)) : V ((p, l, e, R), (s, m, args, below), (meth, c, D, b), (P, X, mc, ms)) h cs ss pc L st := by
  obtain ⟨hx, hb, hml, hown, hts, hrt, hlk, hnm, hKn, hbs, hR0, hfl, hxt⟩ := id K
  obtain ⟨w1, w2, w4, w5, y0, y9, y1, y2, y3, y4⟩ := hw
  subst hst
  have hR0' : R = rmD d mc ms := hR0
  have hM := hc.met
  rw [y0] at hM
  refine v_back (X' := fun _ _ => False) (a := (Value.ref a :: As).toArray) K hroom (fun H locs ls hR hS hLs => ?_) (fun _ _ hf => hf.elim) kk
  have hG : GoodIn wsG (Cond.code i.1 i.2.1 i.2.2.1 none :: wsG) := by
    intro w hw
    rcases List.mem_cons.mp hw with rfl | hw
    · exact ⟨w5, wsG_good w5⟩
    · exact ⟨hw, wsG_good hw⟩
  have hr := va_runI (p := p) (s := s) (m := m) (args := args) (locs := locs) (meth := meth) (c := c) (H := H) (cells := cs) (slots := ss) (below := below) (e := e) (rest := rest) (g := F0 m pc ls (As.reverse ++ .ref a :: rest)) ⟨hx, hb, hml, hown, hts⟩ hM (cwI (R := R) i.2.2.2.2 hts hG rfl rfl rfl (hts _ w4) (hts _ w1) (hts _ w2) y9 ⟨y1, y2, y3⟩ ⟨by rw [hR0']; exact hdd, by rw [hR0']; show 8 + (i.2.2.1 + 11) + 35 * d' ≤ 35 * d; omega⟩) ⟨PA.blind, fun U hU hW => ⟨rfl, by rw [hU]; exact hR, by rw [hU]; exact (v_kn hKn hS).moved hW, by rw [hU]; exact Nat.le_trans hbs hS.1⟩⟩ rfl hn (hLs.1.trans hL) rfl (lv_room hcat) hd ⟨by rw [hR0']; exact hroom.1, by rw [hR0']; exact hroom.2⟩
  intro T hT X9
  obtain ⟨v, st₀, t, T', L9, g0, g1, g2, g3, g4, g5, g6⟩ := hr T hT X9
  exact Or.inl ⟨v, st₀, t, T', L9, g0, g1, g2, g3, g4, g5, g6⟩
end VCALL
