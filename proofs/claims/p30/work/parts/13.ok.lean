section VOK
variable {p : Program} {l : Launch} {e : Env} {R : Room} {s : State} {m : MethodId} {args : Array Value} {below : List Frame} {meth : Method} {c : Code} {H : Heap} {locs : List Loc} {cells slots : Nat} {Q : State → Prop} {cc : ByteArray} {pc : Nat} {ls : Array Slot} {rest : List Value}
theorem w_istore (hexec : p.tables.exec = Jvm.exec) (hb : c.code = cc) {i : Nat} {x : Int32} {ls' : Array Slot} (hdg : decode cc pc = .ok (.istore i, 2)) (e' : storeLocals ls i (.int x) = some ls')
    (k : W p l e R s m args below meth c H locs cells slots Q (F0 m (pc + 2) ls' rest)) : W p l e R s m args below meth c H locs cells slots Q (F0 m pc ls (.int x :: rest)) := by
  intro T hT X
  obtain ⟨t, a, b⟩ := k T hT X
  refine ⟨t, ?_, b⟩
  jvm_step X.here [X.here.top, ↓top_set X.here.top, hexec, hb, hdg, e']
  exact a
theorem w_istore_n (hexec : p.tables.exec = Jvm.exec) (hb : c.code = cc) {i : Fin 4} {x : Int32} {ls' : Array Slot} (hdg : decode cc pc = .ok (.istore_n i, 1)) (e' : storeLocals ls i.val (.int x) = some ls')
    (k : W p l e R s m args below meth c H locs cells slots Q (F0 m (pc + 1) ls' rest)) : W p l e R s m args below meth c H locs cells slots Q (F0 m pc ls (.int x :: rest)) := by
  intro T hT X
  obtain ⟨t, a, b⟩ := k T hT X
  refine ⟨t, ?_, b⟩
  jvm_step X.here [X.here.top, ↓top_set X.here.top, hexec, hb, hdg, e']
  exact a
theorem w_astore (hexec : p.tables.exec = Jvm.exec) (hb : c.code = cc) {i : Nat} {v : Value} {ls' : Array Slot} (hv : v = .null ∨ ∃ x, v = .ref x) (hdg : decode cc pc = .ok (.astore i, 2)) (e' : storeLocals ls i v = some ls')
    (k : W p l e R s m args below meth c H locs cells slots Q (F0 m (pc + 2) ls' rest)) : W p l e R s m args below meth c H locs cells slots Q (F0 m pc ls (v :: rest)) := by
  intro T hT X
  obtain ⟨t, a, b⟩ := k T hT X
  refine ⟨t, ?_, b⟩
  rcases hv with rfl | ⟨x, rfl⟩
  · jvm_step X.here [X.here.top, ↓top_set X.here.top, hexec, hb, hdg, e', Value.isRef]
    exact a
  · jvm_step X.here [X.here.top, ↓top_set X.here.top, hexec, hb, hdg, e', Value.isRef]
    exact a
theorem w_astore_n (hexec : p.tables.exec = Jvm.exec) (hb : c.code = cc) {i : Fin 4} {v : Value} {ls' : Array Slot} (hv : v = .null ∨ ∃ x, v = .ref x) (hdg : decode cc pc = .ok (.astore_n i, 1)) (e' : storeLocals ls i.val v = some ls')
    (k : W p l e R s m args below meth c H locs cells slots Q (F0 m (pc + 1) ls' rest)) : W p l e R s m args below meth c H locs cells slots Q (F0 m pc ls (v :: rest)) := by
  intro T hT X
  obtain ⟨t, a, b⟩ := k T hT X
  refine ⟨t, ?_, b⟩
  rcases hv with rfl | ⟨x, rfl⟩
  · jvm_step X.here [X.here.top, ↓top_set X.here.top, hexec, hb, hdg, e', Value.isRef]
    exact a
  · jvm_step X.here [X.here.top, ↓top_set X.here.top, hexec, hb, hdg, e', Value.isRef]
    exact a
theorem w_iinc (hexec : p.tables.exec = Jvm.exec) (hb : c.code = cc) {i : Nat} {n : Int} {x : Int32} {ls' : Array Slot} (hdg : decode cc pc = .ok (.iinc i n, 3)) (hg : ls[i]? = some (.val (.int x))) (e' : storeLocals ls i (.int (x + Int32.ofInt n)) = some ls')
    (k : W p l e R s m args below meth c H locs cells slots Q (F0 m (pc + 3) ls' rest)) : W p l e R s m args below meth c H locs cells slots Q (F0 m pc ls rest) := by
  intro T hT X
  obtain ⟨t, a, b⟩ := k T hT X
  refine ⟨t, ?_, b⟩
  jvm_step X.here [X.here.top, ↓top_set X.here.top, hexec, hb, hdg, hg, e']
  exact a
end VOK
theorem v_isr {t : Nat} (h : 4 ≤ t) : (vty t).isReference = true := by
  match t, h with
  | 4, _ => rfl
  | 5, _ => rfl
  | 6, _ => rfl
  | 7, _ => rfl
  | t + 8, _ => rfl
theorem v_vec {t : Nat} (h : 4 ≤ t) (h9 : t < 9) : ∃ r : vw_C, vcl[vec t]? = some r ∧ vty t = .object r.1 := by
  match t, h, h9 with
  | 4, _, _ => exact ⟨_, rfl, rfl⟩
  | 5, _, _ => exact ⟨_, rfl, rfl⟩
  | 6, _, _ => exact ⟨_, rfl, rfl⟩
  | 7, _, _ => exact ⟨_, rfl, rfl⟩
  | 8, _, _ => exact ⟨_, rfl, rfl⟩
section VOK2
variable {p : Program} {l : Launch} {e : Env} {R : Room} {s : State} {m : MethodId} {args : Array Value} {below : List Frame} {meth : Method} {c : Code} {D : Dg} {b : Nat} {P : Option Value → Hp → Prop} {X : String → Hp → Prop} {mc ms : Nat}
variable {own nm : String} {cc : ByteArray} {nL d : Nat} {rt : Option FieldType} {tb : List ExceptionTableEntry} {F : Nat → Option Fq}
abbrev finC (C : Ctx) : Option Value → Hp → Nat → Nat → Prop := fun v h cs ss => C.2.2.2.1 v h ∧ cs ≤ C.2.2.2.2.2.1 ∧ ss ≤ C.2.2.2.2.2.2
theorem v_br {h : Hp} {cs ss : Nat} {q : Prop} {A B : Prop} {G : Prop} (hb : both q A B) (f : (q → A) → (¬ q → B) → G) : G := f hb.1 hb.2
theorem v_jt {pc : Nat} {o : Int} (h : 0 ≤ (pc : Int) + o) : (pc : Int) + o = ((((pc : Int) + o).toNat : Nat) : Int) := (Int.toNat_of_nonneg h).symm
/-- the end of a method: the post, in terms of the machine -/
theorem v_end {h : Hp} {H : Heap} {locs : List Loc} {v : Option Value} (hbs : b ≤ s.heap.size) (hP : P v h) (hR : Rel D b h H) (hS : va_S (fun q => b ≤ q) s.heap H locs) : ∀ t : State, t.heap = H → s.WarmedH t.vm → PQ D b P args s (.returned v) t := by
  intro t ht _
  subst ht
  exact ⟨v, h, rfl, hP, hR, hS.1, fun q hq => hS.2.1 q (Nat.lt_of_lt_of_le hq hbs) (Nat.not_le.mpr hq)⟩
set_option maxHeartbeats 4000000 in
theorem sw_ok (K : Ok ((p, l, e, R), (s, m, args, below), (meth, c, D, b), (P, X, mc, ms)) own cc nL rt nm d tb) (hF : Fok own F) {ini : Option Nat} (hini : ∀ c, ini = some c → nm = "<init>" ∧ ∀ r : vw_C, vcl[c]? = some r → ∀ k, k < r.2.2 → (r.2.1 k).1 = own) {K0 K1 : Kt}
    (h0 : ∀ pc L st h cs ss, K0 pc L st h cs ss → V ((p, l, e, R), (s, m, args, below), (meth, c, D, b), (P, X, mc, ms)) h cs ss pc L st)
    (h1 : ∀ pc L st h cs ss, K1 pc L st h cs ss → V ((p, l, e, R), (s, m, args, below), (meth, c, D, b), (P, X, mc, ms)) h cs ss pc L st)
    (i : Instr) (n pc : Nat) (L : List (Option Value)) (st : List Value) (h : Hp) (cs ss : Nat) (hd : decode cc pc = .ok (i, n))
    (hs : sw F ini rt (finC ((p, l, e, R), (s, m, args, below), (meth, c, D, b), (P, X, mc, ms))) K0 K1 i n pc L st h cs ss) : V ((p, l, e, R), (s, m, args, below), (meth, c, D, b), (P, X, mc, ms)) h cs ss pc L st := by
  obtain ⟨hx, hb, hml, hown, hts, hr, hlk, hnm, hKn, hbs, hR0, hfl, hxt⟩ := id K
  cases i with
  | iload k =>
    obtain ⟨rfl, hs⟩ := hs
    unfold ldI at hs
    split at hs
    · rename_i x hl
      exact fun H locs ls hR hS hL => lv_iload hx hb hd (hL.2.1 _ _ hl) (h1 _ _ _ _ _ _ hs H locs ls hR hS hL)
    · exact hs.elim
  | iload_n k =>
    obtain ⟨rfl, hs⟩ := hs
    unfold ldI at hs
    split at hs
    · rename_i x hl
      exact fun H locs ls hR hS hL => lv_iload_n hx hb hd rfl (hL.2.1 _ _ hl) (h1 _ _ _ _ _ _ hs H locs ls hR hS hL)
    · exact hs.elim
  | aload k =>
    obtain ⟨rfl, hs⟩ := hs
    unfold ldA at hs
    split at hs
    · rename_i x hl
      exact fun H locs ls hR hS hL => lv_aload hx hb hd (hL.2.1 _ _ hl) (h1 _ _ _ _ _ _ hs H locs ls hR hS hL)
    · rename_i hl
      exact fun H locs ls hR hS hL => lv_aloadN hx hb hd (hL.2.1 _ _ hl) (h1 _ _ _ _ _ _ hs H locs ls hR hS hL)
    · exact hs.elim
  | aload_n k =>
    obtain ⟨rfl, hs⟩ := hs
    unfold ldA at hs
    split at hs
    · rename_i x hl
      exact fun H locs ls hR hS hL => lv_aload_n hx hb hd rfl (hL.2.1 _ _ hl) (h1 _ _ _ _ _ _ hs H locs ls hR hS hL)
    · rename_i hl
      exact fun H locs ls hR hS hL => lv_aload_nN hx hb hd rfl (hL.2.1 _ _ hl) (h1 _ _ _ _ _ _ hs H locs ls hR hS hL)
    · exact hs.elim
  | istore k =>
    obtain ⟨rfl, hs⟩ := hs
    unfold stI at hs
    split at hs
    · rename_i x r
      intro H locs ls hR hS hL
      obtain ⟨ls', e', h'⟩ := hL.store (v := .int x) hs.1 rfl
      exact w_istore hx hb hd e' (h1 _ _ _ _ _ _ hs.2 H locs ls' hR hS h')
    · exact hs.elim
  | istore_n k =>
    obtain ⟨rfl, hs⟩ := hs
    unfold stI at hs
    split at hs
    · rename_i x r
      intro H locs ls hR hS hL
      obtain ⟨ls', e', h'⟩ := hL.store (v := .int x) hs.1 rfl
      exact w_istore_n hx hb hd e' (h1 _ _ _ _ _ _ hs.2 H locs ls' hR hS h')
    · exact hs.elim
  | astore k =>
    obtain ⟨rfl, hs⟩ := hs
    unfold stA at hs
    split at hs
    · rename_i x r
      intro H locs ls hR hS hL
      obtain ⟨ls', e', h'⟩ := hL.store (v := .ref x) hs.1 rfl
      exact w_astore hx hb (Or.inr ⟨x, rfl⟩) hd e' (h1 _ _ _ _ _ _ hs.2 H locs ls' hR hS h')
    · rename_i r
      intro H locs ls hR hS hL
      obtain ⟨ls', e', h'⟩ := hL.store (v := .null) hs.1 rfl
      exact w_astore hx hb (Or.inl rfl) hd e' (h1 _ _ _ _ _ _ hs.2 H locs ls' hR hS h')
    · exact hs.elim
  | astore_n k =>
    obtain ⟨rfl, hs⟩ := hs
    unfold stA at hs
    split at hs
    · rename_i x r
      intro H locs ls hR hS hL
      obtain ⟨ls', e', h'⟩ := hL.store (v := .ref x) hs.1 rfl
      exact w_astore_n hx hb (Or.inr ⟨x, rfl⟩) hd e' (h1 _ _ _ _ _ _ hs.2 H locs ls' hR hS h')
    · rename_i r
      intro H locs ls hR hS hL
      obtain ⟨ls', e', h'⟩ := hL.store (v := .null) hs.1 rfl
      exact w_astore_n hx hb (Or.inl rfl) hd e' (h1 _ _ _ _ _ _ hs.2 H locs ls' hR hS h')
    · exact hs.elim
  | iinc k z =>
    obtain ⟨rfl, hs⟩ := hs
    unfold iic at hs
    split at hs
    · rename_i x hl
      intro H locs ls hR hS hL
      have hi : k < L.length := (List.getElem?_eq_some_iff.mp hl).1
      obtain ⟨ls', e', h'⟩ := hL.store (v := .int (x + Int32.ofInt z)) hi rfl
      exact w_iinc hx hb hd (hL.2.1 _ _ hl) e' (h1 _ _ _ _ _ _ hs H locs ls' hR hS h')
    · exact hs.elim
  | iconst z =>
    obtain ⟨rfl, hs⟩ := hs
    exact fun H locs ls hR hS hL => lv_iconst hx hb hd rfl (h1 _ _ _ _ _ _ hs H locs ls hR hS hL)
  | bipush z =>
    obtain ⟨rfl, hs⟩ := hs
    exact fun H locs ls hR hS hL => lv_bipush hx hb hd rfl (h1 _ _ _ _ _ _ hs H locs ls hR hS hL)
  | sipush z =>
    obtain ⟨rfl, hs⟩ := hs
    exact fun H locs ls hR hS hL => lv_sipush hx hb hd rfl (h1 _ _ _ _ _ _ hs H locs ls hR hS hL)
  | lconst z =>
    obtain ⟨rfl, hs⟩ := hs
    exact fun H locs ls hR hS hL => lv_lconst hx hb hd rfl (h1 _ _ _ _ _ _ hs H locs ls hR hS hL)
  | aconst_null =>
    obtain ⟨rfl, hs⟩ := hs
    exact fun H locs ls hR hS hL => lv_null hx hb hd (h1 _ _ _ _ _ _ hs H locs ls hR hS hL)
  | iadd =>
    obtain ⟨rfl, hs⟩ := hs
    unfold bop at hs
    split at hs
    · exact fun H locs ls hR hS hL => lv_iadd hx hb hd (h1 _ _ _ _ _ _ hs H locs ls hR hS hL)
    · exact hs.elim
  | isub =>
    obtain ⟨rfl, hs⟩ := hs
    unfold bop at hs
    split at hs
    · exact fun H locs ls hR hS hL => lv_isub hx hb hd (h1 _ _ _ _ _ _ hs H locs ls hR hS hL)
    · exact hs.elim
  | imul =>
    obtain ⟨rfl, hs⟩ := hs
    unfold bop at hs
    split at hs
    · exact fun H locs ls hR hS hL => lv_imul hx hb hd (h1 _ _ _ _ _ _ hs H locs ls hR hS hL)
    · exact hs.elim
  | iand =>
    obtain ⟨rfl, hs⟩ := hs
    unfold bop at hs
    split at hs
    · exact fun H locs ls hR hS hL => lv_iand hx hb hd (h1 _ _ _ _ _ _ hs H locs ls hR hS hL)
    · exact hs.elim
  | ior =>
    obtain ⟨rfl, hs⟩ := hs
    unfold bop at hs
    split at hs
    · exact fun H locs ls hR hS hL => lv_ior hx hb hd (h1 _ _ _ _ _ _ hs H locs ls hR hS hL)
    · exact hs.elim
  | ishr =>
    obtain ⟨rfl, hs⟩ := hs
    unfold bop at hs
    split at hs
    · exact fun H locs ls hR hS hL => lv_ishr hx hb hd (h1 _ _ _ _ _ _ hs H locs ls hR hS hL)
    · exact hs.elim
  | ishl =>
    obtain ⟨rfl, hs⟩ := hs
    unfold bop at hs
    split at hs
    · exact fun H locs ls hR hS hL => lv_ishl hx hb hd (h1 _ _ _ _ _ _ hs H locs ls hR hS hL)
    · exact hs.elim
  | idiv =>
    obtain ⟨rfl, hs⟩ := hs
    unfold idv at hs
    split at hs
    · exact fun H locs ls hR hS hL => lv_idiv hx hb hd hs.1 (h1 _ _ _ _ _ _ hs.2 H locs ls hR hS hL)
    · exact hs.elim
  | irem =>
    obtain ⟨rfl, hs⟩ := hs
    unfold irm at hs
    split at hs
    · exact fun H locs ls hR hS hL => lv_irem hx hb hd hs.1 (h1 _ _ _ _ _ _ hs.2 H locs ls hR hS hL)
    · exact hs.elim
  | ixor =>
    obtain ⟨rfl, hs⟩ := hs
    unfold bop at hs
    split at hs
    · exact fun H locs ls hR hS hL => lv_ixor hx hb hd (h1 _ _ _ _ _ _ hs H locs ls hR hS hL)
    · exact hs.elim
  | iushr =>
    obtain ⟨rfl, hs⟩ := hs
    unfold bop at hs
    split at hs
    · exact fun H locs ls hR hS hL => lv_iushr hx hb hd rfl (h1 _ _ _ _ _ _ hs H locs ls hR hS hL)
    · exact hs.elim
  | dup2 =>
    obtain ⟨rfl, hs⟩ := hs
    unfold dp2 at hs
    split at hs
    · exact fun H locs ls hR hS hL => lv_dup2_11 hx hb hd hs.1 hs.2.1 (h1 _ _ _ _ _ _ hs.2.2 H locs ls hR hS hL)
    · exact hs.elim
  | lmul =>
    obtain ⟨rfl, hs⟩ := hs
    unfold lml at hs
    split at hs
    · exact fun H locs ls hR hS hL => lv_lmul hx hb hd (h1 _ _ _ _ _ _ hs H locs ls hR hS hL)
    · exact hs.elim
  | lushr =>
    obtain ⟨rfl, hs⟩ := hs
    unfold lus at hs
    split at hs
    · exact fun H locs ls hR hS hL => lv_lushr hx hb hd rfl (h1 _ _ _ _ _ _ hs H locs ls hR hS hL)
    · exact hs.elim
  | l2i =>
    obtain ⟨rfl, hs⟩ := hs
    unfold l2i' at hs
    split at hs
    · exact fun H locs ls hR hS hL => lv_l2i hx hb hd rfl (h1 _ _ _ _ _ _ hs H locs ls hR hS hL)
    · exact hs.elim
  | i2l =>
    obtain ⟨rfl, hs⟩ := hs
    unfold i2l' at hs
    split at hs
    · exact fun H locs ls hR hS hL => lv_i2l hx hb hd rfl (h1 _ _ _ _ _ _ hs H locs ls hR hS hL)
    · exact hs.elim
  | i2c =>
    obtain ⟨rfl, hs⟩ := hs
    unfold i2c' at hs
    split at hs
    · exact fun H locs ls hR hS hL => lv_i2c hx hb hd rfl (h1 _ _ _ _ _ _ hs H locs ls hR hS hL)
    · exact hs.elim
  | lcmp =>
    obtain ⟨rfl, hs⟩ := hs
    unfold lcm at hs
    split at hs
    · exact fun H locs ls hR hS hL => W.lcmp hx hb hd (h1 _ _ _ _ _ _ hs H locs ls hR hS hL)
    · exact hs.elim
  | dup =>
    obtain ⟨rfl, hs⟩ := hs
    unfold dp at hs
    split at hs
    · exact fun H locs ls hR hS hL => lv_dup hx hb hd hs.1 (h1 _ _ _ _ _ _ hs.2 H locs ls hR hS hL)
    · exact hs.elim
  | pop =>
    obtain ⟨rfl, hs⟩ := hs
    unfold pp at hs
    split at hs
    · exact fun H locs ls hR hS hL => lv_pop hx hb hd hs.1 (h1 _ _ _ _ _ _ hs.2 H locs ls hR hS hL)
    · exact hs.elim
  | goto o =>
    obtain ⟨rfl, hj, hs⟩ := hs
    exact fun H locs ls hR hS hL => lv_goto hx hb hd (v_jt hj) (h1 _ _ _ _ _ _ hs H locs ls hR hS hL)
  | ifCond c o =>
    obtain ⟨rfl, hs⟩ := hs
    unfold br1 at hs
    split at hs
    · obtain ⟨hj, hs⟩ := hs
      intro H locs ls hR hS hL
      cases c with
      | eq => exact lv_if_eq hx hb hd (v_jt hj) (fun q => h1 _ _ _ _ _ _ (hs.1 q) H locs ls hR hS hL) (fun q => h1 _ _ _ _ _ _ (hs.2 q) H locs ls hR hS hL)
      | ne => exact lv_if_ne hx hb hd (v_jt hj) (fun q => h1 _ _ _ _ _ _ (hs.1 q) H locs ls hR hS hL) (fun q => h1 _ _ _ _ _ _ (hs.2 (fun z => z q)) H locs ls hR hS hL)
      | lt => exact lv_if_lt hx hb hd (v_jt hj) (fun q => h1 _ _ _ _ _ _ (hs.1 q) H locs ls hR hS hL) (fun q => h1 _ _ _ _ _ _ (hs.2 q) H locs ls hR hS hL)
      | ge => exact lv_if_ge hx hb hd (v_jt hj) (fun q => h1 _ _ _ _ _ _ (hs.1 q) H locs ls hR hS hL) (fun q => h1 _ _ _ _ _ _ (hs.2 q) H locs ls hR hS hL)
      | gt => exact lv_if_gt hx hb hd (v_jt hj) (fun q => h1 _ _ _ _ _ _ (hs.1 q) H locs ls hR hS hL) (fun q => h1 _ _ _ _ _ _ (hs.2 q) H locs ls hR hS hL)
      | le => exact lv_if_le hx hb hd (v_jt hj) (fun q => h1 _ _ _ _ _ _ (hs.1 q) H locs ls hR hS hL) (fun q => h1 _ _ _ _ _ _ (hs.2 q) H locs ls hR hS hL)
    · exact hs.elim
  | if_icmp c o =>
    obtain ⟨rfl, hs⟩ := hs
    unfold br2 at hs
    split at hs
    · obtain ⟨hj, hs⟩ := hs
      intro H locs ls hR hS hL
      cases c with
      | eq => exact lv_icmp_eq hx hb hd (v_jt hj) (fun q => h1 _ _ _ _ _ _ (hs.1 q) H locs ls hR hS hL) (fun q => h1 _ _ _ _ _ _ (hs.2 q) H locs ls hR hS hL)
      | ne => exact lv_icmp_ne hx hb hd (v_jt hj) (fun q => h1 _ _ _ _ _ _ (hs.1 q) H locs ls hR hS hL) (fun q => h1 _ _ _ _ _ _ (hs.2 (fun z => z q)) H locs ls hR hS hL)
      | lt => exact lv_icmp_lt hx hb hd (v_jt hj) (fun q => h1 _ _ _ _ _ _ (hs.1 q) H locs ls hR hS hL) (fun q => h1 _ _ _ _ _ _ (hs.2 q) H locs ls hR hS hL)
      | ge => exact lv_icmp_ge hx hb hd (v_jt hj) (fun q => h1 _ _ _ _ _ _ (hs.1 q) H locs ls hR hS hL) (fun q => h1 _ _ _ _ _ _ (hs.2 q) H locs ls hR hS hL)
      | gt => exact lv_icmp_gt hx hb hd (v_jt hj) (fun q => h1 _ _ _ _ _ _ (hs.1 q) H locs ls hR hS hL) (fun q => h1 _ _ _ _ _ _ (hs.2 q) H locs ls hR hS hL)
      | le => exact lv_icmp_le hx hb hd (v_jt hj) (fun q => h1 _ _ _ _ _ _ (hs.1 q) H locs ls hR hS hL) (fun q => h1 _ _ _ _ _ _ (hs.2 q) H locs ls hR hS hL)
    · exact hs.elim
  | if_acmp c o =>
    obtain ⟨rfl, hs⟩ := hs
    unfold br3 at hs
    split at hs
    · unfold rfe at hs
      split at hs
      · rename_i x y
        obtain ⟨hj, hs⟩ := hs
        intro H locs ls hR hS hL
        cases c with
        | eq => exact lv_acmp_eq (rx := some x) (ry := some y) hx hb hd (v_jt hj) (fun q => h1 _ _ _ _ _ _ (hs.1 (Option.some.inj q)) H locs ls hR hS hL) (fun q => h1 _ _ _ _ _ _ (hs.2 (fun z => q (congrArg some z))) H locs ls hR hS hL)
        | ne => exact lv_acmp_ne (rx := some x) (ry := some y) hx hb hd (v_jt hj) (fun q => h1 _ _ _ _ _ _ (hs.1 (fun z => q (congrArg some z))) H locs ls hR hS hL) (fun q => h1 _ _ _ _ _ _ (hs.2 (fun z => z (Option.some.inj q))) H locs ls hR hS hL)
      · obtain ⟨hj, hs⟩ := hs
        intro H locs ls hR hS hL
        cases c with
        | eq => exact lv_acmp_eq (rx := none) (ry := none) hx hb hd (v_jt hj) (fun q => h1 _ _ _ _ _ _ (hs.1 trivial) H locs ls hR hS hL) (fun q => absurd rfl q)
        | ne => exact lv_acmp_ne (rx := none) (ry := none) hx hb hd (v_jt hj) (fun q => absurd rfl q) (fun q => h1 _ _ _ _ _ _ (hs.2 (fun z => z trivial)) H locs ls hR hS hL)
      · rename_i x
        obtain ⟨hj, hs⟩ := hs
        intro H locs ls hR hS hL
        cases c with
        | eq => exact lv_acmp_eq (rx := some x) (ry := none) hx hb hd (v_jt hj) (fun q => by cases q) (fun q => h1 _ _ _ _ _ _ (hs.2 (fun z => z)) H locs ls hR hS hL)
        | ne => exact lv_acmp_ne (rx := some x) (ry := none) hx hb hd (v_jt hj) (fun q => h1 _ _ _ _ _ _ (hs.1 (fun z => z)) H locs ls hR hS hL) (fun q => by cases q)
      · rename_i x
        obtain ⟨hj, hs⟩ := hs
        intro H locs ls hR hS hL
        cases c with
        | eq => exact lv_acmp_eq (rx := none) (ry := some x) hx hb hd (v_jt hj) (fun q => by cases q) (fun q => h1 _ _ _ _ _ _ (hs.2 (fun z => z)) H locs ls hR hS hL)
        | ne => exact lv_acmp_ne (rx := none) (ry := some x) hx hb hd (v_jt hj) (fun q => h1 _ _ _ _ _ _ (hs.1 (fun z => z)) H locs ls hR hS hL) (fun q => by cases q)
      · exact hs.elim
    · exact hs.elim
  | ifnull o =>
    obtain ⟨rfl, hs⟩ := hs
    unfold isnul at hs
    split at hs
    · obtain ⟨hj, hs⟩ := hs
      exact fun H locs ls hR hS hL => lv_ifnullN hx hb hd (v_jt hj) (h1 _ _ _ _ _ _ (hs.1 trivial) H locs ls hR hS hL)
    · obtain ⟨hj, hs⟩ := hs
      exact fun H locs ls hR hS hL => lv_ifnull hx hb hd (h1 _ _ _ _ _ _ (hs.2 (fun z => z)) H locs ls hR hS hL)
    · exact hs.elim
  | ifnonnull o =>
    obtain ⟨rfl, hs⟩ := hs
    unfold isnul at hs
    split at hs
    · obtain ⟨hj, hs⟩ := hs
      exact fun H locs ls hR hS hL => lv_ifnonnullN hx hb hd (h1 _ _ _ _ _ _ (hs.1 trivial) H locs ls hR hS hL)
    · obtain ⟨hj, hs⟩ := hs
      exact fun H locs ls hR hS hL => lv_ifnonnull hx hb hd (v_jt hj) (h1 _ _ _ _ _ _ (hs.2 (fun z => z)) H locs ls hR hS hL)
    · exact hs.elim
  | getfield j =>
    obtain ⟨rfl, hs⟩ := hs
    unfold gtf at hs
    split at hs
    · rename_i hj
      exact v_get K hF hj hs.1 hd (h1 _ _ _ _ _ _ hs.2)
    · exact hs.elim
  | putfield j =>
    obtain ⟨rfl, hs⟩ := hs
    unfold ptf at hs
    split at hs
    · rename_i hj
      exact v_put K hF hini hj hs.1 hs.2.1 hs.2.2.1 hd (h1 _ _ _ _ _ _ hs.2.2.2)
    · exact hs.elim
  | arraylength =>
    obtain ⟨rfl, hs⟩ := hs
    unfold aln at hs
    split at hs
    · obtain ⟨t, n, hk, hs⟩ := isA_ex hs
      intro H locs ls hR hS hL
      obtain ⟨e1, e2, -, -⟩ := v_arr K hR hk
      exact W.alen (n := Int32.ofNat n) hx hb e1 e2 (by rw [arrV_size] <;> rfl) rfl rfl hd (h1 _ _ _ _ _ _ hs H locs ls hR hS hL)
    · exact hs.elim
  | iaload =>
    obtain ⟨rfl, hs⟩ := hs
    unfold ald at hs
    split at hs
    · obtain ⟨hs0, hs⟩ := hs
      obtain ⟨k, n, hk, ht, hin⟩ := isA_ex hs0
      subst ht
      intro H locs ls hR hS hL
      obtain ⟨e1, e2, -, -⟩ := v_arr K hR hk
      exact W.iald hx hb e1 e2 v_unk (v_in hin) (v_rd hin) rfl rfl hd (h1 _ _ _ _ _ _ hs H locs ls hR hS hL)
    · exact hs.elim
  | baload =>
    obtain ⟨rfl, hs⟩ := hs
    unfold ald at hs
    split at hs
    · obtain ⟨hs0, hs⟩ := hs
      obtain ⟨k, n, hk, ht, hin⟩ := isA_ex hs0
      subst ht
      intro H locs ls hR hS hL
      obtain ⟨e1, e2, -, -⟩ := v_arr K hR hk
      exact W.zald hx hb e1 e2 v_unk (v_in hin) (v_rd hin) rfl rfl hd (h1 _ _ _ _ _ _ hs H locs ls hR hS hL)
    · exact hs.elim
  | caload =>
    obtain ⟨rfl, hs⟩ := hs
    unfold ald at hs
    split at hs
    · obtain ⟨hs0, hs⟩ := hs
      obtain ⟨k, n, hk, ht, hin⟩ := isA_ex hs0
      subst ht
      intro H locs ls hR hS hL
      obtain ⟨e1, e2, -, -⟩ := v_arr K hR hk
      exact W.cald hx hb e1 e2 v_unk (v_in hin) (v_rd hin) rfl rfl hd (h1 _ _ _ _ _ _ hs H locs ls hR hS hL)
    · exact hs.elim
  | laload =>
    obtain ⟨rfl, hs⟩ := hs
    unfold ald at hs
    split at hs
    · obtain ⟨hs0, hs⟩ := hs
      obtain ⟨k, n, hk, ht, hin⟩ := isA_ex hs0
      subst ht
      intro H locs ls hR hS hL
      obtain ⟨e1, e2, -, -⟩ := v_arr K hR hk
      exact W.lald hx hb e1 e2 v_unk (v_in hin) (v_rd hin) rfl rfl hd (h1 _ _ _ _ _ _ hs H locs ls hR hS hL)
    · exact hs.elim
  | aaload =>
    obtain ⟨rfl, hs⟩ := hs
    unfold ald at hs
    split at hs
    · obtain ⟨hs0, hs⟩ := hs
      obtain ⟨k, n, hk, ht, hin⟩ := isA_ex hs0
      intro H locs ls hR hS hL
      obtain ⟨e1, e2, -, -⟩ := v_arr K hR hk
      exact W.aald hx hb e1 e2 (v_isr ht) v_unk (v_in hin) (v_rd hin) rfl rfl hd (h1 _ _ _ _ _ _ hs H locs ls hR hS hL)
    · exact hs.elim
  | iastore =>
    obtain ⟨rfl, hs⟩ := hs
    unfold ast at hs
    split at hs
    · obtain ⟨hs0, hs⟩ := hs
      obtain ⟨_, n, hk, rfl, hin⟩ := isA_ex hs0
      intro H locs ls hR hS hL
      obtain ⟨e1, e2, hba, -⟩ := v_arr K hR hk
      exact W.iast hx hb e1 e2 v_unk (v_in hin) rfl rfl hd fun H' z1 z2 z3 => h1 _ _ _ _ _ _ hs H' _ ls (v_sto hR hk z1 z3) (hS.put z2 z3 hba) hL
    · exact hs.elim
  | bastore =>
    obtain ⟨rfl, hs⟩ := hs
    unfold ast at hs
    split at hs
    · obtain ⟨hs0, hs⟩ := hs
      obtain ⟨_, n, hk, rfl, hin⟩ := isA_ex hs0
      intro H locs ls hR hS hL
      obtain ⟨e1, e2, hba, -⟩ := v_arr K hR hk
      exact W.zast hx hb e1 e2 v_unk (v_in hin) rfl rfl hd fun H' z1 z2 z3 => h1 _ _ _ _ _ _ hs H' _ ls (v_sto hR hk z1 z3) (hS.put z2 z3 hba) hL
    · exact hs.elim
  | castore =>
    obtain ⟨rfl, hs⟩ := hs
    unfold ast at hs
    split at hs
    · obtain ⟨hs0, hs⟩ := hs
      obtain ⟨_, n, hk, rfl, hin⟩ := isA_ex hs0
      intro H locs ls hR hS hL
      obtain ⟨e1, e2, hba, -⟩ := v_arr K hR hk
      exact W.cast hx hb e1 e2 v_unk (v_in hin) rfl rfl hd fun H' z1 z2 z3 => h1 _ _ _ _ _ _ hs H' _ ls (v_sto hR hk z1 z3) (hS.put z2 z3 hba) hL
    · exact hs.elim
  | lastore =>
    obtain ⟨rfl, hs⟩ := hs
    unfold lst at hs
    split at hs
    · obtain ⟨hs0, hs⟩ := hs
      obtain ⟨_, n, hk, rfl, hin⟩ := isA_ex hs0
      intro H locs ls hR hS hL
      obtain ⟨e1, e2, hba, -⟩ := v_arr K hR hk
      exact W.last hx hb e1 e2 v_unk (v_in hin) rfl rfl hd fun H' z1 z2 z3 => h1 _ _ _ _ _ _ hs H' _ ls (v_sto hR hk z1 z3) (hS.put z2 z3 hba) hL
    · exact hs.elim
  | aastore =>
    obtain ⟨rfl, hs⟩ := hs
    unfold qst at hs
    split at hs
    · rename_i v i a r
      obtain ⟨hs0, hs⟩ := hs
      obtain ⟨t, n, hk, ht, hv, hin⟩ := isA_ex hs0
      intro H locs ls hR hS hL
      obtain ⟨e1, e2, hba, hra⟩ := v_arr K hR hk
      obtain ⟨r', hr', hc'⟩ := v_vec ht (hR a _ hk).2.1.1
      rw [hc'] at hra
      obtain ⟨kA, comp, k1, k2, k3, -⟩ := hra
      obtain ⟨_, r2, hr2, cellV, g1, g2, g3, -⟩ := hR v _ hv
      have e9 : r2 = r' := Option.some.inj (hr2.symm.trans hr')
      subst e9
      have hcls := (hKn.1.1 _ _ hr').2
      have hcomp : comp = D.1.1 (vec t) := Option.some.inj (k3.symm.trans hcls.1)
      subst hcomp
      obtain ⟨kC, hkC, -⟩ := id hcls.2
      have hin' : ¬ i < 0 ∧ i.toNatClampNeg < (arrV (D.2 t) n (h.2 a)).slots.size := ⟨fun q => hin (Or.inl q), by rw [arrV_size]; exact Nat.not_le.mp fun q => hin (Or.inr q)⟩
      exact W.aast hx hb e1 (fun q h => by cases h) (fun h => by cases h) k1 k2 rfl hkC hin' g1 (fun q h => by rw [g3] at h; cases h) (by rw [g2]; exact hkC) (by rw [g2]; exact va_assign hcls) rfl rfl hd
        fun H' z1 z2 z3 => h1 _ _ _ _ _ _ hs H' _ ls (v_sto hR hk z1 z3) (hS.put z2 z3 hba) hL
    · rename_i i a r
      obtain ⟨hs0, hs⟩ := hs
      obtain ⟨t, n, hk, ht, hin⟩ := isA_ex hs0
      intro H locs ls hR hS hL
      obtain ⟨e1, e2, hba, hra⟩ := v_arr K hR hk
      obtain ⟨r', hr', hc'⟩ := v_vec ht (hR a _ hk).2.1.1
      rw [hc'] at e2
      exact va_WaastN (C := r'.1) hx hb e1 e2 v_unk (v_in hin) rfl rfl hd
        fun H' z1 z2 z3 => h1 _ _ _ _ _ _ hs H' _ ls (v_sto hR hk z1 z3) (hS.put z2 z3 hba) hL
    · exact hs.elim
  | ireturn =>
    obtain ⟨rfl, hs⟩ := hs
    unfold rtI at hs
    split at hs
    · obtain ⟨hn, hs⟩ := hs
      intro H locs ls hR hS hL
      exact W.widen hs.2.1 hs.2.2 (vx_ret (W.zret hx hb hr hn (fun t ht hW => v_end hbs hs.1 hR hS t ht hW) hS.2.2 hd hlk))
    · exact hs.elim
  | areturn =>
    obtain ⟨rfl, hs⟩ := hs
    unfold rtA at hs
    split at hs
    · obtain ⟨⟨ty, rfl, hty⟩, hs⟩ := hs
      intro H locs ls hR hS hL
      exact W.widen hs.2.1 hs.2.2 (vx_ret (W.aret hx hb hr hty (Or.inr ⟨_, rfl⟩) (fun t ht hW => v_end hbs hs.1 hR hS t ht hW) hS.2.2 hd hlk))
    · obtain ⟨⟨ty, rfl, hty⟩, hs⟩ := hs
      intro H locs ls hR hS hL
      exact W.widen hs.2.1 hs.2.2 (vx_ret (W.aret hx hb hr hty (Or.inl rfl) (fun t ht hW => v_end hbs hs.1 hR hS t ht hW) hS.2.2 hd hlk))
    · exact hs.elim
  | return_ =>
    obtain ⟨rfl, hs⟩ := hs
    unfold rtV at hs
    split at hs
    · obtain ⟨hn, hs⟩ := hs
      intro H locs ls hR hS hL
      subst hn
      exact W.widen hs.2.1 hs.2.2 (vx_ret (W.vret hx hb hr (fun t ht hW => v_end hbs hs.1 hR hS t ht hW) hS.2.2 hd hlk))
    · exact hs.elim
  | _ => exact h0 _ _ _ _ _ _ hs
end VOK2
