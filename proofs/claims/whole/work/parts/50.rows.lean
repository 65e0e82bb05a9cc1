theorem wsG_at (i : Nat) {w : Cond} (h : lw_tbl[i]? = some w) (g : goodWord w = true) : w ∈ wsG := wsG_in i h g
/-- the words of a throw: good ones of the tables, or such as are known -/
def thrOk (E : String) (w : Cond) : Bool := (decide (w ∈ lw_tbl) && goodWord w) || decide (w = .castable E E) || decide (w ∈ ["java/lang/RuntimeException", "java/lang/Exception", "java/lang/Throwable"].map fun y => Cond.declares (Bundle.initS y))
theorem thr_in {D : Dg} {b : Nat} {E : String} {args : Array Value} {s : State} {L : List Cond} (hG : L.all (thrOk E) = true) (hE : E ∈ ["java/lang/IllegalArgumentException", "java/lang/IllegalStateException", "java/lang/IndexOutOfBoundsException"]) (hts : ∀ w ∈ wsG, w.before args s = true) (hKn : Kn D b s s.heap) : ∀ w ∈ L, w.before args s = true ∧ vx_ot w = true := by
  intro w hw
  have h9 := List.all_eq_true.mp hG w hw
  simp only [thrOk, Bool.or_eq_true, Bool.and_eq_true, decide_eq_true_eq] at h9
  rcases h9 with (⟨h1, h2⟩ | h1) | h1
  · exact ⟨hts w (List.mem_filter.mpr ⟨h1, h2⟩), by simp only [vx_ot, h2, Bool.or_true]⟩
  · subst h1
    exact ⟨va_Nw.use rfl (hKn.2.2.2.2.2.2.2.2.2.2.1 E hE), rfl⟩
  · obtain ⟨y, hy, rfl⟩ := List.mem_map.mp h1
    exact ⟨va_Nw.use rfl (hKn.2.2.2.2.2.2.2.2.2.2.2 y hy), rfl⟩
section VNEW
variable {p : Program} {l : Launch} {e : Env} {R : Room} {s : State} {m : MethodId} {args : Array Value} {below : List Frame} {meth : Method} {c : Code} {D : Dg} {b : Nat} {P : Option Value → Hp → Prop} {X : String → Hp → Prop} {mc ms : Nat}
variable {own nm : String} {cc : ByteArray} {nL d : Nat} {rt : Option FieldType} {tb : List ExceptionTableEntry} {h : Hp} {cs ss pc : Nat} {L : List (Option Value)} {st rest : List Value}
theorem Rel.fresh {H : Heap} (hR : Rel D b h H) : h.1 H.size = none := by
  cases q : h.1 H.size with
  | none => rfl
  | some κ => exact absurd (hR.lt q) (Nat.lt_irrefl _)
theorem v_oinit (K : Ok ((p, l, e, R), (s, m, args, below), (meth, c, D, b), (P, X, mc, ms)) own cc nL rt nm d tb) {idx a : Nat} (hw : Cond.methodLink own idx Lib.objectInit ∈ wsG) (hL : L.length = nL) (hcat : (rest.map fun v => v.category).sum ≤ 8) (h1 : 1 ≤ d) (hd : decode cc pc = .ok (.invokespecial idx, 3))
    (kk : V ((p, l, e, R), (s, m, args, below), (meth, c, D, b), (P, X, mc, ms)) h cs ss (pc + 3) L rest) : V ((p, l, e, R), (s, m, args, below), (meth, c, D, b), (P, X, mc, ms)) h cs ss pc L (.ref a :: rest) := by
  obtain ⟨hx, hb, hml, hown, hts, hr, hlk, hnm, hKn, hbs, hR0, hfl, hxt⟩ := K
  have hR0' : R = rmD d mc ms := hR0
  intro H locs ls hR hS hLs
  have w2 : Cond.instanceMethod Lib.objectInit ∈ wsG := List.mem_filter.mpr ⟨by decide +kernel, by decide +kernel⟩
  have w3 : Cond.code Lib.objectInit { data := #[177] } 1 none ∈ wsG := List.mem_filter.mpr ⟨by decide +kernel, by decide +kernel⟩
  exact W.objInit hx hb hown (hts _ hw) (hts _ w2) (hts _ w3) rfl ((hLs.1.trans hL).trans hml.symm) rfl hd (by rw [hR0']; exact h1) (by rw [hR0']; show 2 * 0 + (rest.map fun v => v.category).sum + 12 ≤ 35 * d; omega) (kk H locs ls hR hS hLs)
theorem v_new (K : Ok ((p, l, e, R), (s, m, args, below), (meth, c, D, b), (P, X, mc, ms)) own cc nL rt nm d tb) {idx ci : Nat} {r : vw_C} (hc : vcl[ci]? = some r) (w1 : Cond.classLink own idx r.1 ∈ wsG) (w2 : Cond.instantiable r.1 r.2.2 ∈ wsG) (w3 : Cond.initialized r.1 ∈ wsG) (hroom : cs + 1 ≤ mc ∧ ss + r.2.2 ≤ ms) (hd : decode cc pc = .ok (.new idx, 3))
    (kk : ∀ q, h.1 q = none → b ≤ q → V ((p, l, e, R), (s, m, args, below), (meth, c, D, b), (P, X, mc, ms)) (kup h.1 q (.inl ci), rup h.2 q (fun k => defaultValue (vft ci k))) (cs + 1) (ss + r.2.2) (pc + 3) L (.ref q :: st)) : V ((p, l, e, R), (s, m, args, below), (meth, c, D, b), (P, X, mc, ms)) h cs ss pc L st := by
  obtain ⟨hx, hb, hml, hown, hts, hr, hlk, hnm, hKn, hbs, hR0, hfl, hxt⟩ := K
  have hR0' : R = rmD d mc ms := hR0
  intro H locs ls hR hS hLs
  have hK := hKn.1.1 ci r hc
  have hbH : b ≤ H.size := Nat.le_trans hbs hS.1
  refine W.newcK hx hb hown (hts _ w1) (hts _ w2) (hts _ w3) rfl hd (by rw [hR0']; exact hroom.1) (by rw [hR0']; exact hroom.2) hK.2.1 rfl fun H1 kC hkC e1 z1 o1 => ?_
  exact kk H.size hR.fresh hbH H1 locs ls (hR.new hbH ⟨r, hc, u_born (vft ci) hts (vcl_in hc) hK hkC e1 (vft_ok hc)⟩ o1) ⟨Nat.le_trans hS.1 (by omega), fun x h1 h2 => (o1 x (Nat.lt_of_lt_of_le h1 hS.1)).trans (hS.2.1 x h1 h2), hS.2.2⟩ hLs
theorem v_newa (K : Ok ((p, l, e, R), (s, m, args, below), (meth, c, D, b), (P, X, mc, ms)) own cc nL rt nm d tb) {atype : ArrayType} (t : Nat) (ht : t < 4) (hty : newarray.typeOf atype = vty t) (harr : Cond.arrayClass (vty t) ∈ wsG) {n : Int32} {N : Nat} (hn : ¬ n < 0) (hN : n.toNatClampNeg = N) (hN2 : N ≤ 2048) (hroom : cs + 1 ≤ mc ∧ ss + N ≤ ms) (hd : decode cc pc = .ok (.newarray atype, 2))
    (kk : ∀ q, h.1 q = none → b ≤ q → V ((p, l, e, R), (s, m, args, below), (meth, c, D, b), (P, X, mc, ms)) (kup h.1 q (.inr (t, N)), rup h.2 q (fun _ => defaultValue (vty t))) (cs + 1) (ss + N) (pc + 2) L (.ref q :: rest)) : V ((p, l, e, R), (s, m, args, below), (meth, c, D, b), (P, X, mc, ms)) h cs ss pc L (.int n :: rest) := by
  obtain ⟨hx, hb, hml, hown, hts, hr, hlk, hnm, hKn, hbs, hR0, hfl, hxt⟩ := K
  have hR0' : R = rmD d mc ms := hR0
  intro H locs ls hR hS hLs
  have hbH : b ≤ H.size := Nat.le_trans hbs hS.1
  rw [← hty] at harr
  refine va_newaK (atype := atype) hx hb (hts _ harr) rfl hd rfl hn hN ?_ (by rw [hR0']; exact hroom.1) (by rw [hR0']; exact hroom.2) rfl fun H1 cA e1 z1 o1 hAr hNm => ?_
  · have : componentBytes (newarray.typeOf atype) ≤ 8 := by cases atype <;> decide
    exact Nat.le_trans (Nat.mul_le_mul hN2 this) (by decide)
  · rw [hty] at hAr hNm e1
    have h4 := (hKn.1.2 t _ (vtl_at D.2 (by omega))).2
    have hcA : cA = D.2 t := by
      match t, ht with
      | 0, _ => exact Option.some.inj (hNm.symm.trans h4)
      | 1, _ => exact Option.some.inj (hNm.symm.trans h4)
      | 2, _ => exact Option.some.inj (hNm.symm.trans h4)
      | 3, _ => exact Option.some.inj (hNm.symm.trans h4)
    subst hcA
    exact kk H.size hR.fresh hbH H1 locs ls (hR.new hbH ⟨by omega, e1⟩ o1) ⟨Nat.le_trans hS.1 (by omega), fun x h1 h2 => (o1 x (Nat.lt_of_lt_of_le h1 hS.1)).trans (hS.2.1 x h1 h2), hS.2.2⟩ hLs
theorem v_newq (K : Ok ((p, l, e, R), (s, m, args, below), (meth, c, D, b), (P, X, mc, ms)) own cc nL rt nm d tb) (t : Nat) (ht : 4 ≤ t ∧ t < 9) {idx : Nat} {r : vw_C} (hc : vcl[vec t]? = some r) (w1 : Cond.classLink own idx r.1 ∈ wsG) (w2 : r.1 ∈ ["UnionClock$Worker", "UnionClock$Shift", "UnionClock$Rule", "UnionClock$Claim", "UnionClock$Offer"]) {n : Int32} {N : Nat} (hn : ¬ n < 0) (hN : n.toNatClampNeg = N) (hN2 : N ≤ 2048) (hroom : cs + 1 ≤ mc ∧ ss + N ≤ ms) (hd : decode cc pc = .ok (.anewarray idx, 3))
    (kk : ∀ q, h.1 q = none → b ≤ q → V ((p, l, e, R), (s, m, args, below), (meth, c, D, b), (P, X, mc, ms)) (kup h.1 q (.inr (t, N)), rup h.2 q (fun _ => .null)) (cs + 1) (ss + N) (pc + 3) L (.ref q :: rest)) : V ((p, l, e, R), (s, m, args, below), (meth, c, D, b), (P, X, mc, ms)) h cs ss pc L (.int n :: rest) := by
  obtain ⟨hx, hb, hml, hown, hts, hr, hlk, hnm, hKn, hbs, hR0, hfl, hxt⟩ := K
  have hR0' : R = rmD d mc ms := hR0
  intro H locs ls hR hS hLs
  have hbH : b ≤ H.size := Nat.le_trans hbs hS.1
  subst hN
  refine W.anew hx hb hown (hts _ w1) (va_AO.use (hKn.2.2.2.2.2.2.2.1 _ w2)) rfl hd rfl hn (Nat.le_trans (Nat.mul_le_mul_right 4 hN2) (by decide)) (by rw [hR0']; exact hroom.1) (by rw [hR0']; exact hroom.2) fun cA kA comp f1 f2 f3 f4 => ?_
  generalize hH1 : H.push ({ cls := cA, slots := Array.replicate n.toNatClampNeg .null, vm := .none } : Cell) = H1
  have z1 : H1.size = H.size + 1 := by rw [← hH1, Array.size_push]
  have e1 : H1[H.size]? = some (arrV cA n.toNatClampNeg (fun _ => .null)) := by rw [← hH1, Array.getElem?_push_size, ← arrV_new]
  have o1 : ∀ q : Nat, q < H.size → H1[q]? = H[q]? := fun q hq => by rw [← hH1, Array.getElem?_push, if_neg (Nat.ne_of_lt hq)]
  obtain ⟨r9, hr9, hv9⟩ := v_vec ht.1 ht.2
  have er : r9 = r := Option.some.inj (hr9.symm.trans hc)
  subst er
  have h4 := (hKn.1.2 t _ (vtl_at D.2 ht.2)).2
  rw [hv9] at h4
  obtain ⟨kA9, comp9, g1, g2, g3, g4⟩ := h4
  have hcA : cA = D.2 t := Option.some.inj (f1.symm.trans g4)
  subst hcA
  exact kk H.size hR.fresh hbH H1 locs ls (hR.new hbH ⟨by omega, e1⟩ o1) ⟨Nat.le_trans hS.1 (by omega), fun x h1 h2 => (o1 x (Nat.lt_of_lt_of_le h1 hS.1)).trans (hS.2.1 x h1 h2), hS.2.2⟩ hLs
/-- 'throw new E(text)' -/
theorem v_thr (K : Ok ((p, l, e, R), (s, m, args, below), (meth, c, D, b), (P, X, mc, ms)) own cc nL rt nm d []) {cls : String} {ik is ic : Nat} (z : String × Nat × String × Nat) (hz : z ∈ strC) (hzo : z.1 = own ∧ z.2.1 = is) (hcls : Bundle.fit cls = true) (hE : cls ∈ ["java/lang/IllegalArgumentException", "java/lang/IllegalStateException", "java/lang/IndexOutOfBoundsException"]) (hG : (Cond.classLink own ik cls :: Cond.initialized cls :: vx_atS own ic cls ["java/lang/RuntimeException", "java/lang/Exception"]).all (thrOk cls) = true)
    (d0 : decode cc pc = .ok (.new ik, 3)) (d3 : decode cc (pc + 3) = .ok (.dup, 1)) (d4 : decode cc (pc + 4) = .ok (.ldc is, 2)) (d6 : decode cc (pc + 6) = .ok (.invokespecial ic, 3)) (d9 : decode cc (pc + 9) = .ok (.athrow, 1)) (hL : L.length = nL) (hcat : (st.map fun v => v.category).sum ≤ 8) (hdd : 6 ≤ d) (hroom : cs + 1 ≤ mc ∧ ss + 6 ≤ ms) (hX : X cls h) :
    V ((p, l, e, R), (s, m, args, below), (meth, c, D, b), (P, X, mc, ms)) h cs ss pc L st := by
  obtain ⟨hx, hb, hml, hown, hts, hr, hlk, hnm, hKn, hbs, hR0, hfl, hxt⟩ := K
  have hR0' : R = rmD d mc ms := hR0
  intro H locs ls hR hS hLs
  have hl : l.stackTraces = false := by
    have hfl : l.flags = flags0 := hfl
    simp only [Launch.stackTraces, hfl]
    decide
  have hall := thr_in hG hE hts hKn
  have hstr : vk_R own is z.2.2.1 (D.2 (9 + z.2.2.2)) s := by
    have := hKn.2.2.2.1 z hz
    rw [hzo.1, hzo.2] at this
    exact this
  refine vx_throwS hx hb hl (own := own) (cls := cls) (names := ["java/lang/RuntimeException", "java/lang/Exception"]) hown hcls (by decide) (hall _ (by simp)).1 (hall _ (by simp)).1 hstr (fun w hw => (hall _ (by simp [hw])).1) (fun w hw => (hall _ hw).2) hKn.2.1 hKn.2.2.1 hS ((hLs.1.trans hL).trans hml.symm) d0 d3 d4 d6 d9 (by rw [hxt]; exact fun x hx => nomatch hx) (by rw [hR0']; show 2 + 3 < d; omega) (by rw [hR0']; show (st.map fun v => v.category).sum + (13 * (2 + 1) + 43) ≤ 35 * d; omega) (by rw [hR0']; exact hroom.1) (by rw [hR0']; exact hroom.2) hlk (fun t _ h1 h2 => ?_) hS.2.2 hroom.1 hroom.2
  refine ⟨h, hX, fun a κ ha => ?_, Nat.le_trans hS.1 h1, fun q hq => ?_⟩
  · have h3 := hR a κ ha
    exact ⟨h3.1, h3.2.kept (h2 a h3.2.lt)⟩
  · have hq2 : q < s.heap.size := Nat.lt_of_lt_of_le hq hbs
    exact (h2 q (Nat.lt_of_lt_of_le hq2 hS.1)).trans (hS.2.1 q hq2 (Nat.not_le.mpr hq))
theorem v_ldc (K : Ok ((p, l, e, R), (s, m, args, below), (meth, c, D, b), (P, X, mc, ms)) own cc nL rt nm d tb) {is : Nat} (z : String × Nat × String × Nat) (hz : z ∈ strC) (hzo : z.1 = own ∧ z.2.1 = is) (hd : decode cc pc = .ok (.ldc is, 2))
    (kk : V ((p, l, e, R), (s, m, args, below), (meth, c, D, b), (P, X, mc, ms)) h cs ss (pc + 2) L (.ref (D.2 (9 + z.2.2.2)) :: st)) : V ((p, l, e, R), (s, m, args, below), (meth, c, D, b), (P, X, mc, ms)) h cs ss pc L st := by
  obtain ⟨hx, hb, hml, hown, hts, hr, hlk, hnm, hKn, hbs, hR0, hfl, hxt⟩ := K
  intro H locs ls hR hS hLs
  have hstr : vk_R own is z.2.2.1 (D.2 (9 + z.2.2.2)) s := by
    have := hKn.2.2.2.1 z hz
    rw [hzo.1, hzo.2] at this
    exact this
  exact va_ldcS hx hb hown hstr hd (kk H locs ls hR hS hLs)
end VNEW
