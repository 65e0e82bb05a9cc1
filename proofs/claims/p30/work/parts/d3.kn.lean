/-! THE START: what the tables and the statics say -/
abbrev cond9 : Cond := Jvm.Cond.and given_1 narrow_1
def tmn (i : Nat) : Term := match strC[i]? with
  | some z => .string z.1 z.2.1
  | none => .string "" 0
section KNOF
set_option maxRecDepth 100000
set_option maxHeartbeats 4000000
theorem c_tm : ∀ z ∈ strC, tmn z.2.2.2 = .string z.1 z.2.1 ∧ z.2.2.2 < 32 := by decide +kernel
theorem c_sr : ∀ z ∈ strC, Cond.stringRef z.1 z.2.1 z.2.2.1 ∈ lw_tbl := by decide +kernel
theorem c_ex : ∀ i, i < 32 → Cond.exactly (tmn i) "java/lang/String" ∈ flatC cond9 := by decide +kernel
theorem c_co : ∀ i, i < 6 → Cond.eq (.field (tmn i) "java/lang/String" "coder" "B") (.int 0) ∈ flatC cond9 := by decide +kernel
theorem c_ar : ∀ i, i < 6 → Cond.arrayOf (.field (tmn i) "java/lang/String" "value" "[B") .byte ∈ flatC cond9 := by decide +kernel
theorem c_le : ∀ i, i < 6 → Cond.eq (.length (.field (tmn i) "java/lang/String" "value" "[B")) (.int (Int32.ofNat (slen.getD i 0))) ∈ flatC cond9 := by decide +kernel
theorem c_el : ∀ i, i < 6 → ∀ j, j < slen.getD i 0 → Cond.eq (.elem (.field (tmn i) "java/lang/String" "value" "[B") (.int (Int32.ofNat j))) (.int ((sbyt.getD i []).getD j 0)) ∈ flatC cond9 := by decide +kernel
theorem c_ne : ∀ i, i < 6 → ∀ j, j < 6 → i ≠ j → ¬ ((sbyt.getD i []).getD 0 0 = (sbyt.getD j []).getD 0 0 ∧ (sbyt.getD i []).getD 1 0 = (sbyt.getD j []).getD 1 0) := by decide +kernel
theorem c_l2 : ∀ i, i < 6 → 1 < slen.getD i 0 ∧ slen.getD i 0 < 2 ^ 31 := by decide +kernel
theorem c_in : ∀ r ∈ vcl.map (fun r => (r.1, r.2.2)), Cond.instantiable r.1 r.2 ∈ lw_tbl := by decide +kernel
variable {args : Array Value} {s : State}
theorem rcP {t : FieldType} (h : (Cond.arrayClass t).before args s = true) (ho : ∀ C, t ≠ .object C) : ∃ c : ClassId, ArrOfT s c t ∧ va_RA s c t := by
  obtain ⟨c, k, comp, h1, h2, h3⟩ := Cond.arrayClass_spec h
  refine ⟨c, fun N z => ⟨(fun q hq => by cases hq), k, h2, comp, h3⟩, ?_⟩
  cases t <;> first | exact h1 | exact absurd rfl (ho _)
theorem rcO {C : String} (h : (Cond.arrayOver (.object C)).before args s = true) : ∃ c : ClassId, ArrOfT s c (.object C) ∧ va_RA s c (.object C) := by
  obtain ⟨comp, c, k, h1, -, h3, h4, h5⟩ := Cond.arrayOver_spec h
  exact ⟨c, fun N z => ⟨(fun q hq => by cases hq), k, h3, comp, h4⟩, k, comp, h3, h4, h1, h5⟩
theorem OF_fun {o n d : String} {v v' : Value} {t : Nat} {A : Nat → Prop} {U : State} {H : Heap} (h : va_OF o n d v t A U H) (h' : va_OF o n d v' t A U H) : v = v' := by
  obtain ⟨cf, k, i, f, cell, h1, h2, h3, h4, h5, h6⟩ := h
  obtain ⟨cf', k', i', f', cell', g1, g2, g3, g4, g5, g6⟩ := h'
  rw [h1] at g1
  cases g1
  rw [h3] at g3
  cases g3
  rw [h5] at g5
  exact Option.some.inj g5
theorem T_fun {ty : FieldType} {t N N' : Nat} {f f' : Nat → Value} {A : Nat → Prop} {U : State} {H : Heap} (h : va_T ty t N f A U H) (h' : va_T ty t N' f' A U H) {j : Nat} (hj : j < N) (hj' : j < N') : f j = f' j := by
  obtain ⟨cell, h1, -, -, -, -, h5, -⟩ := h
  obtain ⟨cell', g1, -, -, -, -, g5, -⟩ := h'
  rw [h1] at g1
  cases g1
  have a := h5 j hj
  rw [g5 j hj'] at a
  exact (Option.some.inj a).symm
theorem st_of (hs : ∀ c ∈ flatC cond9, c.before args s = true) : ∃ sa sv : Nat → Nat, (∀ i, i < 32 → (tmn i).eval args s none [] s = some (.ref (sa i))) ∧ vk_S 6 slen sbyt sa sv (fun q => s.heap.size ≤ q) s s.heap := by
  have hA : ∀ a : Nat, a < s.heap.size → ¬ s.heap.size ≤ a := fun a h => Nat.not_le.mpr h
  have h0 : ∀ i : Nat, ∃ q : Nat × Nat, i < 32 → (tmn i).eval args s none [] s = some (.ref q.1) ∧ (i < 6 → va_O "java/lang/String" q.1 (fun q => s.heap.size ≤ q) s s.heap ∧ va_OF "java/lang/String" "coder" "B" (.int 0) q.1 (fun q => s.heap.size ≤ q) s s.heap ∧ va_OF "java/lang/String" "value" "[B" (.ref q.2) q.1 (fun q => s.heap.size ≤ q) s s.heap ∧ va_T .byte q.2 (slen.getD i 0) (fun j => .int ((sbyt.getD i []).getD j 0)) (fun q => s.heap.size ≤ q) s s.heap) := by
    intro i
    by_cases hi : i < 32
    · obtain ⟨a, c, cA, kA, q1, q2, q3, q4, q5, q6, -⟩ := Cond.exactly_spec (args := args) (first := s) (o := none) (s := s) (idx := []) (t := tmn i) (cls := "java/lang/String") (hs _ (c_ex i hi))
      by_cases h6 : i < 6
      · obtain ⟨t, ht, hT⟩ := va_Tof (f := fun j => .int ((sbyt.getD i []).getD j 0)) (A := fun q => s.heap.size ≤ q) (c_l2 i h6).2 (hs _ (c_ar i h6)) (va_eqt (hs _ (c_le i h6))) (fun j hj => va_eqt (hs _ (c_el i h6 j hj))) hA
        exact ⟨(a, t), fun _ => ⟨q1, fun _ => ⟨⟨cA, q3, q5, by rw [q6]; exact q2, hA a (Array.getElem?_eq_some_iff.mp q3).1⟩, vk_OFof q1 (va_eqt (hs _ (c_co i h6))) hA, vk_OFof q1 ht hA, hT⟩⟩⟩
      · exact ⟨(a, 0), fun _ => ⟨q1, fun h => absurd h h6⟩⟩
    · exact ⟨(0, 0), fun h => absurd h hi⟩
  obtain ⟨ad, had⟩ := Classical.axiomOfChoice h0
  refine ⟨fun i => (ad i).1, fun i => (ad i).2, fun i hi => (had i hi).1, fun i hi => (had i (by omega)).2 hi, fun i j hi hj e => ?_⟩
  by_cases hij : i = j
  · exact hij
  · obtain ⟨-, -, i3, i4⟩ := (had i (by omega)).2 hi
    obtain ⟨-, -, j3, j4⟩ := (had j (by omega)).2 hj
    have e : (ad i).1 = (ad j).1 := e
    rw [← e] at j3
    have e2 : (ad i).2 = (ad j).2 := Value.ref.inj (OF_fun i3 j3)
    rw [← e2] at j4
    have li := (c_l2 i hi).1
    have lj := (c_l2 j hj).1
    have x0 := T_fun i4 j4 (j := 0) (by omega) (by omega)
    have x1 := T_fun i4 j4 (j := 1) li lj
    exact absurd ⟨Value.int.inj x0, Value.int.inj x1⟩ (c_ne i hi j hj hij)
theorem kn_of (hts : ∀ w ∈ lw_tbl, w.before args s = true) (hs : ∀ c ∈ flatC cond9, c.before args s = true) : ∃ D : Dg, Kn D s.heap.size s s.heap := by
  have hA : ∀ a : Nat, a < s.heap.size → ¬ s.heap.size ≤ a := fun a h => Nat.not_le.mpr h
  have hG : ∀ w ∈ wsG, w.before args s = true := fun w hw => hts w (List.mem_filter.mp hw).1
  obtain ⟨sa, sv, hst, hS⟩ := st_of hs
  have hcls : ∀ c : Nat, ∃ q : ClassId × (Nat → Nat), ∀ r : vw_C, vcl[c]? = some r → u_Kn s r.1 r.2.1 r.2.2 q.1 q.2 := by
    intro c
    cases hr : vcl[c]? with
    | none => exact ⟨(0, fun _ => 0), fun r h => nomatch h⟩
    | some r =>
      obtain ⟨cC, iS, h⟩ := u_known (n := r.2.2) hG (vcl_in hr) (hts _ (c_in (r.1, r.2.2) (List.mem_map.mpr ⟨r, List.mem_of_getElem? hr, rfl⟩)))
      exact ⟨(cC, iS), fun r' h' => by cases h'; exact h⟩
  obtain ⟨cd, hcd⟩ := Classical.axiomOfChoice hcls
  have hty : ∀ k : Nat, ∃ c : ClassId, (k < 9 ∧ k ≠ 1 ∧ k ≠ 3) → ArrOfT s c (vty k) ∧ va_RA s c (vty k) := by
    intro k
    match k with
    | 0 => obtain ⟨c, h⟩ := rcP (t := .int) (hts _ (by decide +kernel)) (fun _ z => nomatch z); exact ⟨c, fun _ => h⟩
    | 1 => exact ⟨0, fun h => absurd h (by omega)⟩
    | 2 => obtain ⟨c, h⟩ := rcP (t := .char) (hts _ (by decide +kernel)) (fun _ z => nomatch z); exact ⟨c, fun _ => h⟩
    | 3 => exact ⟨0, fun h => absurd h (by omega)⟩
    | 4 => obtain ⟨c, h⟩ := rcO (C := RX5) (hts _ (by decide +kernel)); exact ⟨c, fun _ => h⟩
    | 5 => obtain ⟨c, h⟩ := rcO (C := RX4) (hts _ (by decide +kernel)); exact ⟨c, fun _ => h⟩
    | 6 => obtain ⟨c, h⟩ := rcO (C := RX2) (hts _ (by decide +kernel)); exact ⟨c, fun _ => h⟩
    | 7 => obtain ⟨c, h⟩ := rcO (C := RX0) (hts _ (by decide +kernel)); exact ⟨c, fun _ => h⟩
    | 8 => obtain ⟨c, h⟩ := rcO (C := RX1) (hts _ (by decide +kernel)); exact ⟨c, fun _ => h⟩
    | k + 9 => exact ⟨0, fun h => absurd h (by omega)⟩
  obtain ⟨ty, hty⟩ := Classical.axiomOfChoice hty
  refine ⟨((fun c => (cd c).1, fun c => (cd c).2), fun k => if k < 9 then ty k else if k < 50 then sa (k - 9) else sv (k - 50)), ⟨fun c r hr => hcd c r hr, fun k q hq => ?_⟩, ?_, ?_, ?_, ?_, ?_, ?_, ?_⟩
  · have hk : k < 9 := by
      have := (List.getElem?_eq_some_iff.mp hq).1
      simpa [vtl] using this
    by_cases h13 : k = 1 ∨ k = 3
    · have e : q = (ty 0, vty 0) := by
        have h9 : (vtl (fun k => if k < 9 then ty k else if k < 50 then sa (k - 9) else sv (k - 50)))[k]? = some (ty 0, vty 0) := by
          simp [vtl, hk, h13]
        exact Option.some.inj (hq.symm.trans h9)
      rw [e]
      exact hty 0 (by omega)
    · have e : q = (ty k, vty k) := by
        have h9 : (vtl (fun k => if k < 9 then ty k else if k < 50 then sa (k - 9) else sv (k - 50)))[k]? = some (ty k, vty k) := by
          simp [vtl, hk, h13]
        exact Option.some.inj (hq.symm.trans h9)
      rw [e]
      exact hty k ⟨hk, fun z => h13 (Or.inl z), fun z => h13 (Or.inr z)⟩
  · exact vx_Zqof (args := args) (hts _ (by decide +kernel)) (hts _ (by decide +kernel)) (hs _ (by decide +kernel)) hA
  · exact vx_Zqof (args := args) (hts _ (by decide +kernel)) (hts _ (by decide +kernel)) (hs _ (by decide +kernel)) hA
  · intro z hz
    obtain ⟨t1, t2⟩ := c_tm z hz
    have e : (if 9 + z.2.2.2 < 9 then ty (9 + z.2.2.2) else if 9 + z.2.2.2 < 50 then sa (9 + z.2.2.2 - 9) else sv (9 + z.2.2.2 - 50)) = sa z.2.2.2 := by
      rw [if_neg (by omega), if_pos (by omega), Nat.add_sub_cancel_left]
    show vk_R z.1 z.2.1 z.2.2.1 (if 9 + z.2.2.2 < 9 then ty (9 + z.2.2.2) else if 9 + z.2.2.2 < 50 then sa (9 + z.2.2.2 - 9) else sv (9 + z.2.2.2 - 50)) s
    rw [e]
    have h2 := hst z.2.2.2 t2
    rw [t1] at h2
    exact vk_R.of (hts _ (c_sr z hz)) h2
  · have e1 : (fun i => if 9 + i < 9 then ty (9 + i) else if 9 + i < 50 then sa (9 + i - 9) else sv (9 + i - 50)) = fun i => if i < 41 then sa i else sv (9 + i - 50) := by
      funext i
      rw [if_neg (by omega)]
      by_cases h : i < 41
      · rw [if_pos (by omega), if_pos h, Nat.add_sub_cancel_left]
      · rw [if_neg (by omega), if_neg h]
    have e2 : (fun i => if 50 + i < 9 then ty (50 + i) else if 50 + i < 50 then sa (50 + i - 9) else sv (50 + i - 50)) = sv := by
      funext i
      rw [if_neg (by omega), if_neg (by omega), Nat.add_sub_cancel_left]
    show vk_S 6 slen sbyt (fun i => if 9 + i < 9 then ty (9 + i) else if 9 + i < 50 then sa (9 + i - 9) else sv (9 + i - 50)) (fun i => if 50 + i < 9 then ty (50 + i) else if 50 + i < 50 then sa (50 + i - 9) else sv (50 + i - 50)) _ s s.heap
    rw [e1, e2]
    obtain ⟨k1, k2⟩ := hS
    refine ⟨fun i hi => ?_, fun i j hi hj he => k2 i j hi hj ?_⟩
    · show va_O _ (if i < 41 then sa i else sv (9 + i - 50)) _ _ _ ∧ va_OF _ _ _ _ (if i < 41 then sa i else sv (9 + i - 50)) _ _ _ ∧ va_OF _ _ _ _ (if i < 41 then sa i else sv (9 + i - 50)) _ _ _ ∧ _
      rw [if_pos (by omega)]
      exact k1 i hi
    · have he : (if i < 41 then sa i else sv (9 + i - 50)) = (if j < 41 then sa j else sv (9 + j - 50)) := he
      rwa [if_pos (by omega), if_pos (by omega)] at he
  · exact va_Zof (args := args) (hts _ (by decide +kernel)) (hts _ (by decide +kernel)) (va_eqt (hs _ (by decide +kernel))) hA
  · exact va_Zqof (args := args) (hts _ (by decide +kernel)) (hts _ (by decide +kernel)) (hs _ (by decide +kernel)) hA
  · refine ⟨fun C hC => ?_, va_Nw.of rfl (hts _ (by decide +kernel)), fun z hz => ?_, fun E hE => ?_, fun E hE => ?_⟩
    · have : ∀ C ∈ ["UnionClock$Worker", "UnionClock$Shift", "UnionClock$Rule", "UnionClock$Claim", "UnionClock$Offer"], Cond.arrayOver (.object C) ∈ lw_tbl := by decide +kernel
      exact hts _ (this C hC)
    · have : ∀ z ∈ ePairs, Cond.not (.castable z.1 z.2) ∈ flatC cond9 := by decide +kernel
      exact va_Nc.of (hs _ (this z hz))
    · have : ∀ E ∈ eIOAS, Cond.castable E E ∈ lw_tbl := by decide +kernel
      exact va_Nw.of rfl (hts _ (this E hE))
    · have : ∀ E ∈ ["java/lang/RuntimeException", "java/lang/Exception", "java/lang/Throwable"], Cond.declares (Bundle.initS E) ∈ lw_tbl := by decide +kernel
      exact va_Nw.of rfl (hts _ (this E hE))
end KNOF
