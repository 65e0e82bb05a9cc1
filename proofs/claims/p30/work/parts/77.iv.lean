theorem Cal.mono {l : Launch} {D : Dg} {b : Nat} {i : MI} {d mc ms : Nat} {As : List Value} {h : Hp} {P P' : Option Value → Hp → Prop} {X X' : String → Hp → Prop} (hc : Cal l D b i d mc ms As h P X) (hP : ∀ v h', P v h' → P' v h') (hX : ∀ E h', X E h' → X' E h') : Cal l D b i d mc ms As h P' X' := by
  intro p e ha hcas hclk s m args below hf happ hPp hk
  obtain ⟨n, o, h1, h2, h3, h4⟩ := hc p e ha hcas hclk s m args below hf happ hPp hk
  refine ⟨n, o, h1, h2, h3, ?_⟩
  rcases h4 with ⟨⟨v, h', e1, e2, e3⟩, h5⟩ | ⟨q, e0, E, ce, L, ⟨h', hX', e3⟩, h5⟩
  · exact Or.inl ⟨⟨v, h', e1, hP _ _ e2, e3⟩, h5⟩
  · exact Or.inr ⟨q, e0, E, ce, L, ⟨h', hX _ _ hX', e3⟩, h5⟩
/-- what holds between two calls -/
def INV (N : Nat → Nat) (Z : ZS) (S : MS) : Prop := JI N Z S ∧ JF N Z ∧ OI N Z ∧ ((∃ m, m ≤ 2000 ∧ Z.1 0 0 11 = nI m) ∧ ∃ m, m ≤ 40 ∧ Z.1 6 0 1 = nI m) ∧ ∀ r, N 3 ≤ r → r < 12 → S.2 21 r = 0
section IVL
variable {N : Nat → Nat} {Z : ZS} {S S' : MS}
theorem JI.thr (j : JI N Z S) (c : Int32) : JI N Z (thr S c) := by
  obtain ⟨st, ⟨rct, rest⟩, r2⟩ := j
  exact ⟨st, ⟨rct, rest⟩, r2⟩
theorem JI.req (j : JI N Z S) (e : rEq S S') : JI N Z S' := by
  rw [rset_of e]
  obtain ⟨st, ⟨rct, rwk, rsh, rru, rcl, rof, rtx⟩, r2⟩ := j
  exact ⟨st, ⟨rct, rwk, rsh, rru, rcl, rof, rtx⟩, r2⟩
theorem INV.thr (i : INV N Z S) (c : Int32) : INV N Z (thr S c) := ⟨i.1.thr c, i.2.1, i.2.2.1, i.2.2.2.1, i.2.2.2.2⟩
theorem INV.req (i : INV N Z S) (e : rEq S S') : INV N Z S' := ⟨i.1.req e, i.2.1, i.2.2.1, i.2.2.2.1, by rw [e.2 21 (by decide)]; exact i.2.2.2.2⟩
theorem JF.rg {Z' : ZS} (m : RGu Z Z') (f : JF N Z) : JF N Z' := by
  have hb : ∀ s r, bkz Z' s r = bkz Z s r := fun s r => bkz_cg (m.2 2 s 6 (by decide)) (fun w _ => ⟨by funext j; exact m.2 14 w j (by decide), fun _ t f _ => by rw [m.1]⟩) (fun f => by rw [m.1]) (fun f => by rw [m.1])
  refine ⟨fun c w s r hc z0 z1 z2 h => ?_, fun s r hs hr w hw hbk => ?_⟩
  · rw [m.2 4 c 0 (by decide)] at z0
    rw [m.2 4 c 1 (by decide)] at z1
    rw [m.2 4 c 2 (by decide)] at z2
    rw [m.1] at h
    rw [m.2 2 s 6 (by decide), hb]
    exact f.1 c w s r hc z0 z1 z2 h
  · rw [m.2 2 s 6 (by decide)] at hw
    rw [hb] at hbk
    rcases f.2 s r hs hr w hw hbk with ⟨c, hc, z0, z1, z2, z4⟩ | ⟨h1, h2⟩
    · exact Or.inl ⟨c, hc, by rw [m.2 4 c 0 (by decide)]; exact z0, by rw [m.2 4 c 1 (by decide)]; exact z1, by rw [m.2 4 c 2 (by decide)]; exact z2, by rw [m.1]; exact z4⟩
    · refine Or.inr ⟨h1, fun c hc => ?_⟩
      rw [m.2 4 c 0 (by decide), m.2 4 c 1 (by decide), m.2 4 c 2 (by decide)]
      exact h2 c hc
theorem INV.rg {Z' : ZS} (i : INV N Z S) (m : RGu Z Z') : INV N Z' S := ⟨i.1.rg m, i.2.1.rg m, i.2.2.1.rg m, by rw [m.1]; exact i.2.2.2.1, i.2.2.2.2⟩
theorem INV.st (i : INV N Z S) : St N Z := i.1.1
theorem INV.s3 (i : INV N Z S) : S.1 3 = nI (N 2) := i.1.2.1.1.1
theorem INV.s16 (i : INV N Z S) : S.1 16 = nI (N 3) := i.1.2.1.1.2.1
theorem INV.s22 (i : INV N Z S) : S.1 22 = nI (N 4) := i.1.2.1.1.2.2.1
theorem INV.s28 (i : INV N Z S) : S.1 28 = nI (N 5) := i.1.2.1.1.2.2.2.1
theorem INV.s0 (i : INV N Z S) : S.1 0 = Z.1 0 0 11 := i.1.2.1.1.2.2.2.2.1
theorem INV.s10 (i : INV N Z S) : S.1 10 = Z.1 6 0 1 := i.1.2.1.1.2.2.2.2.2
theorem INV.n2 (i : INV N Z S) : N 2 ≤ 40 := i.1.1.1.2.2.1
theorem INV.n3 (i : INV N Z S) : N 3 ≤ 12 := i.1.1.1.2.2.2.1
theorem INV.n4 (i : INV N Z S) : N 4 ≤ 200 := i.1.1.1.2.2.2.2.1
theorem INV.n5 (i : INV N Z S) : N 5 ≤ 40 := i.1.1.1.2.2.2.2.2.1
theorem INV.rwk (i : INV N Z S) : Rwk Z S := i.1.2.1.2.1
theorem INV.rsh (i : INV N Z S) : Rsh N Z S := i.1.2.1.2.2.1
theorem INV.rru (i : INV N Z S) : Rru N Z S := i.1.2.1.2.2.2.1
theorem INV.rcl (i : INV N Z S) : Rcl N Z S := i.1.2.1.2.2.2.2.1
theorem INV.rof (i : INV N Z S) : Rof N Z S := i.1.2.1.2.2.2.2.2.1
theorem INV.rtx (i : INV N Z S) : Rtx Z S := i.1.2.1.2.2.2.2.2.2
theorem INV.io (i : INV N Z S) : Iord N Z := i.1.2.2.1.1
theorem INV.ir (i : INV N Z S) : Irg N Z := i.1.2.2.1.2.1
theorem INV.iu (i : INV N Z S) : Iru N Z := i.1.2.2.1.2.2
theorem INV.oc (i : INV N Z S) : Ocon N Z := i.io.ocon i.n2
theorem INV.kc (i : INV N Z S) : Kcon N Z := i.iu.kcon
theorem JI.jw (j : JI N Z S) : JW S (N 2) (N 3) := by
  refine ⟨j.2.1.1.1, j.1.1.2.2.1, j.2.1.1.2.1, j.1.1.2.2.2.1, fun r hr => ?_⟩
  obtain ⟨m, h1, h2⟩ := (j.2.2.1.2.2 r hr).2
  exact ⟨m, h1, (j.2.1.2.2.2.1 r hr).2.1.trans h2⟩
theorem JI.cwf (j : JI N Z S) : CW S (N 2) (N 3) (N 4) := by
  refine ⟨j.2.1.1.2.2.1, j.1.1.2.2.2.2.1, fun c hc => ?_⟩
  obtain ⟨w, s, r, z0, z1, z2⟩ := j.1.cl hc
  obtain ⟨a1, a2, a3, -, -⟩ := j.2.1.2.2.2.2.1 c hc
  obtain ⟨b1, b2, b3⟩ := j.2.2.2.2.2.2 c w s r hc z0 z1 z2
  have b4 := j.1.n2 b2
  have b5 := j.1.n3 b3
  have e0 : cw S c = w := by unfold cw; rw [a1, z0, oI_s]; exact nIc (by omega)
  have e1 : cs S c = s := by unfold cs; rw [a2, z1, oI_s]; exact nIc (by omega)
  have e2 : cr S c = r := by unfold cr; rw [a3, z2, oI_s]; exact nIc (by omega)
  rw [e0, e1, e2, a1, a2, a3, z0, z1, z2]
  exact ⟨b1, b2, b3, rfl, rfl, rfl⟩
theorem INV.jw (i : INV N Z S) : JW S (N 2) (N 3) := i.1.jw
theorem INV.cwf (i : INV N Z S) : CW S (N 2) (N 3) (N 4) := i.1.cwf
theorem INV.ofw (i : INV N Z S) : OfW S (N 5) := by
  refine ⟨i.n5, i.s28, fun c hc => ?_⟩
  obtain ⟨-, w, g, t, b1, b2, b3, b4, b5, b6, -⟩ := i.2.2.1 c hc
  obtain ⟨a1, a2⟩ := gn_eq i.1 hc b2 b5
  obtain ⟨a3, a4⟩ := wn_eq i.1 hc b3 b6
  have := i.n2
  rw [a1, a3]
  exact ⟨by omega, by omega, a2, a4⟩
theorem INV.h7 (i : INV N Z S) {s : Nat} (hs : s < N 2) : S.2 7 s = oI (Z.2 2 s 6) := i.1.h7 hs
theorem rst_eq (i : INV N Z S) {s w : Nat} (hs : s < N 2) (ez : Z.2 2 s 6 = some w) : rst Z w s = match jst S (N 2) s with
    | none => 10000
    | some c => S.2 8 s - S.2 9 c := by
  have hn := i.n2
  have rs := i.rsh
  obtain ⟨ls, o⟩ := i.io.1 w (i.io.2 s w hs ez)
  obtain ⟨q, hq⟩ := List.mem_iff_getElem?.mp ((o.2.1 s).mpr ⟨hs, ez⟩)
  have hpl := o.plc hn hq
  have hl := o.len hn
  have hq9 : q < ls.length := (List.getElem?_eq_some_iff.mp hq).1
  rw [jst_ls rs i.io o hq]
  unfold rst
  rw [hpl]
  by_cases h0 : q = 0
  · subst h0
    rw [if_pos rfl]
    have : sat Z w (oI (some 0) - 1) = none := by
      unfold sat
      rw [if_neg]
      rintro ⟨z, -⟩
      exact absurd z (by decide)
    rw [this]
  · rw [if_neg h0]
    obtain ⟨q1, rfl⟩ : ∃ q1, q = q1 + 1 := ⟨q - 1, by omega⟩
    have e9 : oI (some (q1 + 1)) - 1 = nI q1 := nI_pre q1
    rw [e9, sat_in Z w (by omega), o.1 q1 (by omega)]
    rw [Nat.add_sub_cancel]
    have hlt : q1 < ls.length := by omega
    have hc : ls[q1]? = some ls[q1] := List.getElem?_eq_getElem hlt
    rw [hc]
    have hc2 := ((o.2.1 _).mp (List.mem_of_getElem? hc)).1
    show Z.1 2 s 4 - Z.1 2 ls[q1] 5 = S.2 8 s - S.2 9 ls[q1]
    rw [(rs s hs).2.2.2.1, (rs _ hc2).2.2.2.2.1]
theorem lp_cg {α : Type} {f g : Nat → α → α} {a : α} : ∀ n, (∀ i, i < n → ∀ z, f i z = g i z) → lp f a n = lp g a n
  | 0, _ => rfl
  | n + 1, h => by
    show f n (lp f a n) = g n (lp g a n)
    rw [lp_cg n (fun i hi => h i (by omega)), h n (by omega)]
theorem fold_one : ∀ (ls : List Nat) (a : Nat), ls.foldl (fun z _ => z + 1) (nI a) = nI (a + ls.length)
  | [], a => rfl
  | t :: ls, a => by
    show ls.foldl (fun z _ => z + 1) (nI a + 1) = _
    rw [nI_p1, fold_one ls (a + 1), List.length_cons]
    congr 1
    omega
theorem lp_last {c : Nat → Bool} {s0 : Nat} : ∀ n, (∀ s, s < n → c s = true → s = s0) → c s0 = true → lp (fun s f => if c s = true then some s else f) none n = if s0 < n then some s0 else none
  | 0, _, _ => rfl
  | n + 1, h, h0 => by
    show (if c n = true then some n else lp (fun s f => if c s = true then some s else f) none n) = _
    by_cases e : c n = true
    · have := h n (by omega) e
      rw [if_pos e, if_pos (by omega), this]
    · rw [if_neg e, lp_last n (fun s hs => h s (by omega)) h0]
      have : s0 ≠ n := fun z => e (by rw [← z]; exact h0)
      by_cases e2 : s0 < n
      · rw [if_pos e2, if_pos (by omega)]
      · rw [if_neg e2, if_neg (by omega)]
theorem lp_nolast {c : Nat → Bool} : ∀ n, (∀ s, s < n → c s = false) → lp (fun s f => if c s = true then some s else f) (none : Option Nat) n = none
  | 0, _ => rfl
  | n + 1, h => by
    show (if c n = true then some n else lp (fun s f => if c s = true then some s else f) none n) = _
    rw [h n (by omega), lp_nolast n (fun s hs => h s (by omega))]
    rfl
theorem acn_eq (i : INV N Z S) {w q s : Nat} {ls : List Nat} (o : OrdL N Z w ls) (hq : ls[q]? = some s) : acn S (N 2) s = nI q := by
  have hq9 : q < ls.length := (List.getElem?_eq_some_iff.mp hq).1
  have hnd : (ls.take q).Nodup := List.Nodup.sublist (List.take_sublist q ls) (pw_nodup o.2.2)
  have h1 := sum_ls (f := fun _ => 1) (P := fun t => ahd S t s) (N 2) (ls.take q) hnd (fun t => by
    refine ⟨fun h => ?_, fun h => (ahd_ls i.rsh i.io o hq h.1).mp h.2⟩
    have h2 := ((o.2.1 t).mp (List.mem_of_mem_take h)).1
    exact ⟨h2, (ahd_ls i.rsh i.io o hq h2).mpr h⟩) 0
  have h2 : acn S (N 2) s = lp (fun t z => z + (if ahd S t s = true then 1 else 0)) 0 (N 2) := rfl
  rw [h2, h1]
  have h3 := fold_one (ls.take q) 0
  rw [List.length_take, Nat.zero_add, Nat.min_eq_left (by omega)] at h3
  exact h3
theorem sof_eq (i : INV N Z S) {w : Nat} (hw : w < 8) (p : Int32) : m_sof S (N 2) w p = sat Z w p := by
  have hn := i.n2
  obtain ⟨ls, o⟩ := i.io.1 w hw
  have hl := o.len hn
  have hc : ∀ s, s < N 2 → ((decide (S.2 7 s = nI w ∧ acn S (N 2) s = p)) = true ↔ ∃ q, ls[q]? = some s ∧ nI q = p) := by
    intro s hs
    rw [decide_eq_true_iff]
    refine ⟨fun ⟨h1, h2⟩ => ?_, fun ⟨q, h1, h2⟩ => ?_⟩
    · rw [i.h7 hs, show nI w = oI (some w) from rfl, oI_inj (fun v hv => by have := i.io.2 s v hs hv; omega) (fun v hv => by cases hv; omega)] at h1
      obtain ⟨q, hq⟩ := List.mem_iff_getElem?.mp ((o.2.1 s).mpr ⟨hs, h1⟩)
      exact ⟨q, hq, by rw [← acn_eq i o hq]; exact h2⟩
    · have h3 := (o.2.1 s).mp (List.mem_of_getElem? h1)
      exact ⟨by rw [i.h7 hs, h3.2]; rfl, by rw [acn_eq i o h1]; exact h2⟩
  have hm : m_sof S (N 2) w p = lp (fun s f => if decide (S.2 7 s = nI w ∧ acn S (N 2) s = p) = true then some s else f) none (N 2) := by
    unfold m_sof
    refine lp_cg _ (fun s _ z => ?_)
    by_cases e : S.2 7 s = nI w ∧ acn S (N 2) s = p
    · rw [if_pos e, if_pos (decide_eq_true e)]
    · rw [if_neg e, if_neg (fun z => e (of_decide_eq_true z))]
  rw [hm]
  by_cases hp : 0 ≤ p ∧ p < 40
  · obtain ⟨j, hj, rfl⟩ := i_in40 hp.1 hp.2
    rw [sat_in Z w hj, o.1 j hj]
    cases hs : ls[j]? with
    | none =>
      refine lp_nolast _ (fun s hs2 => ?_)
      cases hb : decide (S.2 7 s = nI w ∧ acn S (N 2) s = nI j) with
      | false => rfl
      | true =>
        obtain ⟨q, h1, h2⟩ := (hc s hs2).mp hb
        have hq9 : q < ls.length := (List.getElem?_eq_some_iff.mp h1).1
        rw [nE40 (by omega) hj] at h2
        rw [h2, hs] at h1
        cases h1
    | some s0 =>
      have h3 := (o.2.1 s0).mp (List.mem_of_getElem? hs)
      rw [lp_last (s0 := s0) _ (fun s hs2 hb => ?_) ((hc s0 h3.1).mpr ⟨j, hs, rfl⟩), if_pos h3.1]
      obtain ⟨q, h1, h2⟩ := (hc s hs2).mp hb
      have hq9 : q < ls.length := (List.getElem?_eq_some_iff.mp h1).1
      rw [nE40 (by omega) hj] at h2
      rw [h2, hs] at h1
      exact (Option.some.inj h1).symm
  · have : sat Z w p = none := by unfold sat; rw [if_neg hp]
    rw [this]
    refine lp_nolast _ (fun s hs2 => ?_)
    cases hb : decide (S.2 7 s = nI w ∧ acn S (N 2) s = p) with
    | false => rfl
    | true =>
      obtain ⟨q, h1, h2⟩ := (hc s hs2).mp hb
      have hq9 : q < ls.length := (List.getElem?_eq_some_iff.mp h1).1
      refine absurd ⟨?_, ?_⟩ hp
      · rw [← h2]; exact nI_pos' (by omega)
      · rw [← h2, show (40 : Int32) = nI 40 from rfl, nJ_lt (by omega) (by omega)]; omega
/-- a sum over a worker's order -/
theorem ord_sum (i : INV N Z S) {w : Nat} (hw : w < 8) (c : Nat → Bool) (f : Nat → Int32) : lp (fun j a => match Z.2 14 w j with
    | none => a
    | some t => if c t = true then a + f t else a) 0 40 = lp (fun s a => a + (if (decide (S.2 7 s = nI w)) = true then (if c s = true then f s else 0) else 0)) 0 (N 2) := by
  have hn := i.n2
  obtain ⟨ls, o⟩ := i.io.1 w hw
  have hl := o.len hn
  have h1 : lp (fun j a => match Z.2 14 w j with
    | none => a
    | some t => if c t = true then a + f t else a) 0 40 = lp (fun j a => match ls[j]? with
    | none => a
    | some t => a + (if c t = true then f t else 0)) 0 40 := by
    refine lp_cg _ (fun j hj a => ?_)
    rw [o.1 j hj]
    cases ls[j]? with
    | none => rfl
    | some t =>
      dsimp only
      by_cases e : c t = true
      · rw [if_pos e, if_pos e]
      · rw [if_neg e, if_neg e, Int32.add_zero]
  refine (h1.trans (lp_row (g := fun a t => a + (if c t = true then f t else 0)) (ls := ls) 40 (by omega) 0)).trans ?_
  symm
  refine sum_ls (f := fun t => if c t = true then f t else 0) (P := fun s => decide (S.2 7 s = nI w)) (N 2) ls (pw_nodup o.2.2) (fun t => ?_) 0
  rw [o.2.1 t]
  have : ∀ ht : t < N 2, (S.2 7 t = nI w) = (Z.2 2 t 6 = some w) := fun ht => by
    rw [i.h7 ht, show nI w = oI (some w) from rfl]
    exact oI_inj (fun v hv => by have := i.io.2 t v ht hv; omega) (fun v hv => by cases hv; omega)
  refine ⟨fun h => ⟨h.1, ?_⟩, fun h => ⟨h.1, ?_⟩⟩
  · rw [decide_eq_true_iff, this h.1]; exact h.2
  · rw [← this h.1]; exact of_decide_eq_true h.2
end IVL
/-- the class answers y, or throws what the reference says -/
def PC (N : Nat → Nat) (ad : Nat → Nat → Nat) (h : Hp) (y : Int32) (S' : MS) : Option Value → Hp → Prop := fun v h' => (v = some (.int y) ∧ S'.1 34 = 0) ∧ ∃ N' ad' Z', CNw N ad h N' ad' Z' h' ∧ INV N' Z' S'
def XC (N : Nat → Nat) (ad : Nat → Nat → Nat) (h : Hp) (L : List String) (S' : MS) : String → Hp → Prop := fun E h' => (∃ i, L[i]? = some E ∧ S'.1 34 = nI (i + 1)) ∧ ∃ N' ad' Z', CNw N ad h N' ad' Z' h' ∧ INV N' Z' S'
/-- one operation: the class answers y, or throws what S' says, and its state is S' then -/
def OP (iX : MI) (as : List Value) (L : List String) (mc ms : Nat) (N : Nat → Nat) (Z : ZS) (S : MS) (y : Int32) (S' : MS) : Prop := ∀ l D b h ad, l.flags = flags0 → RR N ad Z h → Cal l D b iX 8 mc ms (.ref (ad 0 0) :: as) h (PC N ad h y S') (XC N ad h L S')
section OPL
variable {N : Nat → Nat} {Z Z' : ZS} {S : MS} {ad : Nat → Nat → Nat} {h h' : Hp}
theorem PC.same (rr : RR N ad Z h) (inv : INV N Z S) {y : Int32} : PC N ad h y (thr S 0) (some (.int y)) h := ⟨⟨rfl, rfl⟩, N, ad, Z, CNw.of (CTo.rf rr), inv.thr 0⟩
theorem PC.put (t : CTo N ad Z' h h') {S' : MS} (inv : INV N Z' S') {y : Int32} (h0 : S'.1 34 = 0) : PC N ad h y S' (some (.int y)) h' := ⟨⟨rfl, h0⟩, N, ad, Z', CNw.of t, inv⟩
theorem XC.same (rr : RR N ad Z h) (inv : INV N Z S) {L : List String} {E : String} (i : Nat) (hL : L[i]? = some E) : XC N ad h L (thr S (nI (i + 1))) E h := ⟨⟨i, hL, rfl⟩, N, ad, Z, CNw.of (CTo.rf rr), inv.thr _⟩
end OPL
abbrev eIO : String := "java/lang/IndexOutOfBoundsException"
abbrev eIA : String := "java/lang/IllegalArgumentException"
abbrev eIS : String := "java/lang/IllegalStateException"
