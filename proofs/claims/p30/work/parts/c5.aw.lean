/-! THE LAW: what it asks after each deed -/
theorem thr_thr (S : MS) (c d : Int32) : thr (thr S c) d = thr S d := Prod.ext (funext fun k => by show (if k = 34 then d else if k = 34 then c else S.1 k) = if k = 34 then d else S.1 k; split <;> rfl) rfl
theorem thr_self (S : MS) : thr S (S.1 34) = S := Prod.ext (funext fun k => by
  show (if k = 34 then S.1 34 else S.1 k) = S.1 k
  by_cases q : k = 34
  · rw [if_pos q, q]
  · rw [if_neg q]) rfl
theorem HCal.mon2 {l : Launch} {D : Dg} {b : Nat} {i : MI} {hh : List (Nat × Nat × Nat × Nat)} {d mc ms : Nat} {As : List Value} {h : Hp} {P P' : Option Value → Hp → Prop} {X X' : String → Hp → Prop} (hc : HCal l D b i hh d mc ms As h P X) (hP : ∀ v h', P v h' → P' v h') (hX : ∀ E h', X E h' → X' E h') : HCal l D b i hh d mc ms As h P' X' := by
  intro p e ha hcas hclk s m args below hf happ hPp hk
  obtain ⟨n, o, h1, h2, h3, h4⟩ := hc p e ha hcas hclk s m args below hf happ hPp hk
  refine ⟨n, o, h1, h2, h3, ?_⟩
  rcases h4 with ⟨⟨v, h', e1, e2, e3⟩, h5⟩ | ⟨q, e0, E, ce, L, ⟨h', hX', e3⟩, h5⟩
  · exact Or.inl ⟨⟨v, h', e1, hP _ _ e2, e3⟩, h5⟩
  · exact Or.inr ⟨q, e0, E, ce, L, ⟨h', hX _ _ hX', e3⟩, h5⟩
def fnv : Option Nat → Int32
  | none => -1001
  | some c => nI c
def AW (A : Nat → Nat) (W : Nat → Nat → Int32) (S : MS) (n nr nc no o q : Nat) (h : Hp) : Prop := ∃ N ad Z, ((N 2 = n ∧ N 3 = nr ∧ N 4 = nc ∧ N 5 = no) ∧ 0 < N 0 ∧ ad 0 0 = o) ∧ RR N ad Z h ∧ LA A W h ∧ h.1 q = some (.inr (0, 8)) ∧ ∃ c, INV N Z (thr S c)
def AWP (A : Nat → Nat) (W : Nat → Nat → Int32) (S : MS) (n nr nc no o q : Nat) (z : Int32) : Option Value → Hp → Prop := fun v h' => v = some (.int z) ∧ AW A W S n nr nc no o q h'
section AWS
variable {l : Launch} {D : Dg} {b : Nat} {A : Nat → Nat} {W : Nat → Nat → Int32} {S : MS} {h h' : Hp} {n nr nc no o q : Nat} {N : Nat → Nat} {ad : Nat → Nat → Nat} {Z : ZS}
theorem AW.la (aw : AW A W S n nr nc no o q h) : LA A W h := by obtain ⟨N, ad, Z, -, -, la, -⟩ := aw; exact la
theorem AW.kq (aw : AW A W S n nr nc no o q h) : h.1 q = some (.inr (0, 8)) := by obtain ⟨N, ad, Z, -, -, -, kq, -⟩ := aw; exact kq
theorem AW.ko (aw : AW A W S n nr nc no o q h) : h.1 o = some (.inl 6) := by
  obtain ⟨N, ad, Z, ⟨-, h0, rfl⟩, rr, -⟩ := aw
  exact rr.k0 h0
theorem AW.cq (aw : AW A W S n nr nc no o q h) (hqA : ∀ k, k < 7 → A k ≠ q) (h1 : h'.1 = h.1) (h2 : ∀ a, a ≠ q → h'.2 a = h.2 a) : AW A W S n nr nc no o q h' := by
  obtain ⟨N, ad, Z, e, rr, la, kq, c, inv⟩ := aw
  exact ⟨N, ad, Z, e, rr.cq kq h1 h2, la.cq hqA h1 h2, by rw [h1]; exact kq, c, inv⟩
theorem AW.nx (lr : LR W n nr nc no S) (sw : SW n nr nc no S) (h0 : 0 < N 0) (rr : RR N ad Z h) (la : LA A W h) (kq : h.1 q = some (.inr (0, 8))) {N2 : Nat → Nat} {ad2 : Nat → Nat → Nat} {Z2 : ZS} {c' : Int32} (t : CNw N ad h N2 ad2 Z2 h') (inv : INV N2 Z2 (thr S c')) : AW A W S n nr nc no (ad 0 0) q h' := by
  obtain ⟨rfl, rfl, rfl, rfl⟩ := inv.cnt (sw.th c') (lr.th c')
  exact ⟨N2, ad2, Z2, ⟨⟨rfl, rfl, rfl, rfl⟩, Nat.lt_of_lt_of_le h0 (t.2.1 0), t.2.2.1 0 0 h0⟩, t.1, la.cn rr t, by rw [t.2.2.2.1 q (by rw [kq]; exact fun z => nomatch z)]; exact kq, c', inv⟩
theorem AW.hc (lr : LR W n nr nc no S) (sw : SW n nr nc no S) (h0 : 0 < N 0) (rr : RR N ad Z h) (la : LA A W h) (kq : h.1 q = some (.inr (0, 8))) {i : MI} {hh : List (Nat × Nat × Nat × Nat)} {d mc ms : Nat} {As : List Value} {z z' c c' : Int32} (hc : HCal l D b i hh d mc ms As h (HL N ad h z (thr (thr S c) c')) nox) (ez : z = z') : HCal l D b i hh d mc ms As h (AWP A W S n nr nc no (ad 0 0) q z') nox := by
  subst ez
  refine hc.mon2 (fun v h' ⟨hv, N', ad', Z', t, inv⟩ => ⟨hv, ?_⟩) (fun _ _ z => z)
  rw [thr_thr] at inv
  exact AW.nx lr sw h0 rr la kq t inv
theorem AW.holder (hfl : l.flags = flags0) (lr : LR W n nr nc no S) (sw : SW n nr nc no S) (aw : AW A W S n nr nc no o q h) {s : Nat} (hs : s < n) : HCal l D b iL_one hL_one 9 2 20 [.ref o, .int 6, .int (nI s)] h (AWP A W S n nr nc no o q (S.2 7 s)) nox := by
  obtain ⟨N, ad, Z, ⟨⟨rfl, rfl, rfl, rfl⟩, h00, rfl⟩, rr, la, kq, c, inv⟩ := aw
  exact AW.hc lr sw h00 rr la kq (h_one_6 hfl rr h00 (o_holder_ok inv hs l D b h ad hfl rr)) (ec_ok rfl)
theorem AW.holder_no (hfl : l.flags = flags0) (lr : LR W n nr nc no S) (sw : SW n nr nc no S) (aw : AW A W S n nr nc no o q h) {x : Int32} (hx : ¬ ∃ k, k < n ∧ x = nI k) : HCal l D b iL_one hL_one 9 2 20 [.ref o, .int 6, .int x] h (AWP A W S n nr nc no o q (-1001)) nox := by
  obtain ⟨N, ad, Z, ⟨⟨rfl, rfl, rfl, rfl⟩, h00, rfl⟩, rr, la, kq, c, inv⟩ := aw
  exact AW.hc lr sw h00 rr la kq (h_one_6 hfl rr h00 (o_holder_no inv hx l D b h ad hfl rr)) rfl
theorem AW.rest_no (hfl : l.flags = flags0) (lr : LR W n nr nc no S) (sw : SW n nr nc no S) (aw : AW A W S n nr nc no o q h) {x : Int32} (hx : ¬ ∃ k, k < n ∧ x = nI k) : HCal l D b iL_one hL_one 9 2 20 [.ref o, .int 7, .int x] h (AWP A W S n nr nc no o q (-1001)) nox := by
  obtain ⟨N, ad, Z, ⟨⟨rfl, rfl, rfl, rfl⟩, h00, rfl⟩, rr, la, kq, c, inv⟩ := aw
  exact AW.hc lr sw h00 rr la kq (h_one_7 hfl rr h00 (o_rest_no inv hx l D b h ad hfl rr)) rfl
theorem AW.rest_f (hfl : l.flags = flags0) (lr : LR W n nr nc no S) (sw : SW n nr nc no S) (aw : AW A W S n nr nc no o q h) {s : Nat} (hs : s < n) (h7 : S.2 7 s = -1) : HCal l D b iL_one hL_one 9 2 20 [.ref o, .int 7, .int (nI s)] h (AWP A W S n nr nc no o q 10000) nox := by
  obtain ⟨N, ad, Z, ⟨⟨rfl, rfl, rfl, rfl⟩, h00, rfl⟩, rr, la, kq, c, inv⟩ := aw
  have e7 := inv.h7 hs
  have e7 : S.2 7 s = oI (Z.2 2 s 6) := e7
  rw [h7] at e7
  cases ez : Z.2 2 s 6 with
  | none => exact AW.hc lr sw h00 rr la kq (h_one_7 hfl rr h00 (o_rest_none inv hs ez l D b h ad hfl rr)) (ec_ok rfl)
  | some w =>
    rcases sw.hd hs with z | ⟨m, hm, z⟩
    · exfalso
      have hw8 := inv.io.2 s w hs ez
      rw [ez, oI_s] at e7
      exact (cast (nI_m1 (k := w) (by omega)) e7.symm)
    · rw [h7] at z
      exact (cast (nI_m1 (k := m) (by omega)) z.symm).elim
theorem AW.rest_h (hfl : l.flags = flags0) (lr : LR W n nr nc no S) (sw : SW n nr nc no S) (aw : AW A W S n nr nc no o q h) {s : Nat} (hs : s < n) (h7 : ¬ S.2 7 s = -1) {z : Int32} (hz : (match jst S n s with
    | none => 10000
    | some c => S.2 8 s - S.2 9 c) = z) : HCal l D b iL_one hL_one 9 2 20 [.ref o, .int 7, .int (nI s)] h (AWP A W S n nr nc no o q z) nox := by
  obtain ⟨N, ad, Z, ⟨⟨rfl, rfl, rfl, rfl⟩, h00, rfl⟩, rr, la, kq, c, inv⟩ := aw
  have e7 : S.2 7 s = oI (Z.2 2 s 6) := inv.h7 hs
  cases ez : Z.2 2 s 6 with
  | none => rw [ez, oI_n] at e7; exact (h7 e7).elim
  | some w =>
    have hr := o_rest_some inv hs ez l D b h ad hfl rr
    rw [rst_eq inv hs ez] at hr
    exact AW.hc lr sw h00 rr la kq (h_one_7 hfl rr h00 hr) ((ec_ok rfl).trans hz)
theorem AW.breaks (hfl : l.flags = flags0) (lr : LR W n nr nc no S) (sw : SW n nr nc no S) (aw : AW A W S n nr nc no o q h) {s r : Nat} (hs : s < n) (hr : r < nr) : HCal l D b iL_two hL_two 9 2 20 [.ref o, .int 3, .int (nI s), .int (nI r)] h (AWP A W S n nr nc no o q (b2i (brk S n s r))) nox := by
  obtain ⟨N, ad, Z, ⟨⟨rfl, rfl, rfl, rfl⟩, h00, rfl⟩, rr, la, kq, c, inv⟩ := aw
  have e9 : brk S (N 2) s r = bkz Z s r := inv.1.bq hs hr
  rw [e9]
  refine AW.hc lr sw h00 rr la kq (h_two_3 hfl rr h00 (o_breaks_ok inv hs hr l D b h ad hfl rr)) ?_
  rw [ec_ok rfl]
  cases bkz Z s r <;> rfl
theorem AW.breaks_no (hfl : l.flags = flags0) (lr : LR W n nr nc no S) (sw : SW n nr nc no S) (aw : AW A W S n nr nc no o q h) {x : Int32} (hx : ¬ ∃ k, k < n ∧ x = nI k) (y : Int32) : HCal l D b iL_two hL_two 9 2 20 [.ref o, .int 3, .int x, .int y] h (AWP A W S n nr nc no o q (-1001)) nox := by
  obtain ⟨N, ad, Z, ⟨⟨rfl, rfl, rfl, rfl⟩, h00, rfl⟩, rr, la, kq, c, inv⟩ := aw
  exact AW.hc lr sw h00 rr la kq (h_two_3 hfl rr h00 (o_breaks_no inv hx y l D b h ad hfl rr)) rfl
theorem AW.breaks_nr (hfl : l.flags = flags0) (lr : LR W n nr nc no S) (sw : SW n nr nc no S) (aw : AW A W S n nr nc no o q h) {s : Nat} (hs : s < n) {y : Int32} (hy : ¬ ∃ k, k < nr ∧ y = nI k) : HCal l D b iL_two hL_two 9 2 20 [.ref o, .int 3, .int (nI s), .int y] h (AWP A W S n nr nc no o q (-1001)) nox := by
  obtain ⟨N, ad, Z, ⟨⟨rfl, rfl, rfl, rfl⟩, h00, rfl⟩, rr, la, kq, c, inv⟩ := aw
  exact AW.hc lr sw h00 rr la kq (h_two_3 hfl rr h00 (o_breaks_nr inv hs hy l D b h ad hfl rr)) rfl
theorem AW.state (hfl : l.flags = flags0) (lr : LR W n nr nc no S) (sw : SW n nr nc no S) (aw : AW A W S n nr nc no o q h) {s : Nat} (hs : s < nc) : HCal l D b iL_one hL_one 9 2 20 [.ref o, .int 8, .int (nI s)] h (AWP A W S n nr nc no o q (S.2 26 s)) nox := by
  obtain ⟨N, ad, Z, ⟨⟨rfl, rfl, rfl, rfl⟩, h00, rfl⟩, rr, la, kq, c, inv⟩ := aw
  exact AW.hc lr sw h00 rr la kq (h_one_8 hfl rr h00 (o_state_ok inv hs l D b h ad hfl rr)) (ec_ok rfl)
theorem AW.state_no (hfl : l.flags = flags0) (lr : LR W n nr nc no S) (sw : SW n nr nc no S) (aw : AW A W S n nr nc no o q h) {x : Int32} (hx : ¬ ∃ k, k < nc ∧ x = nI k) : HCal l D b iL_one hL_one 9 2 20 [.ref o, .int 8, .int x] h (AWP A W S n nr nc no o q (-1001)) nox := by
  obtain ⟨N, ad, Z, ⟨⟨rfl, rfl, rfl, rfl⟩, h00, rfl⟩, rr, la, kq, c, inv⟩ := aw
  exact AW.hc lr sw h00 rr la kq (h_one_8 hfl rr h00 (o_state_no inv hx l D b h ad hfl rr)) rfl
theorem AW.about (hfl : l.flags = flags0) (lr : LR W n nr nc no S) (sw : SW n nr nc no S) (aw : AW A W S n nr nc no o q h) {s : Nat} (hs : s < nc) : HCal l D b iL_one hL_one 9 2 20 [.ref o, .int 9, .int (nI s)] h (AWP A W S n nr nc no o q (10000 * S.2 23 s + 100 * S.2 24 s + S.2 25 s)) nox := by
  obtain ⟨N, ad, Z, ⟨⟨rfl, rfl, rfl, rfl⟩, h00, rfl⟩, rr, la, kq, c, inv⟩ := aw
  exact AW.hc lr sw h00 rr la kq (h_one_9 hfl rr h00 (o_about_ok inv hs l D b h ad hfl rr)) (ec_ok rfl)
theorem AW.about_no (hfl : l.flags = flags0) (lr : LR W n nr nc no S) (sw : SW n nr nc no S) (aw : AW A W S n nr nc no o q h) {x : Int32} (hx : ¬ ∃ k, k < nc ∧ x = nI k) : HCal l D b iL_one hL_one 9 2 20 [.ref o, .int 9, .int x] h (AWP A W S n nr nc no o q (-1001)) nox := by
  obtain ⟨N, ad, Z, ⟨⟨rfl, rfl, rfl, rfl⟩, h00, rfl⟩, rr, la, kq, c, inv⟩ := aw
  exact AW.hc lr sw h00 rr la kq (h_one_9 hfl rr h00 (o_about_no inv hx l D b h ad hfl rr)) rfl
theorem AW.worth (hfl : l.flags = flags0) (lr : LR W n nr nc no S) (sw : SW n nr nc no S) (aw : AW A W S n nr nc no o q h) {k : Nat} (hk : k < nc) : ∃ w s r, w < 4 ∧ s < n ∧ r < nr ∧ S.2 23 k = nI w ∧ S.2 24 k = nI s ∧ S.2 25 k = nI r ∧ HCal l D b iL_one hL_one 9 2 20 [.ref o, .int 10, .int (nI k)] h (AWP A W S n nr nc no o q ((S.2 9 s - S.2 8 s) * S.2 2 w * S.2 20 r / 100)) nox := by
  obtain ⟨N, ad, Z, ⟨⟨rfl, rfl, rfl, rfl⟩, h00, rfl⟩, rr, la, kq, c, inv⟩ := aw
  obtain ⟨w, s, r, hw, hs, hr, e23, e24, e25, z0, z1, z2⟩ := cl_full inv (sw.th c) hk
  exact ⟨w, s, r, hw, hs, hr, e23, e24, e25, AW.hc lr sw h00 rr la kq (h_one_10 hfl rr h00 (o_worth_ok inv hk z0 z1 z2 l D b h ad hfl rr)) (ec_ok rfl)⟩
theorem AW.worth_no (hfl : l.flags = flags0) (lr : LR W n nr nc no S) (sw : SW n nr nc no S) (aw : AW A W S n nr nc no o q h) {x : Int32} (hx : ¬ ∃ k, k < nc ∧ x = nI k) : HCal l D b iL_one hL_one 9 2 20 [.ref o, .int 10, .int x] h (AWP A W S n nr nc no o q (-1001)) nox := by
  obtain ⟨N, ad, Z, ⟨⟨rfl, rfl, rfl, rfl⟩, h00, rfl⟩, rr, la, kq, c, inv⟩ := aw
  exact AW.hc lr sw h00 rr la kq (h_one_10 hfl rr h00 (o_worth_no inv hx l D b h ad hfl rr)) rfl
theorem AW.wages (hfl : l.flags = flags0) (lr : LR W n nr nc no S) (sw : SW n nr nc no S) (aw : AW A W S n nr nc no o q h) {w : Nat} (hw : w < 8) : HCal l D b iL_one hL_one 9 2 20 [.ref o, .int 11, .int (nI w)] h (AWP A W S n nr nc no o q (m_wag S n nc w)) nox := by
  obtain ⟨N, ad, Z, ⟨⟨rfl, rfl, rfl, rfl⟩, h00, rfl⟩, rr, la, kq, c, inv⟩ := aw
  exact AW.hc lr sw h00 rr la kq (h_one_11 hfl rr h00 (o_wages_ok inv hw l D b h ad hfl rr)) (ec_ok rfl)
theorem AW.breaches (hfl : l.flags = flags0) (lr : LR W n nr nc no S) (sw : SW n nr nc no S) (aw : AW A W S n nr nc no o q h) {w : Nat} (hw : w < 8) {y : Nat} (hy : y ≤ 11) : HCal l D b iL_two hL_two 9 2 20 [.ref o, .int 4, .int (nI w), .int (nI y)] h (AWP A W S n nr nc no o q (m_breach S n nr (nI w) (nI y))) nox := by
  obtain ⟨N, ad, Z, ⟨⟨rfl, rfl, rfl, rfl⟩, h00, rfl⟩, rr, la, kq, c, inv⟩ := aw
  exact AW.hc lr sw h00 rr la kq (h_two_4 hfl rr h00 (o_breaches_ok inv hw (y := nI y) ⟨by rw [show (0 : Int32) = nI 0 from rfl, nJ_le (by omega) (by omega)]; omega, by rw [show (11 : Int32) = nI 11 from rfl, nJ_le (by omega) (by omega)]; exact hy⟩ l D b h ad hfl rr)) (ec_ok rfl)
theorem AW.breaches_ia (hfl : l.flags = flags0) (lr : LR W n nr nc no S) (sw : SW n nr nc no S) (aw : AW A W S n nr nc no o q h) {w : Nat} (hw : w < 8) : HCal l D b iL_two hL_two 9 2 20 [.ref o, .int 4, .int (nI w), .int 12] h (AWP A W S n nr nc no o q (-1002)) nox := by
  obtain ⟨N, ad, Z, ⟨⟨rfl, rfl, rfl, rfl⟩, h00, rfl⟩, rr, la, kq, c, inv⟩ := aw
  exact AW.hc lr sw h00 rr la kq (h_two_4 hfl rr h00 (o_breaches_ia inv hw (y := 12) (by decide) l D b h ad hfl rr)) rfl
theorem AW.shiftOf (hfl : l.flags = flags0) (lr : LR W n nr nc no S) (sw : SW n nr nc no S) (aw : AW A W S n nr nc no o q h) {w : Nat} (hw : w < 8) (pl : Int32) : HCal l D b iL_two hL_two 9 2 20 [.ref o, .int 2, .int (nI w), .int pl] h (AWP A W S n nr nc no o q (fnv (m_sof S n w pl))) nox := by
  obtain ⟨N, ad, Z, ⟨⟨rfl, rfl, rfl, rfl⟩, h00, rfl⟩, rr, la, kq, c, inv⟩ := aw
  have ho := o_shiftOf_ok inv hw pl l D b h ad hfl rr
  have e9 : m_sof (thr S c) (N 2) w pl = m_sof S (N 2) w pl := rfl
  rw [e9] at ho
  cases hm : m_sof S (N 2) w pl with
  | none => rw [hm] at ho; exact AW.hc lr sw h00 rr la kq (h_two_2 hfl rr h00 ho) rfl
  | some a => rw [hm] at ho; exact AW.hc lr sw h00 rr la kq (h_two_2 hfl rr h00 ho) (ec_ok rfl)
theorem AW.ring (hfl : l.flags = flags0) (lr : LR W n nr nc no S) (sw : SW n nr nc no S) (aw : AW A W S n nr nc no o q h) {s : Nat} (hs : s < no) : HCal l D b iL_one hL_one 9 2 20 [.ref o, .int 5, .int (nI s)] h (AWP A W S n nr nc no o q (rlen (fnr S no s))) nox := by
  obtain ⟨N, ad, Z, ⟨⟨rfl, rfl, rfl, rfl⟩, h00, rfl⟩, rr, la, kq, c, inv⟩ := aw
  exact AW.hc lr sw h00 rr la kq (h_one_5 hfl rr h00 (o_ring_ok inv hs l D b h ad hfl rr)) ((ec_ok rfl).trans (congrArg rlen (fnr_c (S := S) (S' := thr S c) rfl _ _)))
theorem AW.ring_no (hfl : l.flags = flags0) (lr : LR W n nr nc no S) (sw : SW n nr nc no S) (aw : AW A W S n nr nc no o q h) {x : Int32} (hx : ¬ ∃ k, k < no ∧ x = nI k) : HCal l D b iL_one hL_one 9 2 20 [.ref o, .int 5, .int x] h (AWP A W S n nr nc no o q (-1001)) nox := by
  obtain ⟨N, ad, Z, ⟨⟨rfl, rfl, rfl, rfl⟩, h00, rfl⟩, rr, la, kq, c, inv⟩ := aw
  exact AW.hc lr sw h00 rr la kq (h_one_5 hfl rr h00 (o_ring_no inv hx l D b h ad hfl rr)) rfl
theorem XC.nil9 {S' : MS} {E : String} {h' : Hp} (x : XC N ad h [] S' E h') : nox E h' := by
  obtain ⟨⟨i, hi, -⟩, -⟩ := x
  cases hi
theorem AW.offers (hfl : l.flags = flags0) (lr : LR W n nr nc no S) (sw : SW n nr nc no S) (aw : AW A W S n nr nc no o q h) : Cal l D b iX6_offers 8 2 20 [.ref o] h (AWP A W S n nr nc no o q (cnt S no)) nox := by
  obtain ⟨N, ad, Z, ⟨⟨rfl, rfl, rfl, rfl⟩, h00, rfl⟩, rr, la, kq, c, inv⟩ := aw
  refine (o_offers inv l D b h ad hfl rr).mono (fun v h' ⟨⟨hv, _⟩, N', ad', Z', t, i9⟩ => ⟨hv, ?_⟩) (fun _ _ x => x.nil9)
  rw [thr_thr] at i9
  exact AW.nx lr sw h00 rr la kq t i9
theorem AW.claims (hfl : l.flags = flags0) (lr : LR W n nr nc no S) (sw : SW n nr nc no S) (aw : AW A W S n nr nc no o q h) : Cal l D b iX6_claims 8 2 20 [.ref o] h (AWP A W S n nr nc no o q (nI nc)) nox := by
  obtain ⟨N, ad, Z, ⟨⟨rfl, rfl, rfl, rfl⟩, h00, rfl⟩, rr, la, kq, c, inv⟩ := aw
  have e9 : (thr S c).1 22 = nI (N 4) := sw.1.2.2.2.1
  have ho := o_claims inv l D b h ad hfl rr
  rw [e9] at ho
  refine ho.mono (fun v h' ⟨⟨hv, _⟩, N', ad', Z', t, i9⟩ => ⟨hv, ?_⟩) (fun _ _ x => x.nil9)
  rw [thr_thr] at i9
  exact AW.nx lr sw h00 rr la kq t i9
end AWS
