/-! THE LAW: the world between two deeds -/
def LWd (A : Nat → Nat) (N : Nat → Nat) (ad : Nat → Nat → Nat) (Z : ZS) (W : Nat → Nat → Int32) (S : MS) (h : Hp) : Prop := RR N ad Z h ∧ INV N Z S ∧ LA A W h ∧ LR W (N 2) (N 3) (N 4) (N 5) S ∧ SW (N 2) (N 3) (N 4) (N 5) S
section WD
variable {A : Nat → Nat} {N N2 : Nat → Nat} {ad ad2 : Nat → Nat → Nat} {Z Z2 : ZS} {W W1 : Nat → Nat → Int32} {S S' : MS} {h h1 h2 : Hp} {n nr nc no : Nat}
theorem kap_int (k m : Nat) : kap k ≠ .inr (0, m) := by
  unfold kap
  split <;> exact fun z => by cases z
theorem LA.ncw (la : LA A W h) (rr : RR N ad Z h) {j : Nat} (hj : j < 7) : ¬ cwn N ad (A j) := by
  rintro ⟨k, i, hi, e⟩
  have h1 := rr.1 k i hi
  rw [← e, (la.1 j hj).1] at h1
  exact kap_int k _ (Option.some.inj h1).symm
theorem LA.cn (la : LA A W h) (rr : RR N ad Z h) (t : CNw N ad h N2 ad2 Z2 h2) : LA A W h2 := by
  have hn : ∀ j, j < 7 → h.1 (A j) ≠ none := fun j hj => by rw [(la.1 j hj).1]; exact fun z => nomatch z
  refine ⟨fun j hj => ⟨?_, fun i hi => ?_⟩, la.2⟩
  · rw [t.2.2.2.1 _ (hn j hj)]; exact (la.1 j hj).1
  · rw [t.2.2.2.2.1 _ (hn j hj) (la.ncw rr hj)]; exact (la.1 j hj).2 i hi
theorem RR.lt (rr : RR N ad Z h) (la : LA A W h) (t : LTo A W1 h h1) : RR N ad Z h1 := by
  refine ⟨fun k i hi => by rw [t.2.1]; exact rr.1 k i hi, fun k i f hi => ?_, rr.2.2.1, rr.2.2.2⟩
  rw [t.2.2 _ (fun j hj e => la.ncw rr hj ⟨k, i, hi, e.symm⟩)]
  exact rr.2.1 k i f hi
theorem LR.f (lr : LR W n nr nc no S) (e2 : S'.2 = S.2) (e0 : S'.1 0 = S.1 0) (e10 : S'.1 10 = S.1 10) : LR W n nr nc no S' := by
  unfold LR pdo at lr ⊢
  rw [e2, e0, e10]
  exact lr
theorem SW.f (sw : SW n nr nc no S) (e2 : S'.2 = S.2) (e : ∀ k, k < 29 → S'.1 k = S.1 k) : SW n nr nc no S' := by
  unfold SW at sw ⊢
  rw [e2, e 0 (by decide), e 3 (by decide), e 16 (by decide), e 22 (by decide), e 28 (by decide)]
  exact sw
theorem LR.th (lr : LR W n nr nc no S) (c : Int32) : LR W n nr nc no (thr S c) := lr.f rfl rfl rfl
theorem SW.th (sw : SW n nr nc no S) (c : Int32) : SW n nr nc no (thr S c) := sw.f rfl (fun k hk => by show (if k = 34 then c else S.1 k) = S.1 k; rw [if_neg (by omega)])
theorem INV.cnt (inv : INV N Z S) (sw : SW n nr nc no S) (lr : LR W n nr nc no S) : n = N 2 ∧ nr = N 3 ∧ nc = N 4 ∧ no = N 5 := by
  have h1 := lr.h10
  have h2 := lr.h4
  have h3 := lr.h63
  have h4 := lr.h12
  have a1 := inv.n2
  have a2 := inv.n3
  have a3 := inv.n4
  have a4 := inv.n5
  have e1 := sw.1.2.1.symm.trans inv.s3
  have e2 := sw.1.2.2.1.symm.trans inv.s16
  have e3 := sw.1.2.2.2.1.symm.trans inv.s22
  have e4 := sw.1.2.2.2.2.1.symm.trans inv.s28
  rw [nJ_eq (by omega) (by omega)] at e1 e2 e3 e4
  exact ⟨e1, e2, e3, e4⟩
/-- a deed's end -/
def SP (A : Nat → Nat) (o : Nat) : Option Value → Hp → Prop := fun v h' => v = some (.int 1) ∧ ∃ N' ad' Z' W' S', LWd A N' ad' Z' W' S' h' ∧ ad' 0 0 = o
theorem LWd.of (h0 : 0 < N 0) (rr : RR N ad Z h) (la : LA A W h) (t : CNw N ad h N2 ad2 Z2 h2) (inv : INV N2 Z2 S') (lr : LR W n nr nc no S') (sw : SW n nr nc no S') : ∃ N' ad' Z' W' S', LWd A N' ad' Z' W' S' h2 ∧ ad' 0 0 = ad 0 0 := by
  obtain ⟨rfl, rfl, rfl, rfl⟩ := inv.cnt sw lr
  exact ⟨N2, ad2, Z2, W, S', ⟨t.1, inv, la.cn rr t, lr, sw⟩, t.2.2.1 0 0 h0⟩
theorem SP.of (h0 : 0 < N 0) (rr : RR N ad Z h) (la : LA A W h) (t : CNw N ad h N2 ad2 Z2 h2) (inv : INV N2 Z2 S') (lr : LR W n nr nc no S') (sw : SW n nr nc no S') : SP A (ad 0 0) (some (.int 1)) h2 := ⟨rfl, LWd.of h0 rr la t inv lr sw⟩
end WD
/-- what the law takes as a shift -/
def Sel (n : Nat) (x : Int32) (is : Bool) : Prop := (∃ t, t < n ∧ x = nI t ∧ is = true) ∨ (is = false ∧ ¬ ∃ t, t < n ∧ x = nI t)
theorem no_neg {n : Nat} (hn : n ≤ 2000) : ¬ ∃ t, t < n ∧ (-1 : Int32) = nI t := by
  rintro ⟨t, h1, h2⟩
  have := congrArg Int32.toInt h2
  rw [nI_toInt (by omega)] at this
  have e : (-1 : Int32).toInt = -1 := by decide
  omega
theorem no_big {n m : Nat} (hm : m ≤ 2000) (h : n ≤ m) : ¬ ∃ t, t < n ∧ nI m = nI t := by
  rintro ⟨t, h1, h2⟩
  rw [nJ_eq (by omega) (by omega)] at h2
  omega
theorem pos_e {k : Nat} (h : 0 < k) (h2 : k ≤ 2000) : (nI k = 0) = False := eq_false (nI_ne0 h (by omega))
theorem z_e : (nI 0 = 0) = True := eq_true rfl
