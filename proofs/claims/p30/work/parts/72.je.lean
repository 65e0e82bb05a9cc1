/-! what judging leaves alone, and when it has nothing to do -/
theorem plc_cg {Z Z' : ZS} {w : Nat} (h : Z'.2 14 w = Z.2 14 w) (s : Nat) : plc Z' w s = plc Z w s := by unfold plc; rw [h]
theorem wkd_cg {Z Z' : ZS} {w : Nat} (h : Z'.2 14 w = Z.2 14 w) (h1 : ∀ j t f, Z.2 14 w j = some t → Z'.1 2 t f = Z.1 2 t f) (wk : Int32) : ∀ i a, wkd Z' w wk i a = wkd Z w wk i a := by
  intro i
  induction i with
  | zero => intro a; rfl
  | succ i ih =>
    intro a
    unfold wkd
    rw [h]
    cases e : Z.2 14 w i with
    | none => rfl
    | some t =>
      dsimp only
      rw [h1 i t 4 e, h1 i t 5 e, ih]
theorem dyd_cg {Z Z' : ZS} {w : Nat} (h : Z'.2 14 w = Z.2 14 w) (h1 : ∀ j t f, Z.2 14 w j = some t → Z'.1 2 t f = Z.1 2 t f) : ∀ i a, dyd Z' w i a = dyd Z w i a := by
  intro i
  induction i with
  | zero => intro a; rfl
  | succ i ih =>
    intro a
    unfold dyd
    rw [h]
    cases e : Z.2 14 w i with
    | none => rfl
    | some t =>
      dsimp only
      rw [h1 i t 4 e, ih]
theorem sat_cg {Z Z' : ZS} {w : Nat} (h : Z'.2 14 w = Z.2 14 w) (x : Int32) : sat Z' w x = sat Z w x := by unfold sat; rw [h]
theorem rst_cg {Z Z' : ZS} {w s : Nat} (h : Z'.2 14 w = Z.2 14 w) (h1 : ∀ j t f, Z.2 14 w j = some t → Z'.1 2 t f = Z.1 2 t f) (hs : ∀ f, Z'.1 2 s f = Z.1 2 s f) : rst Z' w s = rst Z w s := by
  unfold rst
  rw [plc_cg h, sat_cg h]
  cases e : sat Z w (oI (plc Z w s) - 1) with
  | none => rfl
  | some t =>
    dsimp only
    unfold sat at e
    split at e
    · rw [hs 4, h1 _ t 5 e]
    · cases e
theorem bkw_cg {Z Z' : ZS} {w s r : Nat} (h : Z'.2 14 w = Z.2 14 w) (h1 : ∀ j t f, Z.2 14 w j = some t → Z'.1 2 t f = Z.1 2 t f) (hs : ∀ f, Z'.1 2 s f = Z.1 2 s f) (hr : ∀ f, Z'.1 3 r f = Z.1 3 r f) : bkw Z' s r w = bkw Z s r w := by
  unfold bkw
  rw [hr 1, hr 2, hs 4, hs 5, plc_cg h, rst_cg h h1 hs, wkd_cg h h1, dyd_cg h h1]
theorem bkz_cg {Z Z' : ZS} {s r : Nat} (h6 : Z'.2 2 s 6 = Z.2 2 s 6) (h : ∀ w, Z.2 2 s 6 = some w → Z'.2 14 w = Z.2 14 w ∧ ∀ j t f, Z.2 14 w j = some t → Z'.1 2 t f = Z.1 2 t f) (hs : ∀ f, Z'.1 2 s f = Z.1 2 s f) (hr : ∀ f, Z'.1 3 r f = Z.1 3 r f) : bkz Z' s r = bkz Z s r := by
  unfold bkz
  rw [h6, hr 5, hr 3, hs 1]
  cases e : Z.2 2 s 6 with
  | none => rfl
  | some w =>
    dsimp only
    rw [bkw_cg (h w e).1 (h w e).2 hs hr]
/-- every claim that is OPEN or PAID is founded -/
def JP (N : Nat → Nat) (Z : ZS) : Prop := ∀ c w s r, c < N 4 → Z.2 4 c 0 = some w → Z.2 4 c 1 = some s → Z.2 4 c 2 = some r → (Z.1 4 c 4 = 0 ∨ Z.1 4 c 4 = 1) → Z.2 2 s 6 = some w ∧ bkz Z s r = true
/-- a shift that breaks a rule has such a claim, or there are 200 -/
def Dn (N : Nat → Nat) (Z : ZS) (s r : Nat) : Prop := ∀ w, Z.2 2 s 6 = some w → bkz Z s r = true → (∃ c, c < N 4 ∧ Z.2 4 c 0 = some w ∧ Z.2 4 c 1 = some s ∧ Z.2 4 c 2 = some r ∧ (Z.1 4 c 4 = 0 ∨ Z.1 4 c 4 = 1)) ∨ (¬ N 4 < 200 ∧ ∀ c, c < N 4 → ¬ (Z.2 4 c 0 = some w ∧ Z.2 4 c 1 = some s ∧ Z.2 4 c 2 = some r))
def JF (N : Nat → Nat) (Z : ZS) : Prop := JP N Z ∧ ∀ s r, s < N 2 → r < N 3 → Dn N Z s r
/-- only claims have changed -/
def JSm (N : Nat → Nat) (Z : ZS) (N' : Nat → Nat) (Z' : ZS) : Prop := (∀ k, k ≠ 4 → N' k = N k) ∧ N 4 ≤ N' 4 ∧ (∀ k i f, k ≠ 4 → ¬ (k = 0 ∧ i = 0 ∧ f = 9) → Z'.1 k i f = Z.1 k i f) ∧ ∀ k i f, k ≠ 4 → k ≠ 10 → ¬ (k = 2 ∧ f = 7) → Z'.2 k i f = Z.2 k i f
def JMn (N : Nat → Nat) (Z : ZS) (N' : Nat → Nat) (Z' : ZS) : Prop := JSm N Z N' Z' ∧ (∀ c f, c < N 4 → Z'.2 4 c f = Z.2 4 c f) ∧ ∀ c, c < N 4 → (Z.1 4 c 4 = 0 ∨ Z.1 4 c 4 = 1) → (Z'.1 4 c 4 = 0 ∨ Z'.1 4 c 4 = 1)
section JEL
variable {N N' N2 : Nat → Nat} {Z Z' Z2 : ZS} {S : MS}
theorem JSm.rf : JSm N Z N Z := ⟨fun _ _ => rfl, Nat.le_refl _, fun _ _ _ _ _ => rfl, fun _ _ _ _ _ _ => rfl⟩
theorem JSm.tr (a : JSm N Z N' Z') (c : JSm N' Z' N2 Z2) : JSm N Z N2 Z2 := ⟨fun k hk => (c.1 k hk).trans (a.1 k hk), Nat.le_trans a.2.1 c.2.1, fun k i f h1 h2 => (c.2.2.1 k i f h1 h2).trans (a.2.2.1 k i f h1 h2), fun k i f h1 h2 h3 => (c.2.2.2 k i f h1 h2 h3).trans (a.2.2.2 k i f h1 h2 h3)⟩
theorem JMn.rf : JMn N Z N Z := ⟨JSm.rf, fun _ _ _ => rfl, fun _ _ h => h⟩
theorem JMn.tr (a : JMn N Z N' Z') (c : JMn N' Z' N2 Z2) : JMn N Z N2 Z2 := by
  have h4 := a.1.2.1
  exact ⟨a.1.tr c.1, fun d f hd => (c.2.1 d f (by omega)).trans (a.2.1 d f hd), fun d hd h => c.2.2 d (by omega) (a.2.2 d hd h)⟩
theorem JSm.bkz (m : JSm N Z N' Z') (s r : Nat) : bkz Z' s r = bkz Z s r :=
  bkz_cg (m.2.2.2 2 s 6 (by decide) (by decide) (by simp)) (fun w _ => ⟨by funext j; exact m.2.2.2 14 w j (by decide) (by decide) (by simp), fun _ t f _ => m.2.2.1 2 t f (by decide) (by simp)⟩) (fun f => m.2.2.1 2 s f (by decide) (by simp)) (fun f => m.2.2.1 3 r f (by decide) (by simp))
theorem JSm.hold (m : JSm N Z N' Z') (s : Nat) : Z'.2 2 s 6 = Z.2 2 s 6 := m.2.2.2 2 s 6 (by decide) (by decide) (by simp)
theorem JMn.dn (m : JMn N Z N' Z') (hl : N' 4 ≤ 200) {s r : Nat} (d : Dn N Z s r) : Dn N' Z' s r := by
  intro w hw hb
  rw [m.1.hold] at hw
  rw [m.1.bkz] at hb
  have h4 := m.1.2.1
  rcases d w hw hb with ⟨c, hc, z0, z1, z2, z4⟩ | ⟨h, h9⟩
  · exact Or.inl ⟨c, by omega, by rw [m.2.1 c 0 hc]; exact z0, by rw [m.2.1 c 1 hc]; exact z1, by rw [m.2.1 c 2 hc]; exact z2, m.2.2 c hc z4⟩
  · refine Or.inr ⟨by omega, fun c hc => ?_⟩
    have hc4 : c < N 4 := by omega
    rw [m.2.1 c 0 hc4, m.2.1 c 1 hc4, m.2.1 c 2 hc4]
    exact h9 c hc4
theorem JSm.st (c : Nat) (x : Int32) : JSm N Z N (zui Z.1 4 c 4 x, Z.2) := ⟨fun _ _ => rfl, Nat.le_refl _, fun k i f hk _ => by simp [zui, hk], fun _ _ _ _ _ _ => rfl⟩
def rvx (x : Int32) : Int32 := if x = 2 then 0 else if x = 3 then 1 else x
theorem rvx_01 {x : Int32} (h : x = 0 ∨ x = 1 ∨ x = 2 ∨ x = 3) : (rvx x = 0 ∨ rvx x = 1) ∧ ((rvx x = 1 ∨ rvx x = 3) ↔ (x = 1 ∨ x = 3)) := by
  rcases h with h | h | h | h <;> subst h <;> decide
theorem st_rev (ist : Ist N Z) (jp : JP N Z) {c w s r : Nat} (hc : c < N 4) (z0 : Z.2 4 c 0 = some w) (z1 : Z.2 4 c 1 = some s) (z2 : Z.2 4 c 2 = some r) (hh : Z.2 2 s 6 = some w) (hb : bkz Z s r = true) : JMn N Z N (zui Z.1 4 c 4 (rvx (Z.1 4 c 4)), Z.2) ∧ JP N (zui Z.1 4 c 4 (rvx (Z.1 4 c 4)), Z.2) ∧ Dn N (zui Z.1 4 c 4 (rvx (Z.1 4 c 4)), Z.2) s r := by
  have m := JSm.st (N := N) (Z := Z) c (rvx (Z.1 4 c 4))
  have x01 := (rvx_01 (ist c hc)).1
  generalize rvx (Z.1 4 c 4) = x at m x01 ⊢
  have ec : (zui Z.1 4 c 4 x) 4 c 4 = x := by simp [zui]
  have en : ∀ d, d ≠ c → (zui Z.1 4 c 4 x) 4 d 4 = Z.1 4 d 4 := fun d hd => by simp [zui, hd]
  refine ⟨⟨m, fun _ _ _ => rfl, fun d hd h => ?_⟩, fun d w' s' r' hd y0 y1 y2 h => ?_, fun w' hw hb' => Or.inl ⟨c, hc, ?_⟩⟩
  · by_cases e : d = c
    · subst e; dsimp only; rw [ec]; exact x01
    · dsimp only; rw [en d e]; exact h
  · rw [m.bkz]
    by_cases e : d = c
    · subst e
      dsimp only at y0 y1 y2 ⊢
      rw [z0] at y0
      rw [z1] at y1
      rw [z2] at y2
      cases y0; cases y1; cases y2
      exact ⟨hh, hb⟩
    · dsimp only at h
      rw [en d e] at h
      exact jp d w' s' r' hd y0 y1 y2 h
  · dsimp only at hw ⊢
    rw [hh] at hw
    cases hw
    exact ⟨z0, z1, z2, by rw [ec]; exact x01⟩
theorem JSm.mk {w s r : Nat} (hm : MKP N Z w s r Z') : JSm N Z (nup N 4) Z' := by
  obtain ⟨m1, m2, m3, m5, m9, m11⟩ := hm
  refine ⟨fun k hk => by simp [nup, hk], by simp [nup], fun k i f h4 h0 => m2 k i f h0 (fun z => h4 z.1), fun k i f h4 h10 h2 => m11 k i f (fun z => h4 z.1) (fun z => h2 ⟨z.1, z.2.2⟩) (fun z => h10 z.1)⟩
theorem st_mk (st : St N Z) (jp : JP N Z) {w s r : Nat} (hm : MKP N Z w s r Z') (hh : Z.2 2 s 6 = some w) (hb : bkz Z s r = true) : JMn N Z (nup N 4) Z' ∧ JP (nup N 4) Z' ∧ Dn (nup N 4) Z' s r := by
  have m := JSm.mk hm
  obtain ⟨m1, m2, ⟨m3, m4⟩, ⟨m5, m6, m7, m8⟩, m9, m11⟩ := hm
  have n4 : nup N 4 4 = N 4 + 1 := rfl
  have o4 : ∀ c f, c ≠ N 4 → Z'.2 4 c f = Z.2 4 c f := fun c f hc => m11 4 c f (fun z => hc z.2) (fun z => by simp at z) (fun z => by simp at z)
  have i4 : ∀ c f, c ≠ N 4 → Z'.1 4 c f = Z.1 4 c f := fun c f hc => m2 4 c f (fun z => by simp at z) (fun z => hc z.2)
  refine ⟨⟨m, fun c f hc => o4 c f (by omega), fun c hc h => by rw [i4 c 4 (by omega)]; exact h⟩, fun c w' s' r' hc y0 y1 y2 h => ?_, fun w' hw _ => Or.inl ⟨N 4, by omega, ?_⟩⟩
  · rw [m.bkz, m.hold]
    by_cases e : c = N 4
    · subst e
      rw [m5] at y0
      rw [m6] at y1
      rw [m7] at y2
      cases y0; cases y1; cases y2
      exact ⟨hh, hb⟩
    · rw [o4 c 0 e] at y0
      rw [o4 c 1 e] at y1
      rw [o4 c 2 e] at y2
      rw [i4 c 4 e] at h
      exact jp c w' s' r' (by omega) y0 y1 y2 h
  · rw [m.hold, hh] at hw
    cases hw
    exact ⟨m5, m6, m7, Or.inl m3⟩
/-- the reference's steps, by the class's store -/
theorem JI.bq (j : JI N Z S) {s r : Nat} (hs : s < N 2) (hr : r < N 3) : brk S (N 2) s r = bkz Z s r :=
  brk_bkz j.1.1.2.2.1 j.2.1.2.2.1 j.2.1.2.2.2.1 j.2.2.1.1 j.2.2.1.2.1 j.2.2.1.2.2 hs hr
theorem JI.nq (j : JI N Z S) : ncl S = N 4 := by
  have h4 := j.1.1.2.2.2.2.1
  unfold ncl
  rw [j.2.1.1.2.2.1]
  exact nIc (by omega)
theorem JI.h7 (j : JI N Z S) {s : Nat} (hs : s < N 2) : S.2 7 s = oI (Z.2 2 s 6) := (j.2.1.2.2.1 s hs).2.2.2.2.2
theorem JI.cst (j : JI N Z S) {c : Nat} (hc : c < N 4) : S.2 26 c = Z.1 4 c 4 := (j.2.1.2.2.2.2.1 c hc).2.2.2.1
theorem j2_no (j : JI N Z S) {s r : Nat} (hs : s < N 2) (hr : r < N 3) (hb : bkz Z s r = false) : j2 (N 2) s r S = S := by
  unfold j2
  rw [j.bq hs hr, hb]
  rfl
theorem j2_some (j : JI N Z S) {s r w c : Nat} (hs : s < N 2) (hr : r < N 3) (hw : Z.2 2 s 6 = some w) (hb : bkz Z s r = true) (hc : c < N 4) (hf : cfo S (N 4) (nI w) (nI s) (nI r) = some c) : j2 (N 2) s r S = (S.1, aup S.2 26 c (rvx (Z.1 4 c 4))) := by
  unfold j2
  rw [j.bq hs hr, hb, j.nq, j.h7 hs, hw, oI_s, hf]
  simp only [if_true]
  rw [j.cst hc]
  rfl
theorem j2_none (j : JI N Z S) {s r w : Nat} (hs : s < N 2) (hr : r < N 3) (hw : Z.2 2 s 6 = some w) (hb : bkz Z s r = true) (hf : cfo S (N 4) (nI w) (nI s) (nI r) = none) : j2 (N 2) s r S = mk S (N 4) (nI w) (nI s) (nI r) := by
  unfold j2
  rw [j.bq hs hr, hb, j.nq, j.h7 hs, hw, oI_s, hf]
  rfl
end JEL
