theorem nodup_len : ∀ (n : Nat) (ls : List Nat), ls.Nodup → (∀ t, t ∈ ls → t < n) → ls.length ≤ n := by
  intro n
  induction n with
  | zero =>
    intro ls _ hm
    have : ls = [] := List.eq_nil_iff_forall_not_mem.mpr (fun t ht => absurd (hm t ht) (by omega))
    subst this
    exact Nat.le_refl _
  | succ n ih =>
    intro ls hnd hm
    by_cases hin : n ∈ ls
    · obtain ⟨u, v, rfl⟩ := List.append_of_mem hin
      have hnd2 : (u ++ v).Nodup := by
        rw [List.nodup_append] at hnd ⊢
        obtain ⟨a1, a2, a3⟩ := hnd
        exact ⟨a1, (List.nodup_cons.mp a2).2, fun x hx y hy => a3 x hx y (List.mem_cons_of_mem _ hy)⟩
      have hnn : n ∉ u ++ v := by
        rw [List.nodup_append] at hnd
        obtain ⟨a1, a2, a3⟩ := hnd
        intro hx
        rcases List.mem_append.mp hx with hx | hx
        · exact a3 n hx n List.mem_cons_self rfl
        · exact (List.nodup_cons.mp a2).1 hx
      have := ih (u ++ v) hnd2 (fun t ht => by
        have h1 : t ∈ u ++ n :: v := by
          rcases List.mem_append.mp ht with h | h
          · exact List.mem_append_left _ h
          · exact List.mem_append_right _ (List.mem_cons_of_mem _ h)
        have h2 := hm t h1
        have h3 : t ≠ n := fun e => hnn (by rw [← e]; exact ht)
        omega)
      simp only [List.length_append, List.length_cons] at this ⊢
      omega
    · have := ih ls hnd (fun t ht => by
        have h2 := hm t ht
        have h3 : t ≠ n := fun e => hin (by rw [← e]; exact ht)
        omega)
      omega
set_option maxRecDepth 100000 in
theorem nI_d168 : ∀ m, m < 2048 → nI m / 168 = nI (m / 168) := by decide +kernel
set_option maxRecDepth 100000 in
theorem nI_d24 : ∀ m, m < 2048 → nI m / 24 = nI (m / 24) := by decide +kernel
theorem oI_inj {a c : Option Nat} (ha : ∀ w, a = some w → w < 40) (hc : ∀ w, c = some w → w < 40) : (oI a = oI c) = (a = c) := by
  cases a with
  | none =>
    cases c with
    | none => exact propext ⟨fun _ => rfl, fun _ => rfl⟩
    | some w => exact propext ⟨fun h => by have := (nI_m1 (hc w rfl)); exact (this.mp h.symm).elim, fun h => nomatch h⟩
  | some v =>
    cases c with
    | none => exact propext ⟨fun h => by have := (nI_m1 (ha v rfl)); exact (this.mp h).elim, fun h => nomatch h⟩
    | some w =>
      show (nI v = nI w) = _
      rw [nE40 (ha v rfl) (hc w rfl)]
      exact propext ⟨fun h => by rw [h], fun h => by cases h; rfl⟩
/-! what ties the class's store to the reference's state -/
def Rct (N : Nat → Nat) (Z : ZS) (S : MS) : Prop := S.1 3 = nI (N 2) ∧ S.1 16 = nI (N 3) ∧ S.1 22 = nI (N 4) ∧ S.1 28 = nI (N 5) ∧ S.1 0 = Z.1 0 0 11 ∧ S.1 10 = Z.1 6 0 1
def Rwk (Z : ZS) (S : MS) : Prop := ∀ w, w < 8 → S.2 1 w = Z.1 1 w 2 ∧ S.2 2 w = Z.1 1 w 3
def Rsh (N : Nat → Nat) (Z : ZS) (S : MS) : Prop := ∀ s, s < N 2 → S.2 6 s = Z.1 2 s 1 ∧ S.2 4 s = Z.1 2 s 2 ∧ S.2 5 s = Z.1 2 s 3 ∧ S.2 8 s = Z.1 2 s 4 ∧ S.2 9 s = Z.1 2 s 5 ∧ S.2 7 s = oI (Z.2 2 s 6)
def Rru (N : Nat → Nat) (Z : ZS) (S : MS) : Prop := ∀ r, r < N 3 → S.2 17 r = Z.1 3 r 1 ∧ S.2 18 r = Z.1 3 r 2 ∧ S.2 19 r = Z.1 3 r 3 ∧ S.2 20 r = Z.1 3 r 4 ∧ S.2 21 r = Z.1 3 r 5
def Rcl (N : Nat → Nat) (Z : ZS) (S : MS) : Prop := ∀ c, c < N 4 → S.2 23 c = oI (Z.2 4 c 0) ∧ S.2 24 c = oI (Z.2 4 c 1) ∧ S.2 25 c = oI (Z.2 4 c 2) ∧ S.2 26 c = Z.1 4 c 4 ∧ Z.1 4 c 5 = if S.2 26 c = 1 ∨ S.2 26 c = 3 then S.2 27 c else 0
def Rof (N : Nat → Nat) (Z : ZS) (S : MS) : Prop := ∀ c, c < N 5 → S.2 29 c = oI (Z.2 5 c 1) ∧ S.2 30 c = oI (Z.2 5 c 2) ∧ S.2 31 c = Z.1 5 c 3
def Rtx (Z : ZS) (S : MS) : Prop := ∀ i, i < i + 1 → S.2 11 i = Z.1 13 0 i ∧ 0 ≤ Z.1 13 0 i ∧ Z.1 13 0 i ≤ 65535
/-- the orders: a list each, sorted, of just the shifts that the worker holds -/
def OrdL (N : Nat → Nat) (Z : ZS) (w : Nat) (ls : List Nat) : Prop := (∀ j, j < 40 → Z.2 14 w j = ls[j]?) ∧ (∀ s, s ∈ ls ↔ s < N 2 ∧ Z.2 2 s 6 = some w) ∧ ls.Pairwise (LTk (fun t => (Z.1 2 t 4).toInt))
def Iord (N : Nat → Nat) (Z : ZS) : Prop := (∀ w, w < 8 → ∃ ls, OrdL N Z w ls) ∧ ∀ s w, s < N 2 → Z.2 2 s 6 = some w → w < 8
def Irg (N : Nat → Nat) (Z : ZS) : Prop := ∀ s, s < N 2 → ∃ m, m ≤ 2000 ∧ Z.1 2 s 4 = nI m
def Iru (N : Nat → Nat) (Z : ZS) : Prop := ∀ r, r < N 3 → (∃ k, k < 4 ∧ Z.1 3 r 1 = nI k) ∧ ∃ m, m ≤ 200 ∧ Z.1 3 r 2 = nI m
section MB
variable {N : Nat → Nat} {Z : ZS} {S : MS}
theorem OrdL.len (hn : N 2 ≤ 40) {w : Nat} {ls : List Nat} (o : OrdL N Z w ls) : ls.length ≤ N 2 := nodup_len _ ls (pw_nodup o.2.2) (fun t ht => ((o.2.1 t).mp ht).1)
theorem OrdL.plc (hn : N 2 ≤ 40) {w q s : Nat} {ls : List Nat} (o : OrdL N Z w ls) (hq : ls[q]? = some s) : plc Z w s = some q := by
  have hl := o.len hn
  have hq9 : q < ls.length := (List.getElem?_eq_some_iff.mp hq).1
  refine fnd_some (by rw [o.1 q (by omega), hq]; simp) (fun j hj => ?_) 40 (by omega)
  rw [o.1 j (by omega)]
  rw [decide_eq_false_iff_not]
  intro h
  have := (pw_lt o.2.2 h hq).mpr hj
  unfold LTk at this
  omega
theorem Iord.ocon (hn : N 2 ≤ 40) (io : Iord N Z) : Ocon N Z := by
  intro s w hs hw
  obtain ⟨ls, o⟩ := io.1 w (io.2 s w hs hw)
  have hin := (o.2.1 s).mpr ⟨hs, hw⟩
  obtain ⟨q, hq⟩ := List.mem_iff_getElem?.mp hin
  exact ⟨q, o.plc hn hq⟩
theorem Iru.kcon (i : Iru N Z) : Kcon N Z := fun r hr => (i r hr).1
/-- who goes ahead, by places -/
theorem ahd_ls (rs : Rsh N Z S) (io : Iord N Z) {w q s t : Nat} {ls : List Nat} (o : OrdL N Z w ls) (hq : ls[q]? = some s) (ht : t < N 2) : ahd S t s = true ↔ t ∈ ls.take q := by
  have hs := (o.2.1 s).mp (List.mem_of_getElem? hq)
  have e1 : (S.2 7 t = S.2 7 s) = (Z.2 2 t 6 = some w) := by
    rw [(rs t ht).2.2.2.2.2, (rs s hs.1).2.2.2.2.2, hs.2]
    exact oI_inj (fun v hv => by have := io.2 t v ht hv; omega) (fun v hv => by have := io.2 s v hs.1 (by rw [hs.2]; exact hv); omega)
  have e2 : LTk (fun t => (S.2 8 t).toInt) t s ↔ LTk (fun t => (Z.1 2 t 4).toInt) t s := by
    unfold LTk
    dsimp only
    rw [(rs t ht).2.2.2.1, (rs s hs.1).2.2.2.1]
  rw [ahd_iff, e1, e2]
  refine ⟨fun ⟨h1, h2⟩ => ?_, fun h => ?_⟩
  · obtain ⟨i, hi⟩ := List.mem_iff_getElem?.mp ((o.2.1 t).mpr ⟨ht, h1⟩)
    have := (pw_lt o.2.2 hi hq).mp h2
    exact List.mem_iff_getElem?.mpr ⟨i, by rw [List.getElem?_take_of_lt this]; exact hi⟩
  · obtain ⟨i, hi⟩ := List.mem_iff_getElem?.mp h
    have hiq : i < q := by
      have := (List.getElem?_eq_some_iff.mp hi).1
      rw [List.length_take] at this
      omega
    rw [List.getElem?_take_of_lt hiq] at hi
    exact ⟨((o.2.1 t).mp (List.mem_of_getElem? hi)).2, (pw_lt o.2.2 hi hq).mpr hiq⟩
theorem jst_ls (rs : Rsh N Z S) (io : Iord N Z) {w q s : Nat} {ls : List Nat} (o : OrdL N Z w ls) (hq : ls[q]? = some s) : jst S (N 2) s = if q = 0 then none else ls[q - 1]? := by
  obtain ⟨h1, h2⟩ := jst_char S s (N 2)
  have hq9 : q < ls.length := (List.getElem?_eq_some_iff.mp hq).1
  cases hj : jst S (N 2) s with
  | none =>
    split
    · rfl
    · rename_i h0
      have hlt : q - 1 < ls.length := by omega
      have hc : ls[q - 1]? = some ls[q - 1] := List.getElem?_eq_getElem hlt
      have hc2 := ((o.2.1 _).mp (List.mem_of_getElem? hc)).1
      have := h2 hj _ hc2
      rw [(ahd_ls rs io o hq hc2).mpr (List.mem_iff_getElem?.mpr ⟨q - 1, by rw [List.getElem?_take_of_lt (by omega)]; exact hc⟩)] at this
      cases this
  | some c =>
    obtain ⟨a1, a2, a3⟩ := h1 c hj
    have hc := (ahd_ls rs io o hq a1).mp a2
    obtain ⟨i, hi⟩ := List.mem_iff_getElem?.mp hc
    have hiq : i < q := by
      have := (List.getElem?_eq_some_iff.mp hi).1
      rw [List.length_take] at this
      omega
    rw [List.getElem?_take_of_lt hiq] at hi
    rw [if_neg (by omega)]
    by_cases e : i = q - 1
    · rw [← e]; exact hi.symm
    · have hlt : q - 1 < ls.length := by omega
      have hc9 : ls[q - 1]? = some ls[q - 1] := List.getElem?_eq_getElem hlt
      have hc2 := ((o.2.1 _).mp (List.mem_of_getElem? hc9)).1
      have h5 := a3 _ hc2 ((ahd_ls rs io o hq hc2).mpr (List.mem_iff_getElem?.mpr ⟨q - 1, by rw [List.getElem?_take_of_lt (by omega)]; exact hc9⟩))
      rcases h5 with h5 | h5
      · rw [hc9, h5]
      · have h6 := (ahd_ls rs io o hi hc2).mp h5
        obtain ⟨i2, hi2⟩ := List.mem_iff_getElem?.mp h6
        have hi2q : i2 < i := by
          have := (List.getElem?_eq_some_iff.mp hi2).1
          rw [List.length_take] at this
          omega
        rw [List.getElem?_take_of_lt hi2q] at hi2
        have h7 := (pw_lt o.2.2 hi2 hc9).mpr (by omega)
        unfold LTk at h7
        omega
theorem bg_le (ir : Irg N Z) {w : Nat} {ls : List Nat} (o : OrdL N Z w ls) {i j a c m k : Nat} (hi : ls[i]? = some a) (hj : ls[j]? = some c) (hij : i ≤ j) (hm : Z.1 2 a 4 = nI m) (hk : Z.1 2 c 4 = nI k) (hm2 : m ≤ 2000) (hk2 : k ≤ 2000) : m ≤ k := by
  by_cases e : i = j
  · subst e
    rw [hi] at hj
    cases hj
    rw [hm] at hk
    have := congrArg Int32.toInt hk
    rw [nI_toInt (by omega), nI_toInt (by omega)] at this
    omega
  · have h := (pw_lt o.2.2 hi hj).mpr (by omega)
    unfold LTk at h
    dsimp only at h
    rw [hm, hk, nI_toInt (by omega), nI_toInt (by omega)] at h
    omega
/-- hours of a week, up to a place -/
theorem wkd_ls (hn : N 2 ≤ 40) (ir : Irg N Z) {w : Nat} {ls : List Nat} (o : OrdL N Z w ls) {q s : Nat} (hq : ls[q]? = some s) : ∀ i, i ≤ q → ∀ a, wkd Z w (Z.1 2 s 4 / 168) i a = ((ls.take i).filter (fun t => decide (Z.1 2 t 4 / 168 = Z.1 2 s 4 / 168))).foldl (fun z t => z + (Z.1 2 t 5 - Z.1 2 t 4)) a := by
  have hl := o.len hn
  have hq9 : q < ls.length := (List.getElem?_eq_some_iff.mp hq).1
  intro i
  induction i with
  | zero => intro _ a; rfl
  | succ i ih =>
    intro hi a
    have hlt : i < ls.length := by omega
    have hg : ls[i]? = some ls[i] := List.getElem?_eq_getElem hlt
    have e : ls.take (i + 1) = ls.take i ++ [ls[i]] := by rw [List.take_succ_eq_append_getElem hlt]
    have ez : Z.2 14 w i = some ls[i] := by rw [o.1 i (by omega), hg]
    have ew : wkd Z w (Z.1 2 s 4 / 168) (i + 1) a = if Z.1 2 ls[i] 4 / 168 = Z.1 2 s 4 / 168 then wkd Z w (Z.1 2 s 4 / 168) i (a + (Z.1 2 ls[i] 5 - Z.1 2 ls[i] 4)) else a := by
      show (match Z.2 14 w i with
        | none => a
        | some t => _) = _
      rw [ez]
    rw [ew, e, List.filter_append]
    by_cases hw : Z.1 2 ls[i] 4 / 168 = Z.1 2 s 4 / 168
    · rw [if_pos hw, ih (by omega), foldl_sh]
      simp [hw]
    · rw [if_neg hw]
      have hnil : (ls.take i).filter (fun t => decide (Z.1 2 t 4 / 168 = Z.1 2 s 4 / 168)) = [] := by
        rw [List.filter_eq_nil_iff]
        intro t ht h9
        obtain ⟨j, hj⟩ := List.mem_iff_getElem?.mp ht
        have hji : j < i := by
          have := (List.getElem?_eq_some_iff.mp hj).1
          rw [List.length_take] at this
          omega
        rw [List.getElem?_take_of_lt hji] at hj
        obtain ⟨m1, a1, a2⟩ := ir t ((o.2.1 t).mp (List.mem_of_getElem? hj)).1
        obtain ⟨m2, b1, b2⟩ := ir ls[i] ((o.2.1 _).mp (List.mem_of_getElem? hg)).1
        obtain ⟨m3, c1, c2⟩ := ir s ((o.2.1 _).mp (List.mem_of_getElem? hq)).1
        have l1 := bg_le ir o hj hg (by omega) a2 b2 a1 b1
        have l2 := bg_le ir o hg hq (by omega) b2 c2 b1 c1
        simp only [decide_eq_true_eq] at h9
        rw [a2, c2, nI_d168 _ (by omega), nI_d168 _ (by omega), nJ_eq (by omega) (by omega)] at h9
        apply hw
        rw [b2, c2, nI_d168 _ (by omega), nI_d168 _ (by omega), nJ_eq (by omega) (by omega)]
        have l3 : m1 / 168 ≤ m2 / 168 := Nat.div_le_div_right l1
        have l4 : m2 / 168 ≤ m3 / 168 := Nat.div_le_div_right l2
        omega
      rw [hnil]
      simp [hw]
theorem wkh_ls (hn : N 2 ≤ 40) (rs : Rsh N Z S) (io : Iord N Z) (ir : Irg N Z) {w q s : Nat} {ls : List Nat} (o : OrdL N Z w ls) (hq : ls[q]? = some s) : wkd Z w (Z.1 2 s 4 / 168) (q + 1) 0 = wkh S (N 2) s := by
  have hl := o.len hn
  have hq9 : q < ls.length := (List.getElem?_eq_some_iff.mp hq).1
  have hs := ((o.2.1 s).mp (List.mem_of_getElem? hq)).1
  have ez : Z.2 14 w q = some s := by rw [o.1 q (by omega), hq]
  have ew : wkd Z w (Z.1 2 s 4 / 168) (q + 1) 0 = wkd Z w (Z.1 2 s 4 / 168) q (Z.1 2 s 5 - Z.1 2 s 4) := by
    show (match Z.2 14 w q with
      | none => (0 : Int32)
      | some t => _) = _
    rw [ez]
    show (if Z.1 2 s 4 / 168 = Z.1 2 s 4 / 168 then wkd Z w (Z.1 2 s 4 / 168) q (0 + (Z.1 2 s 5 - Z.1 2 s 4)) else 0) = _
    rw [if_pos rfl, Int32.zero_add]
  rw [ew, wkd_ls hn ir o hq q (Nat.le_refl _)]
  have hnd : ((ls.take q).filter (fun t => decide (Z.1 2 t 4 / 168 = Z.1 2 s 4 / 168))).Nodup := ((pw_nodup o.2.2).sublist (List.take_sublist q ls)).sublist List.filter_sublist
  have h := sum_ls (f := fun t => S.2 9 t - S.2 8 t) (P := fun t => ahd S t s && decide (S.2 8 t / 168 = S.2 8 s / 168)) (N 2) _ hnd (fun t => ?_) (S.2 9 s - S.2 8 s)
  · have e : wkh S (N 2) s = lp (fun t z => z + (if (ahd S t s && decide (S.2 8 t / 168 = S.2 8 s / 168)) = true then S.2 9 t - S.2 8 t else 0)) (S.2 9 s - S.2 8 s) (N 2) := rfl
    rw [e, h, (rs s hs).2.2.2.1, (rs s hs).2.2.2.2.1]
    have hcg : ∀ (l2 : List Nat), (∀ t, t ∈ l2 → t < N 2) → ∀ a, l2.foldl (fun z t => z + (Z.1 2 t 5 - Z.1 2 t 4)) a = l2.foldl (fun z t => z + (S.2 9 t - S.2 8 t)) a := by
      intro l2
      induction l2 with
      | nil => intro _ a; rfl
      | cons t l2 ih =>
        intro hm a
        have ht := hm t List.mem_cons_self
        show l2.foldl _ (a + (Z.1 2 t 5 - Z.1 2 t 4)) = l2.foldl _ (a + (S.2 9 t - S.2 8 t))
        rw [(rs t ht).2.2.2.1, (rs t ht).2.2.2.2.1]
        exact ih (fun x hx => hm x (List.mem_cons_of_mem _ hx)) _
    exact hcg _ (fun t ht => ((o.2.1 t).mp (List.mem_of_mem_take (List.mem_filter.mp ht).1)).1) _
  · rw [List.mem_filter]
    refine ⟨fun ⟨h1, h2⟩ => ?_, fun ⟨h1, h2⟩ => ?_⟩
    · have ht := ((o.2.1 t).mp (List.mem_of_mem_take h1)).1
      refine ⟨ht, ?_⟩
      rw [Bool.and_eq_true]
      exact ⟨(ahd_ls rs io o hq ht).mpr h1, by rw [(rs t ht).2.2.2.1, (rs s hs).2.2.2.1]; exact h2⟩
    · rw [Bool.and_eq_true] at h2
      exact ⟨(ahd_ls rs io o hq h1).mp h2.1, by have := h2.2; rw [(rs t h1).2.2.2.1, (rs s hs).2.2.2.1] at this; exact this⟩
end MB
