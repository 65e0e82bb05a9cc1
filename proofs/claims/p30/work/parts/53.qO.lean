section QO
variable {ini : Option Nat} {rt : Option FieldType} {fin : Option Value → Hp → Nat → Nat → Prop} {K0 K : Kt} {L : List (Option Value)} {h : Hp} {cs ss : Nat} {r st : List Value} {x y i : Int32} {a a2 k k2 : Nat} {ad : Nat → Nat → Nat} {o o2 : Option Nat}
theorem qX0_isFounded_11_or : ey FX0 ini rt fin K0 K (decode cX0_isFounded 11) 11 L (.ref a :: orf ad k o :: r) h cs ss = (both (orf ad k o = .ref a) (K 14 L r h cs ss) (K 32 L r h cs ss)) := by
  cases o with
  | none => exact (qX0_isFounded_11rn).trans (propext ⟨fun z => ⟨(fun w => nomatch w), fun _ => z⟩, fun z => z.2 (fun w => nomatch w)⟩)
  | some j =>
    refine (qX0_isFounded_11rr).trans ?_
    by_cases e : ad k j = a <;> simp [e, both, orf_s]
theorem qX0_isFounded_11_ro : ey FX0 ini rt fin K0 K (decode cX0_isFounded 11) 11 L (orf ad k o :: .ref a :: r) h cs ss = (both (orf ad k o = .ref a) (K 14 L r h cs ss) (K 32 L r h cs ss)) := by
  cases o with
  | none => exact (qX0_isFounded_11nr).trans (propext ⟨fun z => ⟨(fun w => nomatch w), fun _ => z⟩, fun z => z.2 (fun w => nomatch w)⟩)
  | some j =>
    refine (qX0_isFounded_11rr).trans ?_
    by_cases e : ad k j = a
    · simp [e, both, orf_s]
    · have e2 : ¬ a = ad k j := fun z => e z.symm
      simp [e, e2, both, orf_s]
theorem qX0_isFounded_11_oo : ey FX0 ini rt fin K0 K (decode cX0_isFounded 11) 11 L (orf ad k o :: orf ad k2 o2 :: r) h cs ss = (both (orf ad k2 o2 = orf ad k o) (K 14 L r h cs ss) (K 32 L r h cs ss)) := by
  cases o with
  | none =>
    cases o2 with
    | none => exact (qX0_isFounded_11nn).trans (propext ⟨fun z => ⟨fun _ => z, fun w => absurd rfl w⟩, fun z => z.1 rfl⟩)
    | some j => exact (qX0_isFounded_11nr).trans (propext ⟨fun z => ⟨(fun w => nomatch w), fun _ => z⟩, fun z => z.2 (fun w => nomatch w)⟩)
  | some j2 =>
    cases o2 with
    | none => exact (qX0_isFounded_11rn).trans (propext ⟨fun z => ⟨(fun w => nomatch w), fun _ => z⟩, fun z => z.2 (fun w => nomatch w)⟩)
    | some j =>
      refine (qX0_isFounded_11rr).trans ?_
      by_cases e : ad k2 j = ad k j2 <;> simp [e, both, orf_s]
theorem qX2_isBrokenBy_4_o : ey FX2 ini rt fin K0 K (decode cX2_isBrokenBy 4) 4 L (orf ad k o :: r) h cs ss = (2 < L.length ∧ K 5 (L.set 2 (some (orf ad k o))) r h cs ss) := by
  cases o with
  | none => exact qX2_isBrokenBy_4n
  | some j => exact qX2_isBrokenBy_4r
theorem qX2_isBrokenBy_13_o : ey FX2 ini rt fin K0 K (decode cX2_isBrokenBy 13) 13 L (orf ad k o :: r) h cs ss = (both (o = none) (K 35 L r h cs ss) (K 16 L r h cs ss)) := by
  cases o with
  | none => exact (qX2_isBrokenBy_13n).trans (propext ⟨fun z => ⟨fun _ => z, fun w => absurd rfl w⟩, fun z => z.1 rfl⟩)
  | some j => exact (qX2_isBrokenBy_13r).trans (propext ⟨fun z => ⟨(fun w => nomatch w), fun _ => z⟩, fun z => z.2 (fun w => nomatch w)⟩)
theorem qX4_holderNumber_4_o : ey FX4 ini rt fin K0 K (decode cX4_holderNumber 4) 4 L (orf ad k o :: r) h cs ss = (both (o = none) (K 7 L r h cs ss) (K 11 L r h cs ss)) := by
  cases o with
  | none => exact (qX4_holderNumber_4n).trans (propext ⟨fun z => ⟨fun _ => z, fun w => absurd rfl w⟩, fun z => z.1 rfl⟩)
  | some j => exact (qX4_holderNumber_4r).trans (propext ⟨fun z => ⟨(fun w => nomatch w), fun _ => z⟩, fun z => z.2 (fun w => nomatch w)⟩)
theorem qX4_claimOf_4_o : ey FX4 ini rt fin K0 K (decode cX4_claimOf 4) 4 L (orf ad k o :: r) h cs ss = (3 < L.length ∧ K 5 (L.set 3 (some (orf ad k o))) r h cs ss) := by
  cases o with
  | none => exact qX4_claimOf_4n
  | some j => exact qX4_claimOf_4r
theorem qX4_claimOf_6_o : ey FX4 ini rt fin K0 K (decode cX4_claimOf 6) 6 L (orf ad k o :: r) h cs ss = (both (o = none) (K 35 L r h cs ss) (K 9 L r h cs ss)) := by
  cases o with
  | none => exact (qX4_claimOf_6n).trans (propext ⟨fun z => ⟨fun _ => z, fun w => absurd rfl w⟩, fun z => z.1 rfl⟩)
  | some j => exact (qX4_claimOf_6r).trans (propext ⟨fun z => ⟨(fun w => nomatch w), fun _ => z⟩, fun z => z.2 (fun w => nomatch w)⟩)
theorem qX4_claimOf_14_or : ey FX4 ini rt fin K0 K (decode cX4_claimOf 14) 14 L (.ref a :: orf ad k o :: r) h cs ss = (both (orf ad k o = .ref a) (K 17 L r h cs ss) (K 27 L r h cs ss)) := by
  cases o with
  | none => exact (qX4_claimOf_14rn).trans (propext ⟨fun z => ⟨(fun w => nomatch w), fun _ => z⟩, fun z => z.2 (fun w => nomatch w)⟩)
  | some j =>
    refine (qX4_claimOf_14rr).trans ?_
    by_cases e : ad k j = a <;> simp [e, both, orf_s]
theorem qX4_claimOf_14_ro : ey FX4 ini rt fin K0 K (decode cX4_claimOf 14) 14 L (orf ad k o :: .ref a :: r) h cs ss = (both (orf ad k o = .ref a) (K 17 L r h cs ss) (K 27 L r h cs ss)) := by
  cases o with
  | none => exact (qX4_claimOf_14nr).trans (propext ⟨fun z => ⟨(fun w => nomatch w), fun _ => z⟩, fun z => z.2 (fun w => nomatch w)⟩)
  | some j =>
    refine (qX4_claimOf_14rr).trans ?_
    by_cases e : ad k j = a
    · simp [e, both, orf_s]
    · have e2 : ¬ a = ad k j := fun z => e z.symm
      simp [e, e2, both, orf_s]
theorem qX4_claimOf_14_oo : ey FX4 ini rt fin K0 K (decode cX4_claimOf 14) 14 L (orf ad k o :: orf ad k2 o2 :: r) h cs ss = (both (orf ad k2 o2 = orf ad k o) (K 17 L r h cs ss) (K 27 L r h cs ss)) := by
  cases o with
  | none =>
    cases o2 with
    | none => exact (qX4_claimOf_14nn).trans (propext ⟨fun z => ⟨fun _ => z, fun w => absurd rfl w⟩, fun z => z.1 rfl⟩)
    | some j => exact (qX4_claimOf_14nr).trans (propext ⟨fun z => ⟨(fun w => nomatch w), fun _ => z⟩, fun z => z.2 (fun w => nomatch w)⟩)
  | some j2 =>
    cases o2 with
    | none => exact (qX4_claimOf_14rn).trans (propext ⟨fun z => ⟨(fun w => nomatch w), fun _ => z⟩, fun z => z.2 (fun w => nomatch w)⟩)
    | some j =>
      refine (qX4_claimOf_14rr).trans ?_
      by_cases e : ad k2 j = ad k j2 <;> simp [e, both, orf_s]
theorem qX4_claimOf_22_or : ey FX4 ini rt fin K0 K (decode cX4_claimOf 22) 22 L (.ref a :: orf ad k o :: r) h cs ss = (both (orf ad k o = .ref a) (K 25 L r h cs ss) (K 27 L r h cs ss)) := by
  cases o with
  | none => exact (qX4_claimOf_22rn).trans (propext ⟨fun z => ⟨(fun w => nomatch w), fun _ => z⟩, fun z => z.2 (fun w => nomatch w)⟩)
  | some j =>
    refine (qX4_claimOf_22rr).trans ?_
    by_cases e : ad k j = a <;> simp [e, both, orf_s]
theorem qX4_claimOf_22_ro : ey FX4 ini rt fin K0 K (decode cX4_claimOf 22) 22 L (orf ad k o :: .ref a :: r) h cs ss = (both (orf ad k o = .ref a) (K 25 L r h cs ss) (K 27 L r h cs ss)) := by
  cases o with
  | none => exact (qX4_claimOf_22nr).trans (propext ⟨fun z => ⟨(fun w => nomatch w), fun _ => z⟩, fun z => z.2 (fun w => nomatch w)⟩)
  | some j =>
    refine (qX4_claimOf_22rr).trans ?_
    by_cases e : ad k j = a
    · simp [e, both, orf_s]
    · have e2 : ¬ a = ad k j := fun z => e z.symm
      simp [e, e2, both, orf_s]
theorem qX4_claimOf_22_oo : ey FX4 ini rt fin K0 K (decode cX4_claimOf 22) 22 L (orf ad k o :: orf ad k2 o2 :: r) h cs ss = (both (orf ad k2 o2 = orf ad k o) (K 25 L r h cs ss) (K 27 L r h cs ss)) := by
  cases o with
  | none =>
    cases o2 with
    | none => exact (qX4_claimOf_22nn).trans (propext ⟨fun z => ⟨fun _ => z, fun w => absurd rfl w⟩, fun z => z.1 rfl⟩)
    | some j => exact (qX4_claimOf_22nr).trans (propext ⟨fun z => ⟨(fun w => nomatch w), fun _ => z⟩, fun z => z.2 (fun w => nomatch w)⟩)
  | some j2 =>
    cases o2 with
    | none => exact (qX4_claimOf_22rn).trans (propext ⟨fun z => ⟨(fun w => nomatch w), fun _ => z⟩, fun z => z.2 (fun w => nomatch w)⟩)
    | some j =>
      refine (qX4_claimOf_22rr).trans ?_
      by_cases e : ad k2 j = ad k j2 <;> simp [e, both, orf_s]
theorem qX4_claimOf_26_o : ey FX4 ini rt fin K0 K (decode cX4_claimOf 26) 26 L ([orf ad k o]) h cs ss = (isR rt ∧ fin (some (orf ad k o)) h cs ss) := by
  cases o with
  | none => exact qX4_claimOf_26n
  | some j => exact qX4_claimOf_26r
theorem qX4_claimOf_31_o : ey FX4 ini rt fin K0 K (decode cX4_claimOf 31) 31 L (orf ad k o :: r) h cs ss = (3 < L.length ∧ K 32 (L.set 3 (some (orf ad k o))) r h cs ss) := by
  cases o with
  | none => exact qX4_claimOf_31n
  | some j => exact qX4_claimOf_31r
theorem qX4_claimOf_36_o : ey FX4 ini rt fin K0 K (decode cX4_claimOf 36) 36 L ([orf ad k o]) h cs ss = (isR rt ∧ fin (some (orf ad k o)) h cs ss) := by
  cases o with
  | none => exact qX4_claimOf_36n
  | some j => exact qX4_claimOf_36r
theorem qX5_add_1_o : ey FX5 ini rt fin K0 K (decode cX5_add 1) 1 L (orf ad k o :: r) h cs ss = (2 < L.length ∧ K 2 (L.set 2 (some (orf ad k o))) r h cs ss) := by
  cases o with
  | none => exact qX5_add_1n
  | some j => exact qX5_add_1r
theorem qX5_add_14_o : ey FX5 ini rt fin K0 K (decode cX5_add 14) 14 L (orf ad k o :: r) h cs ss = (both (o = none) (K 55 L r h cs ss) (K 17 L r h cs ss)) := by
  cases o with
  | none => exact (qX5_add_14n).trans (propext ⟨fun z => ⟨fun _ => z, fun w => absurd rfl w⟩, fun z => z.1 rfl⟩)
  | some j => exact (qX5_add_14r).trans (propext ⟨fun z => ⟨(fun w => nomatch w), fun _ => z⟩, fun z => z.2 (fun w => nomatch w)⟩)
theorem qX5_add_23_o : ey FX5 ini rt fin K0 K (decode cX5_add 23) 23 L (orf ad k o :: r) h cs ss = (4 < L.length ∧ K 25 (L.set 4 (some (orf ad k o))) r h cs ss) := by
  cases o with
  | none => exact qX5_add_23n
  | some j => exact qX5_add_23r
theorem qX5_add_27_o : ey FX5 ini rt fin K0 K (decode cX5_add 27) 27 L (orf ad k o :: r) h cs ss = (both (o = none) (K 39 L r h cs ss) (K 30 L r h cs ss)) := by
  cases o with
  | none => exact (qX5_add_27n).trans (propext ⟨fun z => ⟨fun _ => z, fun w => absurd rfl w⟩, fun z => z.1 rfl⟩)
  | some j => exact (qX5_add_27r).trans (propext ⟨fun z => ⟨(fun w => nomatch w), fun _ => z⟩, fun z => z.2 (fun w => nomatch w)⟩)
theorem qX5_add_45_o : ey FX5 ini rt fin K0 K (decode cX5_add 45) 45 L (orf ad k o :: .int i :: .ref a :: r) h cs ss = (isA (h.1 a) (fun t m => 4 ≤ t ∧ vp_in i m ∧ ∀ x, orf ad k o = .ref x → h.1 x = some (.inl (vec t))) ∧ K 46 L r (h.1, hup h.2 a i.toNatClampNeg (orf ad k o)) cs ss) := by
  cases o with
  | none =>
    refine (qX5_add_45n).trans ?_
    congr 2
    funext t m
    exact propext ⟨fun z => ⟨z.1, z.2, fun x w => nomatch w⟩, fun z => ⟨z.1, z.2.1⟩⟩
  | some j =>
    refine (qX5_add_45r).trans ?_
    congr 2
    funext t m
    exact propext ⟨fun z => ⟨z.1, z.2.2, fun x w => by cases w; exact z.2.1⟩, fun z => ⟨z.1, z.2.2 _ rfl, z.2.1⟩⟩
theorem qX5_add_48_o : ey FX5 ini rt fin K0 K (decode cX5_add 48) 48 L (orf ad k o :: r) h cs ss = (2 < L.length ∧ K 49 (L.set 2 (some (orf ad k o))) r h cs ss) := by
  cases o with
  | none => exact qX5_add_48n
  | some j => exact qX5_add_48r
theorem qX5_remove_24_or : ey FX5 ini rt fin K0 K (decode cX5_remove 24) 24 L (.ref a :: orf ad k o :: r) h cs ss = (both (orf ad k o = .ref a) (K 27 L r h cs ss) (K 31 L r h cs ss)) := by
  cases o with
  | none => exact (qX5_remove_24rn).trans (propext ⟨fun z => ⟨(fun w => nomatch w), fun _ => z⟩, fun z => z.2 (fun w => nomatch w)⟩)
  | some j =>
    refine (qX5_remove_24rr).trans ?_
    by_cases e : ad k j = a <;> simp [e, both, orf_s]
theorem qX5_remove_24_ro : ey FX5 ini rt fin K0 K (decode cX5_remove 24) 24 L (orf ad k o :: .ref a :: r) h cs ss = (both (orf ad k o = .ref a) (K 27 L r h cs ss) (K 31 L r h cs ss)) := by
  cases o with
  | none => exact (qX5_remove_24nr).trans (propext ⟨fun z => ⟨(fun w => nomatch w), fun _ => z⟩, fun z => z.2 (fun w => nomatch w)⟩)
  | some j =>
    refine (qX5_remove_24rr).trans ?_
    by_cases e : ad k j = a
    · simp [e, both, orf_s]
    · have e2 : ¬ a = ad k j := fun z => e z.symm
      simp [e, e2, both, orf_s]
theorem qX5_remove_24_oo : ey FX5 ini rt fin K0 K (decode cX5_remove 24) 24 L (orf ad k o :: orf ad k2 o2 :: r) h cs ss = (both (orf ad k2 o2 = orf ad k o) (K 27 L r h cs ss) (K 31 L r h cs ss)) := by
  cases o with
  | none =>
    cases o2 with
    | none => exact (qX5_remove_24nn).trans (propext ⟨fun z => ⟨fun _ => z, fun w => absurd rfl w⟩, fun z => z.1 rfl⟩)
    | some j => exact (qX5_remove_24nr).trans (propext ⟨fun z => ⟨(fun w => nomatch w), fun _ => z⟩, fun z => z.2 (fun w => nomatch w)⟩)
  | some j2 =>
    cases o2 with
    | none => exact (qX5_remove_24rn).trans (propext ⟨fun z => ⟨(fun w => nomatch w), fun _ => z⟩, fun z => z.2 (fun w => nomatch w)⟩)
    | some j =>
      refine (qX5_remove_24rr).trans ?_
      by_cases e : ad k2 j = ad k j2 <;> simp [e, both, orf_s]
theorem qX5_remove_49_o : ey FX5 ini rt fin K0 K (decode cX5_remove 49) 49 L (orf ad k o :: .int i :: .ref a :: r) h cs ss = (isA (h.1 a) (fun t m => 4 ≤ t ∧ vp_in i m ∧ ∀ x, orf ad k o = .ref x → h.1 x = some (.inl (vec t))) ∧ K 50 L r (h.1, hup h.2 a i.toNatClampNeg (orf ad k o)) cs ss) := by
  cases o with
  | none =>
    refine (qX5_remove_49n).trans ?_
    congr 2
    funext t m
    exact propext ⟨fun z => ⟨z.1, z.2, fun x w => nomatch w⟩, fun z => ⟨z.1, z.2.1⟩⟩
  | some j =>
    refine (qX5_remove_49r).trans ?_
    congr 2
    funext t m
    exact propext ⟨fun z => ⟨z.1, z.2.2, fun x w => by cases w; exact z.2.1⟩, fun z => ⟨z.1, z.2.2 _ rfl, z.2.1⟩⟩
theorem qX5_shiftAt_23_o : ey FX5 ini rt fin K0 K (decode cX5_shiftAt 23) 23 L ([orf ad k o]) h cs ss = (isR rt ∧ fin (some (orf ad k o)) h cs ss) := by
  cases o with
  | none => exact qX5_shiftAt_23n
  | some j => exact qX5_shiftAt_23r
theorem qX5_placeOf_18_or : ey FX5 ini rt fin K0 K (decode cX5_placeOf 18) 18 L (.ref a :: orf ad k o :: r) h cs ss = (both (orf ad k o = .ref a) (K 21 L r h cs ss) (K 23 L r h cs ss)) := by
  cases o with
  | none => exact (qX5_placeOf_18rn).trans (propext ⟨fun z => ⟨(fun w => nomatch w), fun _ => z⟩, fun z => z.2 (fun w => nomatch w)⟩)
  | some j =>
    refine (qX5_placeOf_18rr).trans ?_
    by_cases e : ad k j = a <;> simp [e, both, orf_s]
theorem qX5_placeOf_18_ro : ey FX5 ini rt fin K0 K (decode cX5_placeOf 18) 18 L (orf ad k o :: .ref a :: r) h cs ss = (both (orf ad k o = .ref a) (K 21 L r h cs ss) (K 23 L r h cs ss)) := by
  cases o with
  | none => exact (qX5_placeOf_18nr).trans (propext ⟨fun z => ⟨(fun w => nomatch w), fun _ => z⟩, fun z => z.2 (fun w => nomatch w)⟩)
  | some j =>
    refine (qX5_placeOf_18rr).trans ?_
    by_cases e : ad k j = a
    · simp [e, both, orf_s]
    · have e2 : ¬ a = ad k j := fun z => e z.symm
      simp [e, e2, both, orf_s]
theorem qX5_placeOf_18_oo : ey FX5 ini rt fin K0 K (decode cX5_placeOf 18) 18 L (orf ad k o :: orf ad k2 o2 :: r) h cs ss = (both (orf ad k2 o2 = orf ad k o) (K 21 L r h cs ss) (K 23 L r h cs ss)) := by
  cases o with
  | none =>
    cases o2 with
    | none => exact (qX5_placeOf_18nn).trans (propext ⟨fun z => ⟨fun _ => z, fun w => absurd rfl w⟩, fun z => z.1 rfl⟩)
    | some j => exact (qX5_placeOf_18nr).trans (propext ⟨fun z => ⟨(fun w => nomatch w), fun _ => z⟩, fun z => z.2 (fun w => nomatch w)⟩)
  | some j2 =>
    cases o2 with
    | none => exact (qX5_placeOf_18rn).trans (propext ⟨fun z => ⟨(fun w => nomatch w), fun _ => z⟩, fun z => z.2 (fun w => nomatch w)⟩)
    | some j =>
      refine (qX5_placeOf_18rr).trans ?_
      by_cases e : ad k2 j = ad k j2 <;> simp [e, both, orf_s]
theorem qX5_canTake_20_o : ey FX5 ini rt fin K0 K (decode cX5_canTake 20) 20 L (orf ad k o :: r) h cs ss = (3 < L.length ∧ K 21 (L.set 3 (some (orf ad k o))) r h cs ss) := by
  cases o with
  | none => exact qX5_canTake_20n
  | some j => exact qX5_canTake_20r
theorem qX5_canTake_39_o : ey FX5 ini rt fin K0 K (decode cX5_canTake 39) 39 L (orf ad k o :: r) h cs ss = (6 < L.length ∧ K 41 (L.set 6 (some (orf ad k o))) r h cs ss) := by
  cases o with
  | none => exact qX5_canTake_39n
  | some j => exact qX5_canTake_39r
theorem qX5_canTake_43_o : ey FX5 ini rt fin K0 K (decode cX5_canTake 43) 43 L (orf ad k o :: r) h cs ss = (both (o = none) (K 69 L r h cs ss) (K 46 L r h cs ss)) := by
  cases o with
  | none => exact (qX5_canTake_43n).trans (propext ⟨fun z => ⟨fun _ => z, fun w => absurd rfl w⟩, fun z => z.1 rfl⟩)
  | some j => exact (qX5_canTake_43r).trans (propext ⟨fun z => ⟨(fun w => nomatch w), fun _ => z⟩, fun z => z.2 (fun w => nomatch w)⟩)
theorem qX5_canTake_49_or : ey FX5 ini rt fin K0 K (decode cX5_canTake 49) 49 L (.ref a :: orf ad k o :: r) h cs ss = (both (orf ad k o = .ref a) (K 69 L r h cs ss) (K 52 L r h cs ss)) := by
  cases o with
  | none => exact (qX5_canTake_49rn).trans (propext ⟨fun z => ⟨(fun w => nomatch w), fun _ => z⟩, fun z => z.2 (fun w => nomatch w)⟩)
  | some j =>
    refine (qX5_canTake_49rr).trans ?_
    by_cases e : ad k j = a <;> simp [e, both, orf_s]
theorem qX5_canTake_49_ro : ey FX5 ini rt fin K0 K (decode cX5_canTake 49) 49 L (orf ad k o :: .ref a :: r) h cs ss = (both (orf ad k o = .ref a) (K 69 L r h cs ss) (K 52 L r h cs ss)) := by
  cases o with
  | none => exact (qX5_canTake_49nr).trans (propext ⟨fun z => ⟨(fun w => nomatch w), fun _ => z⟩, fun z => z.2 (fun w => nomatch w)⟩)
  | some j =>
    refine (qX5_canTake_49rr).trans ?_
    by_cases e : ad k j = a
    · simp [e, both, orf_s]
    · have e2 : ¬ a = ad k j := fun z => e z.symm
      simp [e, e2, both, orf_s]
theorem qX5_canTake_49_oo : ey FX5 ini rt fin K0 K (decode cX5_canTake 49) 49 L (orf ad k o :: orf ad k2 o2 :: r) h cs ss = (both (orf ad k2 o2 = orf ad k o) (K 69 L r h cs ss) (K 52 L r h cs ss)) := by
  cases o with
  | none =>
    cases o2 with
    | none => exact (qX5_canTake_49nn).trans (propext ⟨fun z => ⟨fun _ => z, fun w => absurd rfl w⟩, fun z => z.1 rfl⟩)
    | some j => exact (qX5_canTake_49nr).trans (propext ⟨fun z => ⟨(fun w => nomatch w), fun _ => z⟩, fun z => z.2 (fun w => nomatch w)⟩)
  | some j2 =>
    cases o2 with
    | none => exact (qX5_canTake_49rn).trans (propext ⟨fun z => ⟨(fun w => nomatch w), fun _ => z⟩, fun z => z.2 (fun w => nomatch w)⟩)
    | some j =>
      refine (qX5_canTake_49rr).trans ?_
      by_cases e : ad k2 j = ad k j2 <;> simp [e, both, orf_s]
theorem qX5_canTake_55_or : ey FX5 ini rt fin K0 K (decode cX5_canTake 55) 55 L (.ref a :: orf ad k o :: r) h cs ss = (both (orf ad k o = .ref a) (K 69 L r h cs ss) (K 58 L r h cs ss)) := by
  cases o with
  | none => exact (qX5_canTake_55rn).trans (propext ⟨fun z => ⟨(fun w => nomatch w), fun _ => z⟩, fun z => z.2 (fun w => nomatch w)⟩)
  | some j =>
    refine (qX5_canTake_55rr).trans ?_
    by_cases e : ad k j = a <;> simp [e, both, orf_s]
theorem qX5_canTake_55_ro : ey FX5 ini rt fin K0 K (decode cX5_canTake 55) 55 L (orf ad k o :: .ref a :: r) h cs ss = (both (orf ad k o = .ref a) (K 69 L r h cs ss) (K 58 L r h cs ss)) := by
  cases o with
  | none => exact (qX5_canTake_55nr).trans (propext ⟨fun z => ⟨(fun w => nomatch w), fun _ => z⟩, fun z => z.2 (fun w => nomatch w)⟩)
  | some j =>
    refine (qX5_canTake_55rr).trans ?_
    by_cases e : ad k j = a
    · simp [e, both, orf_s]
    · have e2 : ¬ a = ad k j := fun z => e z.symm
      simp [e, e2, both, orf_s]
theorem qX5_canTake_55_oo : ey FX5 ini rt fin K0 K (decode cX5_canTake 55) 55 L (orf ad k o :: orf ad k2 o2 :: r) h cs ss = (both (orf ad k2 o2 = orf ad k o) (K 69 L r h cs ss) (K 58 L r h cs ss)) := by
  cases o with
  | none =>
    cases o2 with
    | none => exact (qX5_canTake_55nn).trans (propext ⟨fun z => ⟨fun _ => z, fun w => absurd rfl w⟩, fun z => z.1 rfl⟩)
    | some j => exact (qX5_canTake_55nr).trans (propext ⟨fun z => ⟨(fun w => nomatch w), fun _ => z⟩, fun z => z.2 (fun w => nomatch w)⟩)
  | some j2 =>
    cases o2 with
    | none => exact (qX5_canTake_55rn).trans (propext ⟨fun z => ⟨(fun w => nomatch w), fun _ => z⟩, fun z => z.2 (fun w => nomatch w)⟩)
    | some j =>
      refine (qX5_canTake_55rr).trans ?_
      by_cases e : ad k2 j = ad k j2 <;> simp [e, both, orf_s]
theorem qX5_restAhead_11_o : ey FX5 ini rt fin K0 K (decode cX5_restAhead 11) 11 L (orf ad k o :: r) h cs ss = (2 < L.length ∧ K 12 (L.set 2 (some (orf ad k o))) r h cs ss) := by
  cases o with
  | none => exact qX5_restAhead_11n
  | some j => exact qX5_restAhead_11r
theorem qX5_restAhead_13_o : ey FX5 ini rt fin K0 K (decode cX5_restAhead 13) 13 L (orf ad k o :: r) h cs ss = (both (o = none) (K 16 L r h cs ss) (K 22 L r h cs ss)) := by
  cases o with
  | none => exact (qX5_restAhead_13n).trans (propext ⟨fun z => ⟨fun _ => z, fun w => absurd rfl w⟩, fun z => z.1 rfl⟩)
  | some j => exact (qX5_restAhead_13r).trans (propext ⟨fun z => ⟨(fun w => nomatch w), fun _ => z⟩, fun z => z.2 (fun w => nomatch w)⟩)
theorem qX5_weekHours_17_o : ey FX5 ini rt fin K0 K (decode cX5_weekHours 17) 17 L (orf ad k o :: r) h cs ss = (4 < L.length ∧ K 19 (L.set 4 (some (orf ad k o))) r h cs ss) := by
  cases o with
  | none => exact qX5_weekHours_17n
  | some j => exact qX5_weekHours_17r
theorem qX5_weekHours_21_o : ey FX5 ini rt fin K0 K (decode cX5_weekHours 21) 21 L (orf ad k o :: r) h cs ss = (both (o = none) (K 53 L r h cs ss) (K 24 L r h cs ss)) := by
  cases o with
  | none => exact (qX5_weekHours_21n).trans (propext ⟨fun z => ⟨fun _ => z, fun w => absurd rfl w⟩, fun z => z.1 rfl⟩)
  | some j => exact (qX5_weekHours_21r).trans (propext ⟨fun z => ⟨(fun w => nomatch w), fun _ => z⟩, fun z => z.2 (fun w => nomatch w)⟩)
theorem qX5_daysAhead_22_o : ey FX5 ini rt fin K0 K (decode cX5_daysAhead 22) 22 L (orf ad k o :: r) h cs ss = (4 < L.length ∧ K 24 (L.set 4 (some (orf ad k o))) r h cs ss) := by
  cases o with
  | none => exact qX5_daysAhead_22n
  | some j => exact qX5_daysAhead_22r
theorem qX5_daysAhead_26_o : ey FX5 ini rt fin K0 K (decode cX5_daysAhead 26) 26 L (orf ad k o :: r) h cs ss = (both (o = none) (K 55 L r h cs ss) (K 29 L r h cs ss)) := by
  cases o with
  | none => exact (qX5_daysAhead_26n).trans (propext ⟨fun z => ⟨fun _ => z, fun w => absurd rfl w⟩, fun z => z.1 rfl⟩)
  | some j => exact (qX5_daysAhead_26r).trans (propext ⟨fun z => ⟨(fun w => nomatch w), fun _ => z⟩, fun z => z.2 (fun w => nomatch w)⟩)
theorem qX5_hoursEndedBy_6_o : ey FX5 ini rt fin K0 K (decode cX5_hoursEndedBy 6) 6 L (orf ad k o :: r) h cs ss = (3 < L.length ∧ K 7 (L.set 3 (some (orf ad k o))) r h cs ss) := by
  cases o with
  | none => exact qX5_hoursEndedBy_6n
  | some j => exact qX5_hoursEndedBy_6r
theorem qX5_hoursEndedBy_25_o : ey FX5 ini rt fin K0 K (decode cX5_hoursEndedBy 25) 25 L (orf ad k o :: r) h cs ss = (6 < L.length ∧ K 27 (L.set 6 (some (orf ad k o))) r h cs ss) := by
  cases o with
  | none => exact qX5_hoursEndedBy_25n
  | some j => exact qX5_hoursEndedBy_25r
theorem qX5_hoursEndedBy_29_o : ey FX5 ini rt fin K0 K (decode cX5_hoursEndedBy 29) 29 L (orf ad k o :: r) h cs ss = (both (o = none) (K 49 L r h cs ss) (K 32 L r h cs ss)) := by
  cases o with
  | none => exact (qX5_hoursEndedBy_29n).trans (propext ⟨fun z => ⟨fun _ => z, fun w => absurd rfl w⟩, fun z => z.1 rfl⟩)
  | some j => exact (qX5_hoursEndedBy_29r).trans (propext ⟨fun z => ⟨(fun w => nomatch w), fun _ => z⟩, fun z => z.2 (fun w => nomatch w)⟩)
theorem qX6_init_94_o : ey FX6 ini rt fin K0 K (decode cX6_init 94) 94 L (orf ad k o :: .int i :: .ref a :: r) h cs ss = (isA (h.1 a) (fun t m => 4 ≤ t ∧ vp_in i m ∧ ∀ x, orf ad k o = .ref x → h.1 x = some (.inl (vec t))) ∧ K 95 L r (h.1, hup h.2 a i.toNatClampNeg (orf ad k o)) cs ss) := by
  cases o with
  | none =>
    refine (qX6_init_94n).trans ?_
    congr 2
    funext t m
    exact propext ⟨fun z => ⟨z.1, z.2, fun x w => nomatch w⟩, fun z => ⟨z.1, z.2.1⟩⟩
  | some j =>
    refine (qX6_init_94r).trans ?_
    congr 2
    funext t m
    exact propext ⟨fun z => ⟨z.1, z.2.2, fun x w => by cases w; exact z.2.1⟩, fun z => ⟨z.1, z.2.2 _ rfl, z.2.1⟩⟩
theorem qX6_worker_5_o : ey FX6 ini rt fin K0 K (decode cX6_worker 5) 5 L (orf ad k o :: r) h cs ss = (4 < L.length ∧ K 7 (L.set 4 (some (orf ad k o))) r h cs ss) := by
  cases o with
  | none => exact qX6_worker_5n
  | some j => exact qX6_worker_5r
theorem qX6_shift_87_o : ey FX6 ini rt fin K0 K (decode cX6_shift 87) 87 L (orf ad k o :: .int i :: .ref a :: r) h cs ss = (isA (h.1 a) (fun t m => 4 ≤ t ∧ vp_in i m ∧ ∀ x, orf ad k o = .ref x → h.1 x = some (.inl (vec t))) ∧ K 88 L r (h.1, hup h.2 a i.toNatClampNeg (orf ad k o)) cs ss) := by
  cases o with
  | none =>
    refine (qX6_shift_87n).trans ?_
    congr 2
    funext t m
    exact propext ⟨fun z => ⟨z.1, z.2, fun x w => nomatch w⟩, fun z => ⟨z.1, z.2.1⟩⟩
  | some j =>
    refine (qX6_shift_87r).trans ?_
    congr 2
    funext t m
    exact propext ⟨fun z => ⟨z.1, z.2.2, fun x w => by cases w; exact z.2.1⟩, fun z => ⟨z.1, z.2.2 _ rfl, z.2.1⟩⟩
theorem qX6_hold_5_o : ey FX6 ini rt fin K0 K (decode cX6_hold 5) 5 L (orf ad k o :: r) h cs ss = (3 < L.length ∧ K 6 (L.set 3 (some (orf ad k o))) r h cs ss) := by
  cases o with
  | none => exact qX6_hold_5n
  | some j => exact qX6_hold_5r
theorem qX6_hold_20_o : ey FX6 ini rt fin K0 K (decode cX6_hold 20) 20 L (orf ad k o :: r) h cs ss = (4 < L.length ∧ K 22 (L.set 4 (some (orf ad k o))) r h cs ss) := by
  cases o with
  | none => exact qX6_hold_20n
  | some j => exact qX6_hold_20r
theorem qX6_hold_24_o : ey FX6 ini rt fin K0 K (decode cX6_hold 24) 24 L (orf ad k o :: r) h cs ss = (both (o = none) (K 47 L r h cs ss) (K 27 L r h cs ss)) := by
  cases o with
  | none => exact (qX6_hold_24n).trans (propext ⟨fun z => ⟨fun _ => z, fun w => absurd rfl w⟩, fun z => z.1 rfl⟩)
  | some j => exact (qX6_hold_24r).trans (propext ⟨fun z => ⟨(fun w => nomatch w), fun _ => z⟩, fun z => z.2 (fun w => nomatch w)⟩)
theorem qX6_hold_59_or : ey FX6 ini rt fin K0 K (decode cX6_hold 59) 59 L (.ref a :: orf ad k o :: r) h cs ss = (both (orf ad k o = .ref a) (K 74 L r h cs ss) (K 62 L r h cs ss)) := by
  cases o with
  | none => exact (qX6_hold_59rn).trans (propext ⟨fun z => ⟨(fun w => nomatch w), fun _ => z⟩, fun z => z.2 (fun w => nomatch w)⟩)
  | some j =>
    refine (qX6_hold_59rr).trans ?_
    by_cases e : ad k j = a <;> simp [e, both, orf_s]
theorem qX6_hold_59_ro : ey FX6 ini rt fin K0 K (decode cX6_hold 59) 59 L (orf ad k o :: .ref a :: r) h cs ss = (both (orf ad k o = .ref a) (K 74 L r h cs ss) (K 62 L r h cs ss)) := by
  cases o with
  | none => exact (qX6_hold_59nr).trans (propext ⟨fun z => ⟨(fun w => nomatch w), fun _ => z⟩, fun z => z.2 (fun w => nomatch w)⟩)
  | some j =>
    refine (qX6_hold_59rr).trans ?_
    by_cases e : ad k j = a
    · simp [e, both, orf_s]
    · have e2 : ¬ a = ad k j := fun z => e z.symm
      simp [e, e2, both, orf_s]
theorem qX6_hold_59_oo : ey FX6 ini rt fin K0 K (decode cX6_hold 59) 59 L (orf ad k o :: orf ad k2 o2 :: r) h cs ss = (both (orf ad k2 o2 = orf ad k o) (K 74 L r h cs ss) (K 62 L r h cs ss)) := by
  cases o with
  | none =>
    cases o2 with
    | none => exact (qX6_hold_59nn).trans (propext ⟨fun z => ⟨fun _ => z, fun w => absurd rfl w⟩, fun z => z.1 rfl⟩)
    | some j => exact (qX6_hold_59nr).trans (propext ⟨fun z => ⟨(fun w => nomatch w), fun _ => z⟩, fun z => z.2 (fun w => nomatch w)⟩)
  | some j2 =>
    cases o2 with
    | none => exact (qX6_hold_59rn).trans (propext ⟨fun z => ⟨(fun w => nomatch w), fun _ => z⟩, fun z => z.2 (fun w => nomatch w)⟩)
    | some j =>
      refine (qX6_hold_59rr).trans ?_
      by_cases e : ad k2 j = ad k j2 <;> simp [e, both, orf_s]
theorem qX6_stamp_5_o : ey FX6 ini rt fin K0 K (decode cX6_stamp 5) 5 L (orf ad k o :: r) h cs ss = (4 < L.length ∧ K 7 (L.set 4 (some (orf ad k o))) r h cs ss) := by
  cases o with
  | none => exact qX6_stamp_5n
  | some j => exact qX6_stamp_5r
theorem qX6_stamp_55_o : ey FX6 ini rt fin K0 K (decode cX6_stamp 55) 55 L (orf ad k o :: r) h cs ss = (5 < L.length ∧ K 57 (L.set 5 (some (orf ad k o))) r h cs ss) := by
  cases o with
  | none => exact qX6_stamp_55n
  | some j => exact qX6_stamp_55r
theorem qX6_stamp_59_o : ey FX6 ini rt fin K0 K (decode cX6_stamp 59) 59 L (orf ad k o :: r) h cs ss = (both (o = none) (K 77 L r h cs ss) (K 62 L r h cs ss)) := by
  cases o with
  | none => exact (qX6_stamp_59n).trans (propext ⟨fun z => ⟨fun _ => z, fun w => absurd rfl w⟩, fun z => z.1 rfl⟩)
  | some j => exact (qX6_stamp_59r).trans (propext ⟨fun z => ⟨(fun w => nomatch w), fun _ => z⟩, fun z => z.2 (fun w => nomatch w)⟩)
theorem qX6_shiftOf_9_o : ey FX6 ini rt fin K0 K (decode cX6_shiftOf 9) 9 L (orf ad k o :: r) h cs ss = (3 < L.length ∧ K 10 (L.set 3 (some (orf ad k o))) r h cs ss) := by
  cases o with
  | none => exact qX6_shiftOf_9n
  | some j => exact qX6_shiftOf_9r
theorem qX6_shiftOf_11_o : ey FX6 ini rt fin K0 K (decode cX6_shiftOf 11) 11 L (orf ad k o :: r) h cs ss = (both (o = none) (K 14 L r h cs ss) (K 24 L r h cs ss)) := by
  cases o with
  | none => exact (qX6_shiftOf_11n).trans (propext ⟨fun z => ⟨fun _ => z, fun w => absurd rfl w⟩, fun z => z.1 rfl⟩)
  | some j => exact (qX6_shiftOf_11r).trans (propext ⟨fun z => ⟨(fun w => nomatch w), fun _ => z⟩, fun z => z.2 (fun w => nomatch w)⟩)
theorem qX6_rest_5_o : ey FX6 ini rt fin K0 K (decode cX6_rest 5) 5 L (orf ad k o :: r) h cs ss = (2 < L.length ∧ K 6 (L.set 2 (some (orf ad k o))) r h cs ss) := by
  cases o with
  | none => exact qX6_rest_5n
  | some j => exact qX6_rest_5r
theorem qX6_rest_10_o : ey FX6 ini rt fin K0 K (decode cX6_rest 10) 10 L (orf ad k o :: r) h cs ss = (both (o = none) (K 13 L r h cs ss) (K 19 L r h cs ss)) := by
  cases o with
  | none => exact (qX6_rest_10n).trans (propext ⟨fun z => ⟨fun _ => z, fun w => absurd rfl w⟩, fun z => z.1 rfl⟩)
  | some j => exact (qX6_rest_10r).trans (propext ⟨fun z => ⟨(fun w => nomatch w), fun _ => z⟩, fun z => z.2 (fun w => nomatch w)⟩)
theorem qX6_read_65_o : ey FX6 ini rt fin K0 K (decode cX6_read 65) 65 L (orf ad k o :: .int i :: .ref a :: r) h cs ss = (isA (h.1 a) (fun t m => 4 ≤ t ∧ vp_in i m ∧ ∀ x, orf ad k o = .ref x → h.1 x = some (.inl (vec t))) ∧ K 66 L r (h.1, hup h.2 a i.toNatClampNeg (orf ad k o)) cs ss) := by
  cases o with
  | none =>
    refine (qX6_read_65n).trans ?_
    congr 2
    funext t m
    exact propext ⟨fun z => ⟨z.1, z.2, fun x w => nomatch w⟩, fun z => ⟨z.1, z.2.1⟩⟩
  | some j =>
    refine (qX6_read_65r).trans ?_
    congr 2
    funext t m
    exact propext ⟨fun z => ⟨z.1, z.2.2, fun x w => by cases w; exact z.2.1⟩, fun z => ⟨z.1, z.2.2 _ rfl, z.2.1⟩⟩
theorem qX6_drop_5_o : ey FX6 ini rt fin K0 K (decode cX6_drop 5) 5 L (orf ad k o :: r) h cs ss = (2 < L.length ∧ K 6 (L.set 2 (some (orf ad k o))) r h cs ss) := by
  cases o with
  | none => exact qX6_drop_5n
  | some j => exact qX6_drop_5r
theorem qX6_breaches_5_o : ey FX6 ini rt fin K0 K (decode cX6_breaches 5) 5 L (orf ad k o :: r) h cs ss = (3 < L.length ∧ K 6 (L.set 3 (some (orf ad k o))) r h cs ss) := by
  cases o with
  | none => exact qX6_breaches_5n
  | some j => exact qX6_breaches_5r
theorem qX6_breaches_33_o : ey FX6 ini rt fin K0 K (decode cX6_breaches 33) 33 L (orf ad k o :: r) h cs ss = (5 < L.length ∧ K 35 (L.set 5 (some (orf ad k o))) r h cs ss) := by
  cases o with
  | none => exact qX6_breaches_33n
  | some j => exact qX6_breaches_33r
theorem qX6_breaches_55_o : ey FX6 ini rt fin K0 K (decode cX6_breaches 55) 55 L (orf ad k o :: r) h cs ss = (8 < L.length ∧ K 57 (L.set 8 (some (orf ad k o))) r h cs ss) := by
  cases o with
  | none => exact qX6_breaches_55n
  | some j => exact qX6_breaches_55r
theorem qX6_breaches_59_o : ey FX6 ini rt fin K0 K (decode cX6_breaches 59) 59 L (orf ad k o :: r) h cs ss = (both (o = none) (K 82 L r h cs ss) (K 62 L r h cs ss)) := by
  cases o with
  | none => exact (qX6_breaches_59n).trans (propext ⟨fun z => ⟨fun _ => z, fun w => absurd rfl w⟩, fun z => z.1 rfl⟩)
  | some j => exact (qX6_breaches_59r).trans (propext ⟨fun z => ⟨(fun w => nomatch w), fun _ => z⟩, fun z => z.2 (fun w => nomatch w)⟩)
theorem qX6_about_5_o : ey FX6 ini rt fin K0 K (decode cX6_about 5) 5 L (orf ad k o :: r) h cs ss = (2 < L.length ∧ K 6 (L.set 2 (some (orf ad k o))) r h cs ss) := by
  cases o with
  | none => exact qX6_about_5n
  | some j => exact qX6_about_5r
theorem qX6_pay_5_o : ey FX6 ini rt fin K0 K (decode cX6_pay 5) 5 L (orf ad k o :: r) h cs ss = (2 < L.length ∧ K 6 (L.set 2 (some (orf ad k o))) r h cs ss) := by
  cases o with
  | none => exact qX6_pay_5n
  | some j => exact qX6_pay_5r
theorem qX6_takeBack_5_o : ey FX6 ini rt fin K0 K (decode cX6_takeBack 5) 5 L (orf ad k o :: r) h cs ss = (2 < L.length ∧ K 6 (L.set 2 (some (orf ad k o))) r h cs ss) := by
  cases o with
  | none => exact qX6_takeBack_5n
  | some j => exact qX6_takeBack_5r
theorem qX6_wages_5_o : ey FX6 ini rt fin K0 K (decode cX6_wages 5) 5 L (orf ad k o :: r) h cs ss = (2 < L.length ∧ K 6 (L.set 2 (some (orf ad k o))) r h cs ss) := by
  cases o with
  | none => exact qX6_wages_5n
  | some j => exact qX6_wages_5r
theorem qX6_wages_24_o : ey FX6 ini rt fin K0 K (decode cX6_wages 24) 24 L (orf ad k o :: r) h cs ss = (4 < L.length ∧ K 26 (L.set 4 (some (orf ad k o))) r h cs ss) := by
  cases o with
  | none => exact qX6_wages_24n
  | some j => exact qX6_wages_24r
theorem qX6_wages_46_o : ey FX6 ini rt fin K0 K (decode cX6_wages 46) 46 L (orf ad k o :: r) h cs ss = (7 < L.length ∧ K 48 (L.set 7 (some (orf ad k o))) r h cs ss) := by
  cases o with
  | none => exact qX6_wages_46n
  | some j => exact qX6_wages_46r
theorem qX6_wages_50_o : ey FX6 ini rt fin K0 K (decode cX6_wages 50) 50 L (orf ad k o :: r) h cs ss = (both (o = none) (K 70 L r h cs ss) (K 53 L r h cs ss)) := by
  cases o with
  | none => exact (qX6_wages_50n).trans (propext ⟨fun z => ⟨fun _ => z, fun w => absurd rfl w⟩, fun z => z.1 rfl⟩)
  | some j => exact (qX6_wages_50r).trans (propext ⟨fun z => ⟨(fun w => nomatch w), fun _ => z⟩, fun z => z.2 (fun w => nomatch w)⟩)
theorem qX6_wages_59_or : ey FX6 ini rt fin K0 K (decode cX6_wages 59) 59 L (.ref a :: orf ad k o :: r) h cs ss = (both (orf ad k o = .ref a) (K 62 L r h cs ss) (K 70 L r h cs ss)) := by
  cases o with
  | none => exact (qX6_wages_59rn).trans (propext ⟨fun z => ⟨(fun w => nomatch w), fun _ => z⟩, fun z => z.2 (fun w => nomatch w)⟩)
  | some j =>
    refine (qX6_wages_59rr).trans ?_
    by_cases e : ad k j = a <;> simp [e, both, orf_s]
theorem qX6_wages_59_ro : ey FX6 ini rt fin K0 K (decode cX6_wages 59) 59 L (orf ad k o :: .ref a :: r) h cs ss = (both (orf ad k o = .ref a) (K 62 L r h cs ss) (K 70 L r h cs ss)) := by
  cases o with
  | none => exact (qX6_wages_59nr).trans (propext ⟨fun z => ⟨(fun w => nomatch w), fun _ => z⟩, fun z => z.2 (fun w => nomatch w)⟩)
  | some j =>
    refine (qX6_wages_59rr).trans ?_
    by_cases e : ad k j = a
    · simp [e, both, orf_s]
    · have e2 : ¬ a = ad k j := fun z => e z.symm
      simp [e, e2, both, orf_s]
theorem qX6_wages_59_oo : ey FX6 ini rt fin K0 K (decode cX6_wages 59) 59 L (orf ad k o :: orf ad k2 o2 :: r) h cs ss = (both (orf ad k2 o2 = orf ad k o) (K 62 L r h cs ss) (K 70 L r h cs ss)) := by
  cases o with
  | none =>
    cases o2 with
    | none => exact (qX6_wages_59nn).trans (propext ⟨fun z => ⟨fun _ => z, fun w => absurd rfl w⟩, fun z => z.1 rfl⟩)
    | some j => exact (qX6_wages_59nr).trans (propext ⟨fun z => ⟨(fun w => nomatch w), fun _ => z⟩, fun z => z.2 (fun w => nomatch w)⟩)
  | some j2 =>
    cases o2 with
    | none => exact (qX6_wages_59rn).trans (propext ⟨fun z => ⟨(fun w => nomatch w), fun _ => z⟩, fun z => z.2 (fun w => nomatch w)⟩)
    | some j =>
      refine (qX6_wages_59rr).trans ?_
      by_cases e : ad k2 j = ad k j2 <;> simp [e, both, orf_s]
theorem qX6_offer_5_o : ey FX6 ini rt fin K0 K (decode cX6_offer 5) 5 L (orf ad k o :: r) h cs ss = (3 < L.length ∧ K 6 (L.set 3 (some (orf ad k o))) r h cs ss) := by
  cases o with
  | none => exact qX6_offer_5n
  | some j => exact qX6_offer_5r
theorem qX6_offer_11_o : ey FX6 ini rt fin K0 K (decode cX6_offer 11) 11 L (orf ad k o :: r) h cs ss = (4 < L.length ∧ K 13 (L.set 4 (some (orf ad k o))) r h cs ss) := by
  cases o with
  | none => exact qX6_offer_11n
  | some j => exact qX6_offer_11r
theorem qX6_offer_17_o : ey FX6 ini rt fin K0 K (decode cX6_offer 17) 17 L (orf ad k o :: r) h cs ss = (5 < L.length ∧ K 19 (L.set 5 (some (orf ad k o))) r h cs ss) := by
  cases o with
  | none => exact qX6_offer_17n
  | some j => exact qX6_offer_17r
theorem qX6_offer_21_o : ey FX6 ini rt fin K0 K (decode cX6_offer 21) 21 L (orf ad k o :: r) h cs ss = (both (o = none) (K 59 L r h cs ss) (K 24 L r h cs ss)) := by
  cases o with
  | none => exact (qX6_offer_21n).trans (propext ⟨fun z => ⟨fun _ => z, fun w => absurd rfl w⟩, fun z => z.1 rfl⟩)
  | some j => exact (qX6_offer_21r).trans (propext ⟨fun z => ⟨(fun w => nomatch w), fun _ => z⟩, fun z => z.2 (fun w => nomatch w)⟩)
theorem qX6_offer_29_o : ey FX6 ini rt fin K0 K (decode cX6_offer 29) 29 L (orf ad k o :: r) h cs ss = (both (o = none) (K 59 L r h cs ss) (K 32 L r h cs ss)) := by
  cases o with
  | none => exact (qX6_offer_29n).trans (propext ⟨fun z => ⟨fun _ => z, fun w => absurd rfl w⟩, fun z => z.1 rfl⟩)
  | some j => exact (qX6_offer_29r).trans (propext ⟨fun z => ⟨(fun w => nomatch w), fun _ => z⟩, fun z => z.2 (fun w => nomatch w)⟩)
theorem qX6_offer_39_or : ey FX6 ini rt fin K0 K (decode cX6_offer 39) 39 L (.ref a :: orf ad k o :: r) h cs ss = (both (orf ad k o = .ref a) (K 59 L r h cs ss) (K 42 L r h cs ss)) := by
  cases o with
  | none => exact (qX6_offer_39rn).trans (propext ⟨fun z => ⟨(fun w => nomatch w), fun _ => z⟩, fun z => z.2 (fun w => nomatch w)⟩)
  | some j =>
    refine (qX6_offer_39rr).trans ?_
    by_cases e : ad k j = a <;> simp [e, both, orf_s]
theorem qX6_offer_39_ro : ey FX6 ini rt fin K0 K (decode cX6_offer 39) 39 L (orf ad k o :: .ref a :: r) h cs ss = (both (orf ad k o = .ref a) (K 59 L r h cs ss) (K 42 L r h cs ss)) := by
  cases o with
  | none => exact (qX6_offer_39nr).trans (propext ⟨fun z => ⟨(fun w => nomatch w), fun _ => z⟩, fun z => z.2 (fun w => nomatch w)⟩)
  | some j =>
    refine (qX6_offer_39rr).trans ?_
    by_cases e : ad k j = a
    · simp [e, both, orf_s]
    · have e2 : ¬ a = ad k j := fun z => e z.symm
      simp [e, e2, both, orf_s]
theorem qX6_offer_39_oo : ey FX6 ini rt fin K0 K (decode cX6_offer 39) 39 L (orf ad k o :: orf ad k2 o2 :: r) h cs ss = (both (orf ad k2 o2 = orf ad k o) (K 59 L r h cs ss) (K 42 L r h cs ss)) := by
  cases o with
  | none =>
    cases o2 with
    | none => exact (qX6_offer_39nn).trans (propext ⟨fun z => ⟨fun _ => z, fun w => absurd rfl w⟩, fun z => z.1 rfl⟩)
    | some j => exact (qX6_offer_39nr).trans (propext ⟨fun z => ⟨(fun w => nomatch w), fun _ => z⟩, fun z => z.2 (fun w => nomatch w)⟩)
  | some j2 =>
    cases o2 with
    | none => exact (qX6_offer_39rn).trans (propext ⟨fun z => ⟨(fun w => nomatch w), fun _ => z⟩, fun z => z.2 (fun w => nomatch w)⟩)
    | some j =>
      refine (qX6_offer_39rr).trans ?_
      by_cases e : ad k2 j = ad k j2 <;> simp [e, both, orf_s]
theorem qX6_offer_117_o : ey FX6 ini rt fin K0 K (decode cX6_offer 117) 117 L (orf ad k o :: .int i :: .ref a :: r) h cs ss = (isA (h.1 a) (fun t m => 4 ≤ t ∧ vp_in i m ∧ ∀ x, orf ad k o = .ref x → h.1 x = some (.inl (vec t))) ∧ K 118 L r (h.1, hup h.2 a i.toNatClampNeg (orf ad k o)) cs ss) := by
  cases o with
  | none =>
    refine (qX6_offer_117n).trans ?_
    congr 2
    funext t m
    exact propext ⟨fun z => ⟨z.1, z.2, fun x w => nomatch w⟩, fun z => ⟨z.1, z.2.1⟩⟩
  | some j =>
    refine (qX6_offer_117r).trans ?_
    congr 2
    funext t m
    exact propext ⟨fun z => ⟨z.1, z.2.2, fun x w => by cases w; exact z.2.1⟩, fun z => ⟨z.1, z.2.2 _ rfl, z.2.1⟩⟩
theorem qX6_withdraw_5_o : ey FX6 ini rt fin K0 K (decode cX6_withdraw 5) 5 L (orf ad k o :: r) h cs ss = (2 < L.length ∧ K 6 (L.set 2 (some (orf ad k o))) r h cs ss) := by
  cases o with
  | none => exact qX6_withdraw_5n
  | some j => exact qX6_withdraw_5r
theorem qX6_swap_39_o : ey FX6 ini rt fin K0 K (decode cX6_swap 39) 39 L (orf ad k o :: r) h cs ss = (3 < L.length ∧ K 40 (L.set 3 (some (orf ad k o))) r h cs ss) := by
  cases o with
  | none => exact qX6_swap_39n
  | some j => exact qX6_swap_39r
theorem qX6_swap_58_o : ey FX6 ini rt fin K0 K (decode cX6_swap 58) 58 L (orf ad k o :: r) h cs ss = (6 < L.length ∧ K 60 (L.set 6 (some (orf ad k o))) r h cs ss) := by
  cases o with
  | none => exact qX6_swap_58n
  | some j => exact qX6_swap_58r
theorem qX6_swap_62_o : ey FX6 ini rt fin K0 K (decode cX6_swap 62) 62 L (orf ad k o :: r) h cs ss = (both (o = none) (K 79 L r h cs ss) (K 65 L r h cs ss)) := by
  cases o with
  | none => exact (qX6_swap_62n).trans (propext ⟨fun z => ⟨fun _ => z, fun w => absurd rfl w⟩, fun z => z.1 rfl⟩)
  | some j => exact (qX6_swap_62r).trans (propext ⟨fun z => ⟨(fun w => nomatch w), fun _ => z⟩, fun z => z.2 (fun w => nomatch w)⟩)
theorem qX6_theWorker_23_o : ey FX6 ini rt fin K0 K (decode cX6_theWorker 23) 23 L (orf ad k o :: r) h cs ss = (2 < L.length ∧ K 24 (L.set 2 (some (orf ad k o))) r h cs ss) := by
  cases o with
  | none => exact qX6_theWorker_23n
  | some j => exact qX6_theWorker_23r
theorem qX6_theWorker_25_o : ey FX6 ini rt fin K0 K (decode cX6_theWorker 25) 25 L (orf ad k o :: r) h cs ss = (both (o = none) (K 28 L r h cs ss) (K 39 L r h cs ss)) := by
  cases o with
  | none => exact (qX6_theWorker_25n).trans (propext ⟨fun z => ⟨fun _ => z, fun w => absurd rfl w⟩, fun z => z.1 rfl⟩)
  | some j => exact (qX6_theWorker_25r).trans (propext ⟨fun z => ⟨(fun w => nomatch w), fun _ => z⟩, fun z => z.2 (fun w => nomatch w)⟩)
theorem qX6_theWorker_40_o : ey FX6 ini rt fin K0 K (decode cX6_theWorker 40) 40 L ([orf ad k o]) h cs ss = (isR rt ∧ fin (some (orf ad k o)) h cs ss) := by
  cases o with
  | none => exact qX6_theWorker_40n
  | some j => exact qX6_theWorker_40r
theorem qX6_theShift_23_o : ey FX6 ini rt fin K0 K (decode cX6_theShift 23) 23 L (orf ad k o :: r) h cs ss = (2 < L.length ∧ K 24 (L.set 2 (some (orf ad k o))) r h cs ss) := by
  cases o with
  | none => exact qX6_theShift_23n
  | some j => exact qX6_theShift_23r
theorem qX6_theShift_25_o : ey FX6 ini rt fin K0 K (decode cX6_theShift 25) 25 L (orf ad k o :: r) h cs ss = (both (o = none) (K 28 L r h cs ss) (K 39 L r h cs ss)) := by
  cases o with
  | none => exact (qX6_theShift_25n).trans (propext ⟨fun z => ⟨fun _ => z, fun w => absurd rfl w⟩, fun z => z.1 rfl⟩)
  | some j => exact (qX6_theShift_25r).trans (propext ⟨fun z => ⟨(fun w => nomatch w), fun _ => z⟩, fun z => z.2 (fun w => nomatch w)⟩)
theorem qX6_theShift_40_o : ey FX6 ini rt fin K0 K (decode cX6_theShift 40) 40 L ([orf ad k o]) h cs ss = (isR rt ∧ fin (some (orf ad k o)) h cs ss) := by
  cases o with
  | none => exact qX6_theShift_40n
  | some j => exact qX6_theShift_40r
theorem qX6_theRule_23_o : ey FX6 ini rt fin K0 K (decode cX6_theRule 23) 23 L (orf ad k o :: r) h cs ss = (2 < L.length ∧ K 24 (L.set 2 (some (orf ad k o))) r h cs ss) := by
  cases o with
  | none => exact qX6_theRule_23n
  | some j => exact qX6_theRule_23r
theorem qX6_theRule_25_o : ey FX6 ini rt fin K0 K (decode cX6_theRule 25) 25 L (orf ad k o :: r) h cs ss = (both (o = none) (K 28 L r h cs ss) (K 39 L r h cs ss)) := by
  cases o with
  | none => exact (qX6_theRule_25n).trans (propext ⟨fun z => ⟨fun _ => z, fun w => absurd rfl w⟩, fun z => z.1 rfl⟩)
  | some j => exact (qX6_theRule_25r).trans (propext ⟨fun z => ⟨(fun w => nomatch w), fun _ => z⟩, fun z => z.2 (fun w => nomatch w)⟩)
theorem qX6_theRule_40_o : ey FX6 ini rt fin K0 K (decode cX6_theRule 40) 40 L ([orf ad k o]) h cs ss = (isR rt ∧ fin (some (orf ad k o)) h cs ss) := by
  cases o with
  | none => exact qX6_theRule_40n
  | some j => exact qX6_theRule_40r
theorem qX6_theClaim_23_o : ey FX6 ini rt fin K0 K (decode cX6_theClaim 23) 23 L (orf ad k o :: r) h cs ss = (2 < L.length ∧ K 24 (L.set 2 (some (orf ad k o))) r h cs ss) := by
  cases o with
  | none => exact qX6_theClaim_23n
  | some j => exact qX6_theClaim_23r
theorem qX6_theClaim_25_o : ey FX6 ini rt fin K0 K (decode cX6_theClaim 25) 25 L (orf ad k o :: r) h cs ss = (both (o = none) (K 28 L r h cs ss) (K 39 L r h cs ss)) := by
  cases o with
  | none => exact (qX6_theClaim_25n).trans (propext ⟨fun z => ⟨fun _ => z, fun w => absurd rfl w⟩, fun z => z.1 rfl⟩)
  | some j => exact (qX6_theClaim_25r).trans (propext ⟨fun z => ⟨(fun w => nomatch w), fun _ => z⟩, fun z => z.2 (fun w => nomatch w)⟩)
theorem qX6_theClaim_40_o : ey FX6 ini rt fin K0 K (decode cX6_theClaim 40) 40 L ([orf ad k o]) h cs ss = (isR rt ∧ fin (some (orf ad k o)) h cs ss) := by
  cases o with
  | none => exact qX6_theClaim_40n
  | some j => exact qX6_theClaim_40r
theorem qX6_theOffer_23_o : ey FX6 ini rt fin K0 K (decode cX6_theOffer 23) 23 L (orf ad k o :: r) h cs ss = (2 < L.length ∧ K 24 (L.set 2 (some (orf ad k o))) r h cs ss) := by
  cases o with
  | none => exact qX6_theOffer_23n
  | some j => exact qX6_theOffer_23r
theorem qX6_theOffer_25_o : ey FX6 ini rt fin K0 K (decode cX6_theOffer 25) 25 L (orf ad k o :: r) h cs ss = (both (o = none) (K 28 L r h cs ss) (K 39 L r h cs ss)) := by
  cases o with
  | none => exact (qX6_theOffer_25n).trans (propext ⟨fun z => ⟨fun _ => z, fun w => absurd rfl w⟩, fun z => z.1 rfl⟩)
  | some j => exact (qX6_theOffer_25r).trans (propext ⟨fun z => ⟨(fun w => nomatch w), fun _ => z⟩, fun z => z.2 (fun w => nomatch w)⟩)
theorem qX6_theOffer_40_o : ey FX6 ini rt fin K0 K (decode cX6_theOffer 40) 40 L ([orf ad k o]) h cs ss = (isR rt ∧ fin (some (orf ad k o)) h cs ss) := by
  cases o with
  | none => exact qX6_theOffer_40n
  | some j => exact qX6_theOffer_40r
theorem qX6_judgeAll_6_o : ey FX6 ini rt fin K0 K (decode cX6_judgeAll 6) 6 L (orf ad k o :: r) h cs ss = (2 < L.length ∧ K 7 (L.set 2 (some (orf ad k o))) r h cs ss) := by
  cases o with
  | none => exact qX6_judgeAll_6n
  | some j => exact qX6_judgeAll_6r
theorem qX6_judgeAll_23_o : ey FX6 ini rt fin K0 K (decode cX6_judgeAll 23) 23 L (orf ad k o :: r) h cs ss = (5 < L.length ∧ K 25 (L.set 5 (some (orf ad k o))) r h cs ss) := by
  cases o with
  | none => exact qX6_judgeAll_23n
  | some j => exact qX6_judgeAll_23r
theorem qX6_judgeAll_27_o : ey FX6 ini rt fin K0 K (decode cX6_judgeAll 27) 27 L (orf ad k o :: r) h cs ss = (both (o = none) (K 49 L r h cs ss) (K 30 L r h cs ss)) := by
  cases o with
  | none => exact (qX6_judgeAll_27n).trans (propext ⟨fun z => ⟨fun _ => z, fun w => absurd rfl w⟩, fun z => z.1 rfl⟩)
  | some j => exact (qX6_judgeAll_27r).trans (propext ⟨fun z => ⟨(fun w => nomatch w), fun _ => z⟩, fun z => z.2 (fun w => nomatch w)⟩)
theorem qX6_judgeAll_59_o : ey FX6 ini rt fin K0 K (decode cX6_judgeAll 59) 59 L (orf ad k o :: r) h cs ss = (2 < L.length ∧ K 60 (L.set 2 (some (orf ad k o))) r h cs ss) := by
  cases o with
  | none => exact qX6_judgeAll_59n
  | some j => exact qX6_judgeAll_59r
theorem qX6_judgeAll_76_o : ey FX6 ini rt fin K0 K (decode cX6_judgeAll 76) 76 L (orf ad k o :: r) h cs ss = (5 < L.length ∧ K 78 (L.set 5 (some (orf ad k o))) r h cs ss) := by
  cases o with
  | none => exact qX6_judgeAll_76n
  | some j => exact qX6_judgeAll_76r
theorem qX6_judgeAll_80_o : ey FX6 ini rt fin K0 K (decode cX6_judgeAll 80) 80 L (orf ad k o :: r) h cs ss = (both (o = none) (K 102 L r h cs ss) (K 83 L r h cs ss)) := by
  cases o with
  | none => exact (qX6_judgeAll_80n).trans (propext ⟨fun z => ⟨fun _ => z, fun w => absurd rfl w⟩, fun z => z.1 rfl⟩)
  | some j => exact (qX6_judgeAll_80r).trans (propext ⟨fun z => ⟨(fun w => nomatch w), fun _ => z⟩, fun z => z.2 (fun w => nomatch w)⟩)
theorem qX6_judgeAll_88_o : ey FX6 ini rt fin K0 K (decode cX6_judgeAll 88) 88 L (orf ad k o :: r) h cs ss = (both (o = none) (K 102 L r h cs ss) (K 91 L r h cs ss)) := by
  cases o with
  | none => exact (qX6_judgeAll_88n).trans (propext ⟨fun z => ⟨fun _ => z, fun w => absurd rfl w⟩, fun z => z.1 rfl⟩)
  | some j => exact (qX6_judgeAll_88r).trans (propext ⟨fun z => ⟨(fun w => nomatch w), fun _ => z⟩, fun z => z.2 (fun w => nomatch w)⟩)
theorem qX6_claimFor_4_o : ey FX6 ini rt fin K0 K (decode cX6_claimFor 4) 4 L (orf ad k o :: r) h cs ss = (3 < L.length ∧ K 5 (L.set 3 (some (orf ad k o))) r h cs ss) := by
  cases o with
  | none => exact qX6_claimFor_4n
  | some j => exact qX6_claimFor_4r
theorem qX6_claimFor_23_o : ey FX6 ini rt fin K0 K (decode cX6_claimFor 23) 23 L (orf ad k o :: r) h cs ss = (6 < L.length ∧ K 25 (L.set 6 (some (orf ad k o))) r h cs ss) := by
  cases o with
  | none => exact qX6_claimFor_23n
  | some j => exact qX6_claimFor_23r
theorem qX6_claimFor_27_o : ey FX6 ini rt fin K0 K (decode cX6_claimFor 27) 27 L (orf ad k o :: r) h cs ss = (both (o = none) (K 69 L r h cs ss) (K 30 L r h cs ss)) := by
  cases o with
  | none => exact (qX6_claimFor_27n).trans (propext ⟨fun z => ⟨fun _ => z, fun w => absurd rfl w⟩, fun z => z.1 rfl⟩)
  | some j => exact (qX6_claimFor_27r).trans (propext ⟨fun z => ⟨(fun w => nomatch w), fun _ => z⟩, fun z => z.2 (fun w => nomatch w)⟩)
theorem qX6_claimFor_46_o : ey FX6 ini rt fin K0 K (decode cX6_claimFor 46) 46 L (orf ad k o :: r) h cs ss = (7 < L.length ∧ K 48 (L.set 7 (some (orf ad k o))) r h cs ss) := by
  cases o with
  | none => exact qX6_claimFor_46n
  | some j => exact qX6_claimFor_46r
theorem qX6_claimFor_50_o : ey FX6 ini rt fin K0 K (decode cX6_claimFor 50) 50 L (orf ad k o :: r) h cs ss = (both (o = none) (K 53 L r h cs ss) (K 64 L r h cs ss)) := by
  cases o with
  | none => exact (qX6_claimFor_50n).trans (propext ⟨fun z => ⟨fun _ => z, fun w => absurd rfl w⟩, fun z => z.1 rfl⟩)
  | some j => exact (qX6_claimFor_50r).trans (propext ⟨fun z => ⟨(fun w => nomatch w), fun _ => z⟩, fun z => z.2 (fun w => nomatch w)⟩)
theorem qX6_makeClaim_23_o : ey FX6 ini rt fin K0 K (decode cX6_makeClaim 23) 23 L (orf ad k o :: r) h cs ss = (4 < L.length ∧ K 25 (L.set 4 (some (orf ad k o))) r h cs ss) := by
  cases o with
  | none => exact qX6_makeClaim_23n
  | some j => exact qX6_makeClaim_23r
theorem qX6_makeClaim_41_o : ey FX6 ini rt fin K0 K (decode cX6_makeClaim 41) 41 L (orf ad k o :: .int i :: .ref a :: r) h cs ss = (isA (h.1 a) (fun t m => 4 ≤ t ∧ vp_in i m ∧ ∀ x, orf ad k o = .ref x → h.1 x = some (.inl (vec t))) ∧ K 42 L r (h.1, hup h.2 a i.toNatClampNeg (orf ad k o)) cs ss) := by
  cases o with
  | none =>
    refine (qX6_makeClaim_41n).trans ?_
    congr 2
    funext t m
    exact propext ⟨fun z => ⟨z.1, z.2, fun x w => nomatch w⟩, fun z => ⟨z.1, z.2.1⟩⟩
  | some j =>
    refine (qX6_makeClaim_41r).trans ?_
    congr 2
    funext t m
    exact propext ⟨fun z => ⟨z.1, z.2.2, fun x w => by cases w; exact z.2.1⟩, fun z => ⟨z.1, z.2.2 _ rfl, z.2.1⟩⟩
theorem qX6_brokenBy_6_o : ey FX6 ini rt fin K0 K (decode cX6_brokenBy 6) 6 L (orf ad k o :: r) h cs ss = (3 < L.length ∧ K 7 (L.set 3 (some (orf ad k o))) r h cs ss) := by
  cases o with
  | none => exact qX6_brokenBy_6n
  | some j => exact qX6_brokenBy_6r
theorem qX6_brokenBy_25_o : ey FX6 ini rt fin K0 K (decode cX6_brokenBy 25) 25 L (orf ad k o :: r) h cs ss = (6 < L.length ∧ K 27 (L.set 6 (some (orf ad k o))) r h cs ss) := by
  cases o with
  | none => exact qX6_brokenBy_25n
  | some j => exact qX6_brokenBy_25r
theorem qX6_brokenBy_29_o : ey FX6 ini rt fin K0 K (decode cX6_brokenBy 29) 29 L (orf ad k o :: r) h cs ss = (both (o = none) (K 44 L r h cs ss) (K 32 L r h cs ss)) := by
  cases o with
  | none => exact (qX6_brokenBy_29n).trans (propext ⟨fun z => ⟨fun _ => z, fun w => absurd rfl w⟩, fun z => z.1 rfl⟩)
  | some j => exact (qX6_brokenBy_29r).trans (propext ⟨fun z => ⟨(fun w => nomatch w), fun _ => z⟩, fun z => z.2 (fun w => nomatch w)⟩)
theorem qX6_handOver_4_o : ey FX6 ini rt fin K0 K (decode cX6_handOver 4) 4 L (orf ad k o :: r) h cs ss = (both (o = none) (K 15 L r h cs ss) (K 7 L r h cs ss)) := by
  cases o with
  | none => exact (qX6_handOver_4n).trans (propext ⟨fun z => ⟨fun _ => z, fun w => absurd rfl w⟩, fun z => z.1 rfl⟩)
  | some j => exact (qX6_handOver_4r).trans (propext ⟨fun z => ⟨(fun w => nomatch w), fun _ => z⟩, fun z => z.2 (fun w => nomatch w)⟩)
theorem qX6_handOver_21_o : ey FX6 ini rt fin K0 K (decode cX6_handOver 21) 21 L (orf ad k o :: r) h cs ss = (both (o = none) (K 29 L r h cs ss) (K 24 L r h cs ss)) := by
  cases o with
  | none => exact (qX6_handOver_21n).trans (propext ⟨fun z => ⟨fun _ => z, fun w => absurd rfl w⟩, fun z => z.1 rfl⟩)
  | some j => exact (qX6_handOver_21r).trans (propext ⟨fun z => ⟨(fun w => nomatch w), fun _ => z⟩, fun z => z.2 (fun w => nomatch w)⟩)
theorem qX6_handOver_33_o : ey FX6 ini rt fin K0 K (decode cX6_handOver 33) 33 L (orf ad k o :: r) h cs ss = (3 < L.length ∧ K 34 (L.set 3 (some (orf ad k o))) r h cs ss) := by
  cases o with
  | none => exact qX6_handOver_33n
  | some j => exact qX6_handOver_33r
theorem qX6_handOver_52_o : ey FX6 ini rt fin K0 K (decode cX6_handOver 52) 52 L (orf ad k o :: r) h cs ss = (6 < L.length ∧ K 54 (L.set 6 (some (orf ad k o))) r h cs ss) := by
  cases o with
  | none => exact qX6_handOver_52n
  | some j => exact qX6_handOver_52r
theorem qX6_handOver_56_o : ey FX6 ini rt fin K0 K (decode cX6_handOver 56) 56 L (orf ad k o :: r) h cs ss = (both (o = none) (K 83 L r h cs ss) (K 59 L r h cs ss)) := by
  cases o with
  | none => exact (qX6_handOver_56n).trans (propext ⟨fun z => ⟨fun _ => z, fun w => absurd rfl w⟩, fun z => z.1 rfl⟩)
  | some j => exact (qX6_handOver_56r).trans (propext ⟨fun z => ⟨(fun w => nomatch w), fun _ => z⟩, fun z => z.2 (fun w => nomatch w)⟩)
theorem qX6_handOver_65_or : ey FX6 ini rt fin K0 K (decode cX6_handOver 65) 65 L (.ref a :: orf ad k o :: r) h cs ss = (both (orf ad k o = .ref a) (K 77 L r h cs ss) (K 68 L r h cs ss)) := by
  cases o with
  | none => exact (qX6_handOver_65rn).trans (propext ⟨fun z => ⟨(fun w => nomatch w), fun _ => z⟩, fun z => z.2 (fun w => nomatch w)⟩)
  | some j =>
    refine (qX6_handOver_65rr).trans ?_
    by_cases e : ad k j = a <;> simp [e, both, orf_s]
theorem qX6_handOver_65_ro : ey FX6 ini rt fin K0 K (decode cX6_handOver 65) 65 L (orf ad k o :: .ref a :: r) h cs ss = (both (orf ad k o = .ref a) (K 77 L r h cs ss) (K 68 L r h cs ss)) := by
  cases o with
  | none => exact (qX6_handOver_65nr).trans (propext ⟨fun z => ⟨(fun w => nomatch w), fun _ => z⟩, fun z => z.2 (fun w => nomatch w)⟩)
  | some j =>
    refine (qX6_handOver_65rr).trans ?_
    by_cases e : ad k j = a
    · simp [e, both, orf_s]
    · have e2 : ¬ a = ad k j := fun z => e z.symm
      simp [e, e2, both, orf_s]
theorem qX6_handOver_65_oo : ey FX6 ini rt fin K0 K (decode cX6_handOver 65) 65 L (orf ad k o :: orf ad k2 o2 :: r) h cs ss = (both (orf ad k2 o2 = orf ad k o) (K 77 L r h cs ss) (K 68 L r h cs ss)) := by
  cases o with
  | none =>
    cases o2 with
    | none => exact (qX6_handOver_65nn).trans (propext ⟨fun z => ⟨fun _ => z, fun w => absurd rfl w⟩, fun z => z.1 rfl⟩)
    | some j => exact (qX6_handOver_65nr).trans (propext ⟨fun z => ⟨(fun w => nomatch w), fun _ => z⟩, fun z => z.2 (fun w => nomatch w)⟩)
  | some j2 =>
    cases o2 with
    | none => exact (qX6_handOver_65rn).trans (propext ⟨fun z => ⟨(fun w => nomatch w), fun _ => z⟩, fun z => z.2 (fun w => nomatch w)⟩)
    | some j =>
      refine (qX6_handOver_65rr).trans ?_
      by_cases e : ad k2 j = ad k j2 <;> simp [e, both, orf_s]
theorem qX6_handOver_74_or : ey FX6 ini rt fin K0 K (decode cX6_handOver 74) 74 L (.ref a :: orf ad k o :: r) h cs ss = (both (orf ad k o = .ref a) (K 77 L r h cs ss) (K 83 L r h cs ss)) := by
  cases o with
  | none => exact (qX6_handOver_74rn).trans (propext ⟨fun z => ⟨(fun w => nomatch w), fun _ => z⟩, fun z => z.2 (fun w => nomatch w)⟩)
  | some j =>
    refine (qX6_handOver_74rr).trans ?_
    by_cases e : ad k j = a <;> simp [e, both, orf_s]
theorem qX6_handOver_74_ro : ey FX6 ini rt fin K0 K (decode cX6_handOver 74) 74 L (orf ad k o :: .ref a :: r) h cs ss = (both (orf ad k o = .ref a) (K 77 L r h cs ss) (K 83 L r h cs ss)) := by
  cases o with
  | none => exact (qX6_handOver_74nr).trans (propext ⟨fun z => ⟨(fun w => nomatch w), fun _ => z⟩, fun z => z.2 (fun w => nomatch w)⟩)
  | some j =>
    refine (qX6_handOver_74rr).trans ?_
    by_cases e : ad k j = a
    · simp [e, both, orf_s]
    · have e2 : ¬ a = ad k j := fun z => e z.symm
      simp [e, e2, both, orf_s]
theorem qX6_handOver_74_oo : ey FX6 ini rt fin K0 K (decode cX6_handOver 74) 74 L (orf ad k o :: orf ad k2 o2 :: r) h cs ss = (both (orf ad k2 o2 = orf ad k o) (K 77 L r h cs ss) (K 83 L r h cs ss)) := by
  cases o with
  | none =>
    cases o2 with
    | none => exact (qX6_handOver_74nn).trans (propext ⟨fun z => ⟨fun _ => z, fun w => absurd rfl w⟩, fun z => z.1 rfl⟩)
    | some j => exact (qX6_handOver_74nr).trans (propext ⟨fun z => ⟨(fun w => nomatch w), fun _ => z⟩, fun z => z.2 (fun w => nomatch w)⟩)
  | some j2 =>
    cases o2 with
    | none => exact (qX6_handOver_74rn).trans (propext ⟨fun z => ⟨(fun w => nomatch w), fun _ => z⟩, fun z => z.2 (fun w => nomatch w)⟩)
    | some j =>
      refine (qX6_handOver_74rr).trans ?_
      by_cases e : ad k2 j = ad k j2 <;> simp [e, both, orf_s]
theorem qX6_offersThere_6_o : ey FX6 ini rt fin K0 K (decode cX6_offersThere 6) 6 L (orf ad k o :: r) h cs ss = (2 < L.length ∧ K 7 (L.set 2 (some (orf ad k o))) r h cs ss) := by
  cases o with
  | none => exact qX6_offersThere_6n
  | some j => exact qX6_offersThere_6r
theorem qX6_offersThere_23_o : ey FX6 ini rt fin K0 K (decode cX6_offersThere 23) 23 L (orf ad k o :: r) h cs ss = (5 < L.length ∧ K 25 (L.set 5 (some (orf ad k o))) r h cs ss) := by
  cases o with
  | none => exact qX6_offersThere_23n
  | some j => exact qX6_offersThere_23r
theorem qX6_offersThere_27_o : ey FX6 ini rt fin K0 K (decode cX6_offersThere 27) 27 L (orf ad k o :: r) h cs ss = (both (o = none) (K 41 L r h cs ss) (K 30 L r h cs ss)) := by
  cases o with
  | none => exact (qX6_offersThere_27n).trans (propext ⟨fun z => ⟨fun _ => z, fun w => absurd rfl w⟩, fun z => z.1 rfl⟩)
  | some j => exact (qX6_offersThere_27r).trans (propext ⟨fun z => ⟨(fun w => nomatch w), fun _ => z⟩, fun z => z.2 (fun w => nomatch w)⟩)
theorem qX6_gatherRing_17_o : ey FX6 ini rt fin K0 K (decode cX6_gatherRing 17) 17 L (orf ad k o :: .int i :: .ref a :: r) h cs ss = (isA (h.1 a) (fun t m => 4 ≤ t ∧ vp_in i m ∧ ∀ x, orf ad k o = .ref x → h.1 x = some (.inl (vec t))) ∧ K 18 L r (h.1, hup h.2 a i.toNatClampNeg (orf ad k o)) cs ss) := by
  cases o with
  | none =>
    refine (qX6_gatherRing_17n).trans ?_
    congr 2
    funext t m
    exact propext ⟨fun z => ⟨z.1, z.2, fun x w => nomatch w⟩, fun z => ⟨z.1, z.2.1⟩⟩
  | some j =>
    refine (qX6_gatherRing_17r).trans ?_
    congr 2
    funext t m
    exact propext ⟨fun z => ⟨z.1, z.2.2, fun x w => by cases w; exact z.2.1⟩, fun z => ⟨z.1, z.2.2 _ rfl, z.2.1⟩⟩
theorem qX6_gatherRing_25_o : ey FX6 ini rt fin K0 K (decode cX6_gatherRing 25) 25 L (orf ad k o :: r) h cs ss = (2 < L.length ∧ K 26 (L.set 2 (some (orf ad k o))) r h cs ss) := by
  cases o with
  | none => exact qX6_gatherRing_25n
  | some j => exact qX6_gatherRing_25r
theorem qX6_gatherRing_38_o : ey FX6 ini rt fin K0 K (decode cX6_gatherRing 38) 38 L (orf ad k o :: r) h cs ss = (both (o = none) (K 59 L r h cs ss) (K 41 L r h cs ss)) := by
  cases o with
  | none => exact (qX6_gatherRing_38n).trans (propext ⟨fun z => ⟨fun _ => z, fun w => absurd rfl w⟩, fun z => z.1 rfl⟩)
  | some j => exact (qX6_gatherRing_38r).trans (propext ⟨fun z => ⟨(fun w => nomatch w), fun _ => z⟩, fun z => z.2 (fun w => nomatch w)⟩)
theorem qX6_gatherRing_67_o : ey FX6 ini rt fin K0 K (decode cX6_gatherRing 67) 67 L (orf ad k o :: .int i :: .ref a :: r) h cs ss = (isA (h.1 a) (fun t m => 4 ≤ t ∧ vp_in i m ∧ ∀ x, orf ad k o = .ref x → h.1 x = some (.inl (vec t))) ∧ K 68 L r (h.1, hup h.2 a i.toNatClampNeg (orf ad k o)) cs ss) := by
  cases o with
  | none =>
    refine (qX6_gatherRing_67n).trans ?_
    congr 2
    funext t m
    exact propext ⟨fun z => ⟨z.1, z.2, fun x w => nomatch w⟩, fun z => ⟨z.1, z.2.1⟩⟩
  | some j =>
    refine (qX6_gatherRing_67r).trans ?_
    congr 2
    funext t m
    exact propext ⟨fun z => ⟨z.1, z.2.2, fun x w => by cases w; exact z.2.1⟩, fun z => ⟨z.1, z.2.2 _ rfl, z.2.1⟩⟩
theorem qX6_gatherRing_76_or : ey FX6 ini rt fin K0 K (decode cX6_gatherRing 76) 76 L (.ref a :: orf ad k o :: r) h cs ss = (both (orf ad k o = .ref a) (K 79 L r h cs ss) (K 83 L r h cs ss)) := by
  cases o with
  | none => exact (qX6_gatherRing_76rn).trans (propext ⟨fun z => ⟨(fun w => nomatch w), fun _ => z⟩, fun z => z.2 (fun w => nomatch w)⟩)
  | some j =>
    refine (qX6_gatherRing_76rr).trans ?_
    by_cases e : ad k j = a <;> simp [e, both, orf_s]
theorem qX6_gatherRing_76_ro : ey FX6 ini rt fin K0 K (decode cX6_gatherRing 76) 76 L (orf ad k o :: .ref a :: r) h cs ss = (both (orf ad k o = .ref a) (K 79 L r h cs ss) (K 83 L r h cs ss)) := by
  cases o with
  | none => exact (qX6_gatherRing_76nr).trans (propext ⟨fun z => ⟨(fun w => nomatch w), fun _ => z⟩, fun z => z.2 (fun w => nomatch w)⟩)
  | some j =>
    refine (qX6_gatherRing_76rr).trans ?_
    by_cases e : ad k j = a
    · simp [e, both, orf_s]
    · have e2 : ¬ a = ad k j := fun z => e z.symm
      simp [e, e2, both, orf_s]
theorem qX6_gatherRing_76_oo : ey FX6 ini rt fin K0 K (decode cX6_gatherRing 76) 76 L (orf ad k o :: orf ad k2 o2 :: r) h cs ss = (both (orf ad k2 o2 = orf ad k o) (K 79 L r h cs ss) (K 83 L r h cs ss)) := by
  cases o with
  | none =>
    cases o2 with
    | none => exact (qX6_gatherRing_76nn).trans (propext ⟨fun z => ⟨fun _ => z, fun w => absurd rfl w⟩, fun z => z.1 rfl⟩)
    | some j => exact (qX6_gatherRing_76nr).trans (propext ⟨fun z => ⟨(fun w => nomatch w), fun _ => z⟩, fun z => z.2 (fun w => nomatch w)⟩)
  | some j2 =>
    cases o2 with
    | none => exact (qX6_gatherRing_76rn).trans (propext ⟨fun z => ⟨(fun w => nomatch w), fun _ => z⟩, fun z => z.2 (fun w => nomatch w)⟩)
    | some j =>
      refine (qX6_gatherRing_76rr).trans ?_
      by_cases e : ad k2 j = ad k j2 <;> simp [e, both, orf_s]
theorem qX6_gatherRing_91_o : ey FX6 ini rt fin K0 K (decode cX6_gatherRing 91) 91 L (orf ad k o :: r) h cs ss = (2 < L.length ∧ K 92 (L.set 2 (some (orf ad k o))) r h cs ss) := by
  cases o with
  | none => exact qX6_gatherRing_91n
  | some j => exact qX6_gatherRing_91r
theorem qX6_isInRing_4_o : ey FX6 ini rt fin K0 K (decode cX6_isInRing 4) 4 L (orf ad k o :: r) h cs ss = (2 < L.length ∧ K 5 (L.set 2 (some (orf ad k o))) r h cs ss) := by
  cases o with
  | none => exact qX6_isInRing_4n
  | some j => exact qX6_isInRing_4r
theorem qX6_isInRing_21_o : ey FX6 ini rt fin K0 K (decode cX6_isInRing 21) 21 L (orf ad k o :: r) h cs ss = (5 < L.length ∧ K 23 (L.set 5 (some (orf ad k o))) r h cs ss) := by
  cases o with
  | none => exact qX6_isInRing_21n
  | some j => exact qX6_isInRing_21r
theorem qX6_isInRing_25_o : ey FX6 ini rt fin K0 K (decode cX6_isInRing 25) 25 L (orf ad k o :: r) h cs ss = (both (o = none) (K 39 L r h cs ss) (K 28 L r h cs ss)) := by
  cases o with
  | none => exact (qX6_isInRing_25n).trans (propext ⟨fun z => ⟨fun _ => z, fun w => absurd rfl w⟩, fun z => z.1 rfl⟩)
  | some j => exact (qX6_isInRing_25r).trans (propext ⟨fun z => ⟨(fun w => nomatch w), fun _ => z⟩, fun z => z.2 (fun w => nomatch w)⟩)
theorem qX6_isInRing_34_or : ey FX6 ini rt fin K0 K (decode cX6_isInRing 34) 34 L (.ref a :: orf ad k o :: r) h cs ss = (both (orf ad k o = .ref a) (K 37 L r h cs ss) (K 39 L r h cs ss)) := by
  cases o with
  | none => exact (qX6_isInRing_34rn).trans (propext ⟨fun z => ⟨(fun w => nomatch w), fun _ => z⟩, fun z => z.2 (fun w => nomatch w)⟩)
  | some j =>
    refine (qX6_isInRing_34rr).trans ?_
    by_cases e : ad k j = a <;> simp [e, both, orf_s]
theorem qX6_isInRing_34_ro : ey FX6 ini rt fin K0 K (decode cX6_isInRing 34) 34 L (orf ad k o :: .ref a :: r) h cs ss = (both (orf ad k o = .ref a) (K 37 L r h cs ss) (K 39 L r h cs ss)) := by
  cases o with
  | none => exact (qX6_isInRing_34nr).trans (propext ⟨fun z => ⟨(fun w => nomatch w), fun _ => z⟩, fun z => z.2 (fun w => nomatch w)⟩)
  | some j =>
    refine (qX6_isInRing_34rr).trans ?_
    by_cases e : ad k j = a
    · simp [e, both, orf_s]
    · have e2 : ¬ a = ad k j := fun z => e z.symm
      simp [e, e2, both, orf_s]
theorem qX6_isInRing_34_oo : ey FX6 ini rt fin K0 K (decode cX6_isInRing 34) 34 L (orf ad k o :: orf ad k2 o2 :: r) h cs ss = (both (orf ad k2 o2 = orf ad k o) (K 37 L r h cs ss) (K 39 L r h cs ss)) := by
  cases o with
  | none =>
    cases o2 with
    | none => exact (qX6_isInRing_34nn).trans (propext ⟨fun z => ⟨fun _ => z, fun w => absurd rfl w⟩, fun z => z.1 rfl⟩)
    | some j => exact (qX6_isInRing_34nr).trans (propext ⟨fun z => ⟨(fun w => nomatch w), fun _ => z⟩, fun z => z.2 (fun w => nomatch w)⟩)
  | some j2 =>
    cases o2 with
    | none => exact (qX6_isInRing_34rn).trans (propext ⟨fun z => ⟨(fun w => nomatch w), fun _ => z⟩, fun z => z.2 (fun w => nomatch w)⟩)
    | some j =>
      refine (qX6_isInRing_34rr).trans ?_
      by_cases e : ad k2 j = ad k j2 <;> simp [e, both, orf_s]
theorem qX6_lowestGiving_4_o : ey FX6 ini rt fin K0 K (decode cX6_lowestGiving 4) 4 L (orf ad k o :: r) h cs ss = (2 < L.length ∧ K 5 (L.set 2 (some (orf ad k o))) r h cs ss) := by
  cases o with
  | none => exact qX6_lowestGiving_4n
  | some j => exact qX6_lowestGiving_4r
theorem qX6_lowestGiving_21_o : ey FX6 ini rt fin K0 K (decode cX6_lowestGiving 21) 21 L (orf ad k o :: r) h cs ss = (5 < L.length ∧ K 23 (L.set 5 (some (orf ad k o))) r h cs ss) := by
  cases o with
  | none => exact qX6_lowestGiving_21n
  | some j => exact qX6_lowestGiving_21r
theorem qX6_lowestGiving_25_o : ey FX6 ini rt fin K0 K (decode cX6_lowestGiving 25) 25 L (orf ad k o :: r) h cs ss = (both (o = none) (K 48 L r h cs ss) (K 28 L r h cs ss)) := by
  cases o with
  | none => exact (qX6_lowestGiving_25n).trans (propext ⟨fun z => ⟨fun _ => z, fun w => absurd rfl w⟩, fun z => z.1 rfl⟩)
  | some j => exact (qX6_lowestGiving_25r).trans (propext ⟨fun z => ⟨(fun w => nomatch w), fun _ => z⟩, fun z => z.2 (fun w => nomatch w)⟩)
theorem qX6_lowestGiving_42_or : ey FX6 ini rt fin K0 K (decode cX6_lowestGiving 42) 42 L (.ref a :: orf ad k o :: r) h cs ss = (both (orf ad k o = .ref a) (K 45 L r h cs ss) (K 48 L r h cs ss)) := by
  cases o with
  | none => exact (qX6_lowestGiving_42rn).trans (propext ⟨fun z => ⟨(fun w => nomatch w), fun _ => z⟩, fun z => z.2 (fun w => nomatch w)⟩)
  | some j =>
    refine (qX6_lowestGiving_42rr).trans ?_
    by_cases e : ad k j = a <;> simp [e, both, orf_s]
theorem qX6_lowestGiving_42_ro : ey FX6 ini rt fin K0 K (decode cX6_lowestGiving 42) 42 L (orf ad k o :: .ref a :: r) h cs ss = (both (orf ad k o = .ref a) (K 45 L r h cs ss) (K 48 L r h cs ss)) := by
  cases o with
  | none => exact (qX6_lowestGiving_42nr).trans (propext ⟨fun z => ⟨(fun w => nomatch w), fun _ => z⟩, fun z => z.2 (fun w => nomatch w)⟩)
  | some j =>
    refine (qX6_lowestGiving_42rr).trans ?_
    by_cases e : ad k j = a
    · simp [e, both, orf_s]
    · have e2 : ¬ a = ad k j := fun z => e z.symm
      simp [e, e2, both, orf_s]
theorem qX6_lowestGiving_42_oo : ey FX6 ini rt fin K0 K (decode cX6_lowestGiving 42) 42 L (orf ad k o :: orf ad k2 o2 :: r) h cs ss = (both (orf ad k2 o2 = orf ad k o) (K 45 L r h cs ss) (K 48 L r h cs ss)) := by
  cases o with
  | none =>
    cases o2 with
    | none => exact (qX6_lowestGiving_42nn).trans (propext ⟨fun z => ⟨fun _ => z, fun w => absurd rfl w⟩, fun z => z.1 rfl⟩)
    | some j => exact (qX6_lowestGiving_42nr).trans (propext ⟨fun z => ⟨(fun w => nomatch w), fun _ => z⟩, fun z => z.2 (fun w => nomatch w)⟩)
  | some j2 =>
    cases o2 with
    | none => exact (qX6_lowestGiving_42rn).trans (propext ⟨fun z => ⟨(fun w => nomatch w), fun _ => z⟩, fun z => z.2 (fun w => nomatch w)⟩)
    | some j =>
      refine (qX6_lowestGiving_42rr).trans ?_
      by_cases e : ad k2 j = ad k j2 <;> simp [e, both, orf_s]
theorem qX6_lowestGiving_47_o : ey FX6 ini rt fin K0 K (decode cX6_lowestGiving 47) 47 L ([orf ad k o]) h cs ss = (isR rt ∧ fin (some (orf ad k o)) h cs ss) := by
  cases o with
  | none => exact qX6_lowestGiving_47n
  | some j => exact qX6_lowestGiving_47r
theorem qX6_lowestGiving_55_o : ey FX6 ini rt fin K0 K (decode cX6_lowestGiving 55) 55 L ([orf ad k o]) h cs ss = (isR rt ∧ fin (some (orf ad k o)) h cs ss) := by
  cases o with
  | none => exact qX6_lowestGiving_55n
  | some j => exact qX6_lowestGiving_55r
theorem qX6_ringCanSwap_4_o : ey FX6 ini rt fin K0 K (decode cX6_ringCanSwap 4) 4 L (orf ad k o :: r) h cs ss = (1 < L.length ∧ K 5 (L.set 1 (some (orf ad k o))) r h cs ss) := by
  cases o with
  | none => exact qX6_ringCanSwap_4n
  | some j => exact qX6_ringCanSwap_4r
theorem qX6_ringCanSwap_18_o : ey FX6 ini rt fin K0 K (decode cX6_ringCanSwap 18) 18 L (orf ad k o :: r) h cs ss = (4 < L.length ∧ K 20 (L.set 4 (some (orf ad k o))) r h cs ss) := by
  cases o with
  | none => exact qX6_ringCanSwap_18n
  | some j => exact qX6_ringCanSwap_18r
theorem qX6_ringCanSwap_22_o : ey FX6 ini rt fin K0 K (decode cX6_ringCanSwap 22) 22 L (orf ad k o :: r) h cs ss = (both (o = none) (K 60 L r h cs ss) (K 25 L r h cs ss)) := by
  cases o with
  | none => exact (qX6_ringCanSwap_22n).trans (propext ⟨fun z => ⟨fun _ => z, fun w => absurd rfl w⟩, fun z => z.1 rfl⟩)
  | some j => exact (qX6_ringCanSwap_22r).trans (propext ⟨fun z => ⟨(fun w => nomatch w), fun _ => z⟩, fun z => z.2 (fun w => nomatch w)⟩)
end QO
theorem both_t (A B : Prop) : both True A B = A := propext ⟨fun z => z.1 trivial, fun z => ⟨fun _ => z, fun w => absurd trivial w⟩⟩
theorem both_f (A B : Prop) : both False A B = B := propext ⟨fun z => z.2 (fun w => w), fun z => ⟨fun w => w.elim, fun _ => z⟩⟩
