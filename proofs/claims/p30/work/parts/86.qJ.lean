/-! THE JDK: rows of the members that are run -/
section QQ
variable {F : Nat → Option Fq} {ini : Option Nat} {rt : Option FieldType} {fin : Option Value → Hp → Nat → Nat → Prop} {K0 K : Kt} {L : List (Option Value)} {h : Hp} {cs ss : Nat} {r st : List Value} {x y i : Int32} {a a2 : Nat} {v v2 : Value} {lx ly : Int64}
theorem qJ0_length_8abf5_0 : ey F ini rt fin K0 K (decode cJ0_length_8abf5 0) 0 L (st) h cs ss = (lhas L 0 ∧ isRf (lgt L 0) ∧ K 1 L (lgt L 0 :: st) h cs ss) := by
  rw [dJ0_length_8abf5_0, ey_ok, nx_aload_n_3] <;> rfl
theorem qJ0_length_8abf5_4 : ey F ini rt fin K0 K (decode cJ0_length_8abf5 4) 4 L (.ref a :: r) h cs ss = (isA (h.1 a) (fun _ _ => True) ∧ K 5 L (.int (nI (alen (h.1 a))) :: r) h cs ss) := by
  rw [dJ0_length_8abf5_4, ey_ok, nx_arraylength_56]
theorem qJ0_length_8abf5_5 : ey F ini rt fin K0 K (decode cJ0_length_8abf5 5) 5 L (st) h cs ss = (lhas L 0 ∧ isRf (lgt L 0) ∧ K 6 L (lgt L 0 :: st) h cs ss) := by
  rw [dJ0_length_8abf5_5, ey_ok, nx_aload_n_3] <;> rfl
theorem qJ0_length_8abf5_6 : ey F ini rt fin K0 K (decode cJ0_length_8abf5 6) 6 L (st) h cs ss = (K0 6 L st h cs ss) := by
  rw [dJ0_length_8abf5_6, ey_ok, nx_invokevirtual_72]
theorem qJ0_length_8abf5_9 : ey F ini rt fin K0 K (decode cJ0_length_8abf5 9) 9 L (.int y :: .int x :: r) h cs ss = (K 10 L (.int (x >>> (y &&& 31)) :: r) h cs ss) := by
  rw [dJ0_length_8abf5_9, ey_ok, nx_ishr_21]
theorem qJ0_length_8abf5_10 : ey F ini rt fin K0 K (decode cJ0_length_8abf5 10) 10 L ([.int x]) h cs ss = (rokI rt x ∧ fin (some (.int x)) h cs ss) := by
  rw [dJ0_length_8abf5_10, ey_ok, nx_ireturn_68]
theorem qJ0_charAt_5068e_0 : ey F ini rt fin K0 K (decode cJ0_charAt_5068e 0) 0 L (st) h cs ss = (lhas L 0 ∧ isRf (lgt L 0) ∧ K 1 L (lgt L 0 :: st) h cs ss) := by
  rw [dJ0_charAt_5068e_0, ey_ok, nx_aload_n_3] <;> rfl
theorem qJ0_charAt_5068e_1 : ey F ini rt fin K0 K (decode cJ0_charAt_5068e 1) 1 L (st) h cs ss = (K0 1 L st h cs ss) := by
  rw [dJ0_charAt_5068e_1, ey_ok, nx_invokevirtual_72]
theorem qJ0_charAt_5068e_4 : ey F ini rt fin K0 K (decode cJ0_charAt_5068e 4) 4 L (.int x :: r) h cs ss = (if x = 0 then K 16 L r h cs ss else K 7 L r h cs ss) := by
  rw [dJ0_charAt_5068e_4, ey_ok, nx_ifond_30]
  exact and_l (by unfold jok; decide)
theorem qJ0_charAt_5068e_7 : ey F ini rt fin K0 K (decode cJ0_charAt_5068e 7) 7 L (st) h cs ss = (lhas L 0 ∧ isRf (lgt L 0) ∧ K 8 L (lgt L 0 :: st) h cs ss) := by
  rw [dJ0_charAt_5068e_7, ey_ok, nx_aload_n_3] <;> rfl
theorem qJ0_charAt_5068e_11 : ey F ini rt fin K0 K (decode cJ0_charAt_5068e 11) 11 L (st) h cs ss = (lhas L 1 ∧ isI (lgt L 1) ∧ K 12 L (lgt L 1 :: st) h cs ss) := by
  rw [dJ0_charAt_5068e_11, ey_ok, nx_iload_n_1] <;> rfl
theorem qJ0_charAt_5068e_12 : ey F ini rt fin K0 K (decode cJ0_charAt_5068e 12) 12 L (st) h cs ss = (K0 12 L st h cs ss) := by
  rw [dJ0_charAt_5068e_12, ey_ok, nx_invokestatic_73]
theorem qJ0_charAt_5068e_15 : ey F ini rt fin K0 K (decode cJ0_charAt_5068e 15) 15 L ([.int x]) h cs ss = (rokI rt x ∧ fin (some (.int x)) h cs ss) := by
  rw [dJ0_charAt_5068e_15, ey_ok, nx_ireturn_68]
theorem qJ0_charAt_5068e_16 : ey F ini rt fin K0 K (decode cJ0_charAt_5068e 16) 16 L (st) h cs ss = (lhas L 0 ∧ isRf (lgt L 0) ∧ K 17 L (lgt L 0 :: st) h cs ss) := by
  rw [dJ0_charAt_5068e_16, ey_ok, nx_aload_n_3] <;> rfl
theorem qJ0_charAt_5068e_20 : ey F ini rt fin K0 K (decode cJ0_charAt_5068e 20) 20 L (st) h cs ss = (lhas L 1 ∧ isI (lgt L 1) ∧ K 21 L (lgt L 1 :: st) h cs ss) := by
  rw [dJ0_charAt_5068e_20, ey_ok, nx_iload_n_1] <;> rfl
theorem qJ0_charAt_5068e_21 : ey F ini rt fin K0 K (decode cJ0_charAt_5068e 21) 21 L (st) h cs ss = (K0 21 L st h cs ss) := by
  rw [dJ0_charAt_5068e_21, ey_ok, nx_invokestatic_73]
theorem qJ0_charAt_5068e_24 : ey F ini rt fin K0 K (decode cJ0_charAt_5068e 24) 24 L ([.int x]) h cs ss = (rokI rt x ∧ fin (some (.int x)) h cs ss) := by
  rw [dJ0_charAt_5068e_24, ey_ok, nx_ireturn_68]
theorem qJ0_coder_7d493_3 : ey F ini rt fin K0 K (decode cJ0_coder_7d493 3) 3 L (.int x :: r) h cs ss = (if x = 0 then K 13 L r h cs ss else K 6 L r h cs ss) := by
  rw [dJ0_coder_7d493_3, ey_ok, nx_ifond_30]
  exact and_l (by unfold jok; decide)
theorem qJ0_coder_7d493_6 : ey F ini rt fin K0 K (decode cJ0_coder_7d493 6) 6 L (st) h cs ss = (lhas L 0 ∧ isRf (lgt L 0) ∧ K 7 L (lgt L 0 :: st) h cs ss) := by
  rw [dJ0_coder_7d493_6, ey_ok, nx_aload_n_3] <;> rfl
theorem qJ0_coder_7d493_10 : ey F ini rt fin K0 K (decode cJ0_coder_7d493 10) 10 L (st) h cs ss = (K 14 L st h cs ss) := by
  rw [dJ0_coder_7d493_10, ey_ok, nx_goto_29]
  exact and_l (by unfold jok; decide)
theorem qJ0_coder_7d493_13 : ey F ini rt fin K0 K (decode cJ0_coder_7d493 13) 13 L (st) h cs ss = (K 14 L (.int 1 :: st) h cs ss) := by
  rw [dJ0_coder_7d493_13, ey_ok, nx_iconst_11] <;> rfl
theorem qJ0_coder_7d493_14 : ey F ini rt fin K0 K (decode cJ0_coder_7d493 14) 14 L ([.int x]) h cs ss = (rokI rt x ∧ fin (some (.int x)) h cs ss) := by
  rw [dJ0_coder_7d493_14, ey_ok, nx_ireturn_68]
theorem qJ0_isLatin1_aae02_3 : ey F ini rt fin K0 K (decode cJ0_isLatin1_aae02 3) 3 L (.int x :: r) h cs ss = (if x = 0 then K 17 L r h cs ss else K 6 L r h cs ss) := by
  rw [dJ0_isLatin1_aae02_3, ey_ok, nx_ifond_30]
  exact and_l (by unfold jok; decide)
theorem qJ0_isLatin1_aae02_6 : ey F ini rt fin K0 K (decode cJ0_isLatin1_aae02 6) 6 L (st) h cs ss = (lhas L 0 ∧ isRf (lgt L 0) ∧ K 7 L (lgt L 0 :: st) h cs ss) := by
  rw [dJ0_isLatin1_aae02_6, ey_ok, nx_aload_n_3] <;> rfl
theorem qJ0_isLatin1_aae02_10 : ey F ini rt fin K0 K (decode cJ0_isLatin1_aae02 10) 10 L (.int x :: r) h cs ss = (if ¬ x = 0 then K 17 L r h cs ss else K 13 L r h cs ss) := by
  rw [dJ0_isLatin1_aae02_10, ey_ok, nx_ifond_31]
  exact and_l (by unfold jok; decide)
theorem qJ0_isLatin1_aae02_13 : ey F ini rt fin K0 K (decode cJ0_isLatin1_aae02 13) 13 L (st) h cs ss = (K 14 L (.int 1 :: st) h cs ss) := by
  rw [dJ0_isLatin1_aae02_13, ey_ok, nx_iconst_11] <;> rfl
theorem qJ0_isLatin1_aae02_14 : ey F ini rt fin K0 K (decode cJ0_isLatin1_aae02 14) 14 L (st) h cs ss = (K 18 L st h cs ss) := by
  rw [dJ0_isLatin1_aae02_14, ey_ok, nx_goto_29]
  exact and_l (by unfold jok; decide)
theorem qJ0_isLatin1_aae02_17 : ey F ini rt fin K0 K (decode cJ0_isLatin1_aae02 17) 17 L (st) h cs ss = (K 18 L (.int 0 :: st) h cs ss) := by
  rw [dJ0_isLatin1_aae02_17, ey_ok, nx_iconst_11] <;> rfl
theorem qJ0_isLatin1_aae02_18 : ey F ini rt fin K0 K (decode cJ0_isLatin1_aae02 18) 18 L ([.int x]) h cs ss = (rokI rt x ∧ fin (some (.int x)) h cs ss) := by
  rw [dJ0_isLatin1_aae02_18, ey_ok, nx_ireturn_68]
theorem qJ0_checkIndex_df160_0 : ey F ini rt fin K0 K (decode cJ0_checkIndex_df160 0) 0 L (st) h cs ss = (lhas L 0 ∧ isI (lgt L 0) ∧ K 1 L (lgt L 0 :: st) h cs ss) := by
  rw [dJ0_checkIndex_df160_0, ey_ok, nx_iload_n_1] <;> rfl
theorem qJ0_checkIndex_df160_1 : ey F ini rt fin K0 K (decode cJ0_checkIndex_df160 1) 1 L (st) h cs ss = (lhas L 1 ∧ isI (lgt L 1) ∧ K 2 L (lgt L 1 :: st) h cs ss) := by
  rw [dJ0_checkIndex_df160_1, ey_ok, nx_iload_n_1] <;> rfl
theorem qJ0_checkIndex_df160_5 : ey F ini rt fin K0 K (decode cJ0_checkIndex_df160 5) 5 L (st) h cs ss = (K0 5 L st h cs ss) := by
  rw [dJ0_checkIndex_df160_5, ey_ok, nx_invokestatic_73]
theorem qJ0_checkIndex_df160_8 : ey F ini rt fin K0 K (decode cJ0_checkIndex_df160 8) 8 L (v :: r) h cs ss = (v.category = 1 ∧ K 9 L r h cs ss) := by
  rw [dJ0_checkIndex_df160_8, ey_ok, nx_pop_28]
theorem qJ0_checkIndex_df160_9 : ey F ini rt fin K0 K (decode cJ0_checkIndex_df160 9) 9 L ([]) h cs ss = (rt = none ∧ fin none h cs ss) := by
  rw [dJ0_checkIndex_df160_9, ey_ok, nx_return__71]
end QQ
section QQ
variable {F : Nat → Option Fq} {ini : Option Nat} {rt : Option FieldType} {fin : Option Value → Hp → Nat → Nat → Prop} {K0 K : Kt} {L : List (Option Value)} {h : Hp} {cs ss : Nat} {r st : List Value} {x y i : Int32} {a a2 : Nat} {v v2 : Value} {lx ly : Int64}
theorem qJ1_charAt_3b067_0 : ey F ini rt fin K0 K (decode cJ1_charAt_3b067 0) 0 L (st) h cs ss = (lhas L 1 ∧ isI (lgt L 1) ∧ K 1 L (lgt L 1 :: st) h cs ss) := by
  rw [dJ1_charAt_3b067_0, ey_ok, nx_iload_n_1] <;> rfl
theorem qJ1_charAt_3b067_1 : ey F ini rt fin K0 K (decode cJ1_charAt_3b067 1) 1 L (st) h cs ss = (lhas L 0 ∧ isRf (lgt L 0) ∧ K 2 L (lgt L 0 :: st) h cs ss) := by
  rw [dJ1_charAt_3b067_1, ey_ok, nx_aload_n_3] <;> rfl
theorem qJ1_charAt_3b067_2 : ey F ini rt fin K0 K (decode cJ1_charAt_3b067 2) 2 L (.ref a :: r) h cs ss = (isA (h.1 a) (fun _ _ => True) ∧ K 3 L (.int (nI (alen (h.1 a))) :: r) h cs ss) := by
  rw [dJ1_charAt_3b067_2, ey_ok, nx_arraylength_56]
theorem qJ1_charAt_3b067_3 : ey F ini rt fin K0 K (decode cJ1_charAt_3b067 3) 3 L (st) h cs ss = (K0 3 L st h cs ss) := by
  rw [dJ1_charAt_3b067_3, ey_ok, nx_invokestatic_73]
theorem qJ1_charAt_3b067_6 : ey F ini rt fin K0 K (decode cJ1_charAt_3b067 6) 6 L (st) h cs ss = (lhas L 0 ∧ isRf (lgt L 0) ∧ K 7 L (lgt L 0 :: st) h cs ss) := by
  rw [dJ1_charAt_3b067_6, ey_ok, nx_aload_n_3] <;> rfl
theorem qJ1_charAt_3b067_7 : ey F ini rt fin K0 K (decode cJ1_charAt_3b067 7) 7 L (st) h cs ss = (lhas L 1 ∧ isI (lgt L 1) ∧ K 8 L (lgt L 1 :: st) h cs ss) := by
  rw [dJ1_charAt_3b067_7, ey_ok, nx_iload_n_1] <;> rfl
theorem qJ1_charAt_3b067_8 : ey F ini rt fin K0 K (decode cJ1_charAt_3b067 8) 8 L (.int i :: .ref a :: r) h cs ss = (isA (h.1 a) (fun k m => k = 1 ∧ vp_in i m) ∧ K 9 L (h.2 a i.toNatClampNeg :: r) h cs ss) := by
  rw [dJ1_charAt_3b067_8, ey_ok, nx_baload_58]
theorem qJ1_charAt_3b067_9 : ey F ini rt fin K0 K (decode cJ1_charAt_3b067 9) 9 L (st) h cs ss = (K 12 L (.int 255 :: st) h cs ss) := by
  rw [dJ1_charAt_3b067_9, ey_ok, nx_sipush_13] <;> rfl
theorem qJ1_charAt_3b067_12 : ey F ini rt fin K0 K (decode cJ1_charAt_3b067 12) 12 L (.int y :: .int x :: r) h cs ss = (K 13 L (.int (x &&& y) :: r) h cs ss) := by
  rw [dJ1_charAt_3b067_12, ey_ok, nx_iand_19]
theorem qJ1_charAt_3b067_13 : ey F ini rt fin K0 K (decode cJ1_charAt_3b067 13) 13 L (.int x :: r) h cs ss = (K 14 L (.int (x.toUInt32 % 65536).toInt32 :: r) h cs ss) := by
  rw [dJ1_charAt_3b067_13, ey_ok, nx_i2c_25]
theorem qJ1_charAt_3b067_14 : ey F ini rt fin K0 K (decode cJ1_charAt_3b067 14) 14 L ([.int x]) h cs ss = (rokI rt x ∧ fin (some (.int x)) h cs ss) := by
  rw [dJ1_charAt_3b067_14, ey_ok, nx_ireturn_68]
end QQ
section QQ
variable {F : Nat → Option Fq} {ini : Option Nat} {rt : Option FieldType} {fin : Option Value → Hp → Nat → Nat → Prop} {K0 K : Kt} {L : List (Option Value)} {h : Hp} {cs ss : Nat} {r st : List Value} {x y i : Int32} {a a2 : Nat} {v v2 : Value} {lx ly : Int64}
theorem qJ3_checkIndex_8e157_0 : ey F ini rt fin K0 K (decode cJ3_checkIndex_8e157 0) 0 L (st) h cs ss = (lhas L 0 ∧ isI (lgt L 0) ∧ K 1 L (lgt L 0 :: st) h cs ss) := by
  rw [dJ3_checkIndex_8e157_0, ey_ok, nx_iload_n_1] <;> rfl
theorem qJ3_checkIndex_8e157_1 : ey F ini rt fin K0 K (decode cJ3_checkIndex_8e157 1) 1 L (.int x :: r) h cs ss = (if x < 0 then K 9 L r h cs ss else K 4 L r h cs ss) := by
  rw [dJ3_checkIndex_8e157_1, ey_ok, nx_ifond_32]
  exact and_l (by unfold jok; decide)
theorem qJ3_checkIndex_8e157_4 : ey F ini rt fin K0 K (decode cJ3_checkIndex_8e157 4) 4 L (st) h cs ss = (lhas L 0 ∧ isI (lgt L 0) ∧ K 5 L (lgt L 0 :: st) h cs ss) := by
  rw [dJ3_checkIndex_8e157_4, ey_ok, nx_iload_n_1] <;> rfl
theorem qJ3_checkIndex_8e157_5 : ey F ini rt fin K0 K (decode cJ3_checkIndex_8e157 5) 5 L (st) h cs ss = (lhas L 1 ∧ isI (lgt L 1) ∧ K 6 L (lgt L 1 :: st) h cs ss) := by
  rw [dJ3_checkIndex_8e157_5, ey_ok, nx_iload_n_1] <;> rfl
theorem qJ3_checkIndex_8e157_6 : ey F ini rt fin K0 K (decode cJ3_checkIndex_8e157 6) 6 L (.int y :: .int x :: r) h cs ss = (if x < y then K 16 L r h cs ss else K 9 L r h cs ss) := by
  rw [dJ3_checkIndex_8e157_6, ey_ok, nx_if_icmp_38]
  exact and_l (by unfold jok; decide)
theorem qJ3_checkIndex_8e157_9 : ey F ini rt fin K0 K (decode cJ3_checkIndex_8e157 9) 9 L (st) h cs ss = (lhas L 2 ∧ isRf (lgt L 2) ∧ K 10 L (lgt L 2 :: st) h cs ss) := by
  rw [dJ3_checkIndex_8e157_9, ey_ok, nx_aload_n_3] <;> rfl
theorem qJ3_checkIndex_8e157_10 : ey F ini rt fin K0 K (decode cJ3_checkIndex_8e157 10) 10 L (st) h cs ss = (lhas L 0 ∧ isI (lgt L 0) ∧ K 11 L (lgt L 0 :: st) h cs ss) := by
  rw [dJ3_checkIndex_8e157_10, ey_ok, nx_iload_n_1] <;> rfl
theorem qJ3_checkIndex_8e157_11 : ey F ini rt fin K0 K (decode cJ3_checkIndex_8e157 11) 11 L (st) h cs ss = (lhas L 1 ∧ isI (lgt L 1) ∧ K 12 L (lgt L 1 :: st) h cs ss) := by
  rw [dJ3_checkIndex_8e157_11, ey_ok, nx_iload_n_1] <;> rfl
theorem qJ3_checkIndex_8e157_12 : ey F ini rt fin K0 K (decode cJ3_checkIndex_8e157 12) 12 L (st) h cs ss = (K0 12 L st h cs ss) := by
  rw [dJ3_checkIndex_8e157_12, ey_ok, nx_invokestatic_73]
theorem qJ3_checkIndex_8e157_15 : ey F ini rt fin K0 K (decode cJ3_checkIndex_8e157 15) 15 L (st) h cs ss = (K0 15 L st h cs ss) := by
  rw [dJ3_checkIndex_8e157_15, ey_ok, nx_athrow_80]
theorem qJ3_checkIndex_8e157_16 : ey F ini rt fin K0 K (decode cJ3_checkIndex_8e157 16) 16 L (st) h cs ss = (lhas L 0 ∧ isI (lgt L 0) ∧ K 17 L (lgt L 0 :: st) h cs ss) := by
  rw [dJ3_checkIndex_8e157_16, ey_ok, nx_iload_n_1] <;> rfl
theorem qJ3_checkIndex_8e157_17 : ey F ini rt fin K0 K (decode cJ3_checkIndex_8e157 17) 17 L ([.int x]) h cs ss = (rokI rt x ∧ fin (some (.int x)) h cs ss) := by
  rw [dJ3_checkIndex_8e157_17, ey_ok, nx_ireturn_68]
end QQ
set_option maxRecDepth 100000 in
theorem kJ0_335 : LkV RJ0 335 iJ0_coder_7d493 := LkV_of [518, 519, 520, 35, 521] (by decide +kernel) (by decide +kernel)
set_option maxRecDepth 100000 in
theorem kJ0_492 : LkV RJ0 492 iJ0_isLatin1_aae02 := LkV_of [528, 529, 530, 35, 531] (by decide +kernel) (by decide +kernel)
set_option maxRecDepth 100000 in
theorem kJ0_495 : LkS RJ0 495 iJ1_charAt_3b067 := LkS_of [532, 533, 36, 534] (by decide +kernel) (by decide +kernel)
set_option maxRecDepth 100000 in
theorem kJ1_9 : LkS RJ1 9 iJ0_checkIndex_df160 := LkS_of [535, 536, 35, 537] (by decide +kernel) (by decide +kernel)
set_option maxRecDepth 100000 in
theorem kJ0_1059 : LkS RJ0 1059 iJ3_checkIndex_8e157 := LkS_of [540, 541, 37, 542] (by decide +kernel) (by decide +kernel)
set_option maxRecDepth 100000 in
theorem wJ0_9 : Cond.fieldLink "java/lang/String" 9 "java/lang/String" "value" "[B" ∈ wsG := wsG_in 851 (by decide +kernel) (by decide +kernel)
set_option maxRecDepth 100000 in
theorem wJ0_15 : Cond.fieldLink "java/lang/String" 15 "java/lang/String" "coder" "B" ∈ wsG := wsG_in 852 (by decide +kernel) (by decide +kernel)
set_option maxRecDepth 100000 in
theorem wJ0_38 : Cond.fieldLink "java/lang/String" 38 "java/lang/String" "COMPACT_STRINGS" "Z" ∈ wsG := wsG_in 522 (by decide +kernel) (by decide +kernel)
set_option maxRecDepth 100000 in
theorem wJ0_1053 : Cond.fieldLink "java/lang/String" 1053 "jdk/internal/util/Preconditions" "SIOOBE_FORMATTER" "Ljava/util/function/BiFunction;" ∈ wsG := wsG_in 538 (by decide +kernel) (by decide +kernel)
def FJ9 : Nat → Option Fq := fun _ => none
theorem FokJ0 : Fok RJ0 FJ9 := fun _ _ h => nomatch h
theorem FokJ1 : Fok RJ1 FJ9 := fun _ _ h => nomatch h
theorem FokJ3 : Fok RJ3 FJ9 := fun _ _ h => nomatch h
theorem plJ0 : plainName RJ0 = true := by decide +kernel
theorem plJ1 : plainName RJ1 = true := by decide +kernel
theorem plJ3 : plainName RJ3 = true := by decide +kernel
