section QQ
variable {F : Nat → Option Fq} {ini : Option Nat} {rt : Option FieldType} {fin : Option Value → Hp → Nat → Nat → Prop} {K0 K : Kt} {L : List (Option Value)} {h : Hp} {cs ss : Nat} {r st : List Value} {x y i : Int32} {a a2 : Nat} {v v2 : Value} {lx ly : Int64}
theorem qL_cell_0 : ey F ini rt fin K0 K (decode cL_cell 0) 0 L (st) h cs ss = (lhas L 1 ∧ isI (lgt L 1) ∧ K 1 L (lgt L 1 :: st) h cs ss) := by
  rw [dL_cell_0, ey_ok, nx_iload_n_1] <;> rfl
theorem qL_cell_1 : ey F ini rt fin K0 K (decode cL_cell 1) 1 L (st) h cs ss = (lhas L 0 ∧ isRf (lgt L 0) ∧ K 2 L (lgt L 0 :: st) h cs ss) := by
  rw [dL_cell_1, ey_ok, nx_aload_n_3] <;> rfl
theorem qL_cell_2 : ey F ini rt fin K0 K (decode cL_cell 2) 2 L (.ref a :: r) h cs ss = (isA (h.1 a) (fun _ _ => True) ∧ K 3 L (.int (nI (alen (h.1 a))) :: r) h cs ss) := by
  rw [dL_cell_2, ey_ok, nx_arraylength_56]
theorem qL_cell_3 : ey F ini rt fin K0 K (decode cL_cell 3) 3 L (.int y :: .int x :: r) h cs ss = (if y ≤ x then K 12 L r h cs ss else K 6 L r h cs ss) := by
  rw [dL_cell_3, ey_ok, nx_if_icmp_39]
  exact and_l (by unfold jok; decide)
theorem qL_cell_6 : ey F ini rt fin K0 K (decode cL_cell 6) 6 L (st) h cs ss = (lhas L 0 ∧ isRf (lgt L 0) ∧ K 7 L (lgt L 0 :: st) h cs ss) := by
  rw [dL_cell_6, ey_ok, nx_aload_n_3] <;> rfl
theorem qL_cell_7 : ey F ini rt fin K0 K (decode cL_cell 7) 7 L (st) h cs ss = (lhas L 1 ∧ isI (lgt L 1) ∧ K 8 L (lgt L 1 :: st) h cs ss) := by
  rw [dL_cell_7, ey_ok, nx_iload_n_1] <;> rfl
theorem qL_cell_8 : ey F ini rt fin K0 K (decode cL_cell 8) 8 L (.int i :: .ref a :: r) h cs ss = (isA (h.1 a) (fun k m => k = 0 ∧ vp_in i m) ∧ K 9 L (h.2 a i.toNatClampNeg :: r) h cs ss) := by
  rw [dL_cell_8, ey_ok, nx_iaload_57]
theorem qL_cell_9 : ey F ini rt fin K0 K (decode cL_cell 9) 9 L (st) h cs ss = (K 25 L st h cs ss) := by
  rw [dL_cell_9, ey_ok, nx_goto_29]
  exact and_l (by unfold jok; decide)
theorem qL_cell_12 : ey F ini rt fin K0 K (decode cL_cell 12) 12 L (st) h cs ss = (K0 12 L st h cs ss) := by
  rw [dL_cell_12, ey_ok, nx_ldc2_w_88]
theorem qL_cell_15 : ey F ini rt fin K0 K (decode cL_cell 15) 15 L (st) h cs ss = (lhas L 1 ∧ isI (lgt L 1) ∧ K 16 L (lgt L 1 :: st) h cs ss) := by
  rw [dL_cell_15, ey_ok, nx_iload_n_1] <;> rfl
theorem qL_cell_16 : ey F ini rt fin K0 K (decode cL_cell 16) 16 L (st) h cs ss = (K 19 L (.int 139 :: st) h cs ss) := by
  rw [dL_cell_16, ey_ok, nx_sipush_13] <;> rfl
theorem qL_cell_19 : ey F ini rt fin K0 K (decode cL_cell 19) 19 L (.int y :: .int x :: r) h cs ss = (K 20 L (.int (x + y) :: r) h cs ss) := by
  rw [dL_cell_19, ey_ok, nx_iadd_16]
theorem qL_cell_20 : ey F ini rt fin K0 K (decode cL_cell 20) 20 L (.int x :: r) h cs ss = (K 21 L (.long x.toInt64 :: r) h cs ss) := by
  rw [dL_cell_20, ey_ok, nx_i2l_24]
theorem qL_cell_21 : ey F ini rt fin K0 K (decode cL_cell 21) 21 L (.long ly :: .long lx :: r) h cs ss = (K 22 L (.long (lx * ly) :: r) h cs ss) := by
  rw [dL_cell_21, ey_ok, nx_lmul_85]
theorem qL_cell_22 : ey F ini rt fin K0 K (decode cL_cell 22) 22 L (st) h cs ss = (K 23 L (.int 4 :: st) h cs ss) := by
  rw [dL_cell_22, ey_ok, nx_iconst_11] <;> rfl
theorem qL_cell_23 : ey F ini rt fin K0 K (decode cL_cell 23) 23 L (.int y :: .long lx :: r) h cs ss = (K 24 L (.long (lx.toUInt64 >>> (y.toInt64.toUInt64 &&& Int64.toUInt64 63)).toInt64 :: r) h cs ss) := by
  rw [dL_cell_23, ey_ok, nx_lushr_86]
theorem qL_cell_24 : ey F ini rt fin K0 K (decode cL_cell 24) 24 L (.long lx :: r) h cs ss = (K 25 L (.int lx.toInt32 :: r) h cs ss) := by
  rw [dL_cell_24, ey_ok, nx_l2i_87]
theorem qL_cell_25 : ey F ini rt fin K0 K (decode cL_cell 25) 25 L ([.int x]) h cs ss = (rokI rt x ∧ fin (some (.int x)) h cs ss) := by
  rw [dL_cell_25, ey_ok, nx_ireturn_68]
theorem qL_some_0 : ey F ini rt fin K0 K (decode cL_some 0) 0 L (st) h cs ss = (lhas L 0 ∧ isI (lgt L 0) ∧ K 1 L (lgt L 0 :: st) h cs ss) := by
  rw [dL_some_0, ey_ok, nx_iload_n_1] <;> rfl
theorem qL_some_1 : ey F ini rt fin K0 K (decode cL_some 1) 1 L (st) h cs ss = (K 2 L (.int 2 :: st) h cs ss) := by
  rw [dL_some_1, ey_ok, nx_iconst_11] <;> rfl
theorem qL_some_2 : ey F ini rt fin K0 K (decode cL_some 2) 2 L (.int y :: .int x :: r) h cs ss = (K 3 L (.int (ius x y) :: r) h cs ss) := by
  rw [dL_some_2, ey_ok, nx_iushr_83]
theorem qL_some_3 : ey F ini rt fin K0 K (decode cL_some 3) 3 L (st) h cs ss = (lhas L 1 ∧ isI (lgt L 1) ∧ K 4 L (lgt L 1 :: st) h cs ss) := by
  rw [dL_some_3, ey_ok, nx_iload_n_1] <;> rfl
theorem qL_some_4 : ey F ini rt fin K0 K (decode cL_some 4) 4 L (.int y :: .int x :: r) h cs ss = (¬ y = 0 ∧ K 5 L (.int (x - x / y * y) :: r) h cs ss) := by
  rw [dL_some_4, ey_ok, nx_irem_81]
theorem qL_some_5 : ey F ini rt fin K0 K (decode cL_some 5) 5 L ([.int x]) h cs ss = (rokI rt x ∧ fin (some (.int x)) h cs ss) := by
  rw [dL_some_5, ey_ok, nx_ireturn_68]
theorem qL_key_0 : ey F ini rt fin K0 K (decode cL_key 0) 0 L (st) h cs ss = (K 2 L (.int 64 :: st) h cs ss) := by
  rw [dL_key_0, ey_ok, nx_bipush_12] <;> rfl
theorem qL_key_2 : ey F ini rt fin K0 K (decode cL_key 2) 2 L (st) h cs ss = (lhas L 0 ∧ isRf (lgt L 0) ∧ K 3 L (lgt L 0 :: st) h cs ss) := by
  rw [dL_key_2, ey_ok, nx_aload_n_3] <;> rfl
theorem qL_key_3 : ey F ini rt fin K0 K (decode cL_key 3) 3 L (st) h cs ss = (K 5 L (.int 40 :: st) h cs ss) := by
  rw [dL_key_3, ey_ok, nx_bipush_12] <;> rfl
theorem qL_key_5 : ey F ini rt fin K0 K (decode cL_key 5) 5 L (st) h cs ss = (lhas L 1 ∧ isI (lgt L 1) ∧ K 6 L (lgt L 1 :: st) h cs ss) := by
  rw [dL_key_5, ey_ok, nx_iload_n_1] <;> rfl
theorem qL_key_6 : ey F ini rt fin K0 K (decode cL_key 6) 6 L (.int y :: .int x :: r) h cs ss = (K 7 L (.int (x + y) :: r) h cs ss) := by
  rw [dL_key_6, ey_ok, nx_iadd_16]
theorem qL_key_7 : ey F ini rt fin K0 K (decode cL_key 7) 7 L (.int i :: .ref a :: r) h cs ss = (isA (h.1 a) (fun k m => k = 0 ∧ vp_in i m) ∧ K 8 L (h.2 a i.toNatClampNeg :: r) h cs ss) := by
  rw [dL_key_7, ey_ok, nx_iaload_57]
theorem qL_key_8 : ey F ini rt fin K0 K (decode cL_key 8) 8 L (.int y :: .int x :: r) h cs ss = (K 9 L (.int (x * y) :: r) h cs ss) := by
  rw [dL_key_8, ey_ok, nx_imul_18]
theorem qL_key_9 : ey F ini rt fin K0 K (decode cL_key 9) 9 L (st) h cs ss = (lhas L 1 ∧ isI (lgt L 1) ∧ K 10 L (lgt L 1 :: st) h cs ss) := by
  rw [dL_key_9, ey_ok, nx_iload_n_1] <;> rfl
theorem qL_key_10 : ey F ini rt fin K0 K (decode cL_key 10) 10 L (.int y :: .int x :: r) h cs ss = (K 11 L (.int (x + y) :: r) h cs ss) := by
  rw [dL_key_10, ey_ok, nx_iadd_16]
theorem qL_key_11 : ey F ini rt fin K0 K (decode cL_key 11) 11 L ([.int x]) h cs ss = (rokI rt x ∧ fin (some (.int x)) h cs ss) := by
  rw [dL_key_11, ey_ok, nx_ireturn_68]
theorem qL_ahead_0 : ey F ini rt fin K0 K (decode cL_ahead 0) 0 L (st) h cs ss = (K 1 L (.int (-1) :: st) h cs ss) := by
  rw [dL_ahead_0, ey_ok, nx_iconst_11] <;> rfl
theorem qL_ahead_1 : ey F ini rt fin K0 K (decode cL_ahead 1) 1 L (.int x :: r) h cs ss = (3 < L.length ∧ K 2 (L.set 3 (some (.int x))) r h cs ss) := by
  rw [dL_ahead_1, ey_ok, nx_istore_n_5] <;> rfl
theorem qL_ahead_2 : ey F ini rt fin K0 K (decode cL_ahead 2) 2 L (st) h cs ss = (K 3 L (.int 0 :: st) h cs ss) := by
  rw [dL_ahead_2, ey_ok, nx_iconst_11] <;> rfl
theorem qL_ahead_3 : ey F ini rt fin K0 K (decode cL_ahead 3) 3 L (.int x :: r) h cs ss = (4 < L.length ∧ K 5 (L.set 4 (some (.int x))) r h cs ss) := by
  rw [dL_ahead_3, ey_ok, nx_istore_4] <;> rfl
theorem qL_ahead_5 : ey F ini rt fin K0 K (decode cL_ahead 5) 5 L (st) h cs ss = (lhas L 4 ∧ isI (lgt L 4) ∧ K 7 L (lgt L 4 :: st) h cs ss) := by
  rw [dL_ahead_5, ey_ok, nx_iload_0] <;> rfl
theorem qL_ahead_7 : ey F ini rt fin K0 K (decode cL_ahead 7) 7 L (st) h cs ss = (lhas L 0 ∧ isRf (lgt L 0) ∧ K 8 L (lgt L 0 :: st) h cs ss) := by
  rw [dL_ahead_7, ey_ok, nx_aload_n_3] <;> rfl
theorem qL_ahead_8 : ey F ini rt fin K0 K (decode cL_ahead 8) 8 L (st) h cs ss = (K 9 L (.int 1 :: st) h cs ss) := by
  rw [dL_ahead_8, ey_ok, nx_iconst_11] <;> rfl
theorem qL_ahead_9 : ey F ini rt fin K0 K (decode cL_ahead 9) 9 L (.int i :: .ref a :: r) h cs ss = (isA (h.1 a) (fun k m => k = 0 ∧ vp_in i m) ∧ K 10 L (h.2 a i.toNatClampNeg :: r) h cs ss) := by
  rw [dL_ahead_9, ey_ok, nx_iaload_57]
theorem qL_ahead_10 : ey F ini rt fin K0 K (decode cL_ahead 10) 10 L (.int y :: .int x :: r) h cs ss = (if y ≤ x then K 86 L r h cs ss else K 13 L r h cs ss) := by
  rw [dL_ahead_10, ey_ok, nx_if_icmp_39]
  exact and_l (by unfold jok; decide)
theorem qL_ahead_13 : ey F ini rt fin K0 K (decode cL_ahead 13) 13 L (st) h cs ss = (lhas L 1 ∧ isRf (lgt L 1) ∧ K 14 L (lgt L 1 :: st) h cs ss) := by
  rw [dL_ahead_13, ey_ok, nx_aload_n_3] <;> rfl
theorem qL_ahead_14 : ey F ini rt fin K0 K (decode cL_ahead 14) 14 L (st) h cs ss = (K 16 L (.int 30 :: st) h cs ss) := by
  rw [dL_ahead_14, ey_ok, nx_bipush_12] <;> rfl
theorem qL_ahead_16 : ey F ini rt fin K0 K (decode cL_ahead 16) 16 L (st) h cs ss = (lhas L 4 ∧ isI (lgt L 4) ∧ K 18 L (lgt L 4 :: st) h cs ss) := by
  rw [dL_ahead_16, ey_ok, nx_iload_0] <;> rfl
theorem qL_ahead_18 : ey F ini rt fin K0 K (decode cL_ahead 18) 18 L (.int y :: .int x :: r) h cs ss = (K 19 L (.int (x + y) :: r) h cs ss) := by
  rw [dL_ahead_18, ey_ok, nx_iadd_16]
theorem qL_ahead_19 : ey F ini rt fin K0 K (decode cL_ahead 19) 19 L (.int i :: .ref a :: r) h cs ss = (isA (h.1 a) (fun k m => k = 0 ∧ vp_in i m) ∧ K 20 L (h.2 a i.toNatClampNeg :: r) h cs ss) := by
  rw [dL_ahead_19, ey_ok, nx_iaload_57]
theorem qL_ahead_20 : ey F ini rt fin K0 K (decode cL_ahead 20) 20 L (st) h cs ss = (lhas L 1 ∧ isRf (lgt L 1) ∧ K 21 L (lgt L 1 :: st) h cs ss) := by
  rw [dL_ahead_20, ey_ok, nx_aload_n_3] <;> rfl
theorem qL_ahead_21 : ey F ini rt fin K0 K (decode cL_ahead 21) 21 L (st) h cs ss = (K 23 L (.int 30 :: st) h cs ss) := by
  rw [dL_ahead_21, ey_ok, nx_bipush_12] <;> rfl
theorem qL_ahead_23 : ey F ini rt fin K0 K (decode cL_ahead 23) 23 L (st) h cs ss = (lhas L 2 ∧ isI (lgt L 2) ∧ K 24 L (lgt L 2 :: st) h cs ss) := by
  rw [dL_ahead_23, ey_ok, nx_iload_n_1] <;> rfl
theorem qL_ahead_24 : ey F ini rt fin K0 K (decode cL_ahead 24) 24 L (.int y :: .int x :: r) h cs ss = (K 25 L (.int (x + y) :: r) h cs ss) := by
  rw [dL_ahead_24, ey_ok, nx_iadd_16]
theorem qL_ahead_25 : ey F ini rt fin K0 K (decode cL_ahead 25) 25 L (.int i :: .ref a :: r) h cs ss = (isA (h.1 a) (fun k m => k = 0 ∧ vp_in i m) ∧ K 26 L (h.2 a i.toNatClampNeg :: r) h cs ss) := by
  rw [dL_ahead_25, ey_ok, nx_iaload_57]
theorem qL_ahead_26 : ey F ini rt fin K0 K (decode cL_ahead 26) 26 L (.int y :: .int x :: r) h cs ss = (if ¬ x = y then K 65 L r h cs ss else K 29 L r h cs ss) := by
  rw [dL_ahead_26, ey_ok, nx_if_icmp_37]
  exact and_l (by unfold jok; decide)
theorem qL_ahead_29 : ey F ini rt fin K0 K (decode cL_ahead 29) 29 L (st) h cs ss = (lhas L 1 ∧ isRf (lgt L 1) ∧ K 30 L (lgt L 1 :: st) h cs ss) := by
  rw [dL_ahead_29, ey_ok, nx_aload_n_3] <;> rfl
theorem qL_ahead_30 : ey F ini rt fin K0 K (decode cL_ahead 30) 30 L (st) h cs ss = (lhas L 4 ∧ isI (lgt L 4) ∧ K 32 L (lgt L 4 :: st) h cs ss) := by
  rw [dL_ahead_30, ey_ok, nx_iload_0] <;> rfl
theorem qL_ahead_32 : ey F ini rt fin K0 K (decode cL_ahead 32) 32 L (st) h cs ss = (K0 32 L st h cs ss) := by
  rw [dL_ahead_32, ey_ok, nx_invokestatic_73]
theorem qL_ahead_35 : ey F ini rt fin K0 K (decode cL_ahead 35) 35 L (st) h cs ss = (lhas L 1 ∧ isRf (lgt L 1) ∧ K 36 L (lgt L 1 :: st) h cs ss) := by
  rw [dL_ahead_35, ey_ok, nx_aload_n_3] <;> rfl
theorem qL_ahead_36 : ey F ini rt fin K0 K (decode cL_ahead 36) 36 L (st) h cs ss = (lhas L 2 ∧ isI (lgt L 2) ∧ K 37 L (lgt L 2 :: st) h cs ss) := by
  rw [dL_ahead_36, ey_ok, nx_iload_n_1] <;> rfl
theorem qL_ahead_37 : ey F ini rt fin K0 K (decode cL_ahead 37) 37 L (st) h cs ss = (K0 37 L st h cs ss) := by
  rw [dL_ahead_37, ey_ok, nx_invokestatic_73]
theorem qL_ahead_40 : ey F ini rt fin K0 K (decode cL_ahead 40) 40 L (.int y :: .int x :: r) h cs ss = (if y ≤ x then K 65 L r h cs ss else K 43 L r h cs ss) := by
  rw [dL_ahead_40, ey_ok, nx_if_icmp_39]
  exact and_l (by unfold jok; decide)
theorem qL_ahead_43 : ey F ini rt fin K0 K (decode cL_ahead 43) 43 L (st) h cs ss = (lhas L 3 ∧ isI (lgt L 3) ∧ K 44 L (lgt L 3 :: st) h cs ss) := by
  rw [dL_ahead_43, ey_ok, nx_iload_n_1] <;> rfl
theorem qL_ahead_44 : ey F ini rt fin K0 K (decode cL_ahead 44) 44 L (.int x :: r) h cs ss = (if x < 0 then K 61 L r h cs ss else K 47 L r h cs ss) := by
  rw [dL_ahead_44, ey_ok, nx_ifond_32]
  exact and_l (by unfold jok; decide)
theorem qL_ahead_47 : ey F ini rt fin K0 K (decode cL_ahead 47) 47 L (st) h cs ss = (lhas L 1 ∧ isRf (lgt L 1) ∧ K 48 L (lgt L 1 :: st) h cs ss) := by
  rw [dL_ahead_47, ey_ok, nx_aload_n_3] <;> rfl
theorem qL_ahead_48 : ey F ini rt fin K0 K (decode cL_ahead 48) 48 L (st) h cs ss = (lhas L 4 ∧ isI (lgt L 4) ∧ K 50 L (lgt L 4 :: st) h cs ss) := by
  rw [dL_ahead_48, ey_ok, nx_iload_0] <;> rfl
theorem qL_ahead_50 : ey F ini rt fin K0 K (decode cL_ahead 50) 50 L (st) h cs ss = (K0 50 L st h cs ss) := by
  rw [dL_ahead_50, ey_ok, nx_invokestatic_73]
theorem qL_ahead_53 : ey F ini rt fin K0 K (decode cL_ahead 53) 53 L (st) h cs ss = (lhas L 1 ∧ isRf (lgt L 1) ∧ K 54 L (lgt L 1 :: st) h cs ss) := by
  rw [dL_ahead_53, ey_ok, nx_aload_n_3] <;> rfl
theorem qL_ahead_54 : ey F ini rt fin K0 K (decode cL_ahead 54) 54 L (st) h cs ss = (lhas L 3 ∧ isI (lgt L 3) ∧ K 55 L (lgt L 3 :: st) h cs ss) := by
  rw [dL_ahead_54, ey_ok, nx_iload_n_1] <;> rfl
theorem qL_ahead_55 : ey F ini rt fin K0 K (decode cL_ahead 55) 55 L (st) h cs ss = (K0 55 L st h cs ss) := by
  rw [dL_ahead_55, ey_ok, nx_invokestatic_73]
theorem qL_ahead_58 : ey F ini rt fin K0 K (decode cL_ahead 58) 58 L (.int y :: .int x :: r) h cs ss = (if x ≤ y then K 65 L r h cs ss else K 61 L r h cs ss) := by
  rw [dL_ahead_58, ey_ok, nx_if_icmp_41]
  exact and_l (by unfold jok; decide)
theorem qL_ahead_61 : ey F ini rt fin K0 K (decode cL_ahead 61) 61 L (st) h cs ss = (K 62 L (.int 1 :: st) h cs ss) := by
  rw [dL_ahead_61, ey_ok, nx_iconst_11] <;> rfl
theorem qL_ahead_62 : ey F ini rt fin K0 K (decode cL_ahead 62) 62 L (st) h cs ss = (K 66 L st h cs ss) := by
  rw [dL_ahead_62, ey_ok, nx_goto_29]
  exact and_l (by unfold jok; decide)
theorem qL_ahead_65 : ey F ini rt fin K0 K (decode cL_ahead 65) 65 L (st) h cs ss = (K 66 L (.int 0 :: st) h cs ss) := by
  rw [dL_ahead_65, ey_ok, nx_iconst_11] <;> rfl
theorem qL_ahead_66 : ey F ini rt fin K0 K (decode cL_ahead 66) 66 L (.int x :: r) h cs ss = (5 < L.length ∧ K 68 (L.set 5 (some (.int x))) r h cs ss) := by
  rw [dL_ahead_66, ey_ok, nx_istore_4] <;> rfl
theorem qL_ahead_68 : ey F ini rt fin K0 K (decode cL_ahead 68) 68 L (st) h cs ss = (lhas L 5 ∧ isI (lgt L 5) ∧ K 70 L (lgt L 5 :: st) h cs ss) := by
  rw [dL_ahead_68, ey_ok, nx_iload_0] <;> rfl
theorem qL_ahead_70 : ey F ini rt fin K0 K (decode cL_ahead 70) 70 L (.int x :: r) h cs ss = (if x = 0 then K 78 L r h cs ss else K 73 L r h cs ss) := by
  rw [dL_ahead_70, ey_ok, nx_ifond_30]
  exact and_l (by unfold jok; decide)
theorem qL_ahead_73 : ey F ini rt fin K0 K (decode cL_ahead 73) 73 L (st) h cs ss = (lhas L 4 ∧ isI (lgt L 4) ∧ K 75 L (lgt L 4 :: st) h cs ss) := by
  rw [dL_ahead_73, ey_ok, nx_iload_0] <;> rfl
theorem qL_ahead_75 : ey F ini rt fin K0 K (decode cL_ahead 75) 75 L (st) h cs ss = (K 79 L st h cs ss) := by
  rw [dL_ahead_75, ey_ok, nx_goto_29]
  exact and_l (by unfold jok; decide)
theorem qL_ahead_78 : ey F ini rt fin K0 K (decode cL_ahead 78) 78 L (st) h cs ss = (lhas L 3 ∧ isI (lgt L 3) ∧ K 79 L (lgt L 3 :: st) h cs ss) := by
  rw [dL_ahead_78, ey_ok, nx_iload_n_1] <;> rfl
theorem qL_ahead_79 : ey F ini rt fin K0 K (decode cL_ahead 79) 79 L (.int x :: r) h cs ss = (3 < L.length ∧ K 80 (L.set 3 (some (.int x))) r h cs ss) := by
  rw [dL_ahead_79, ey_ok, nx_istore_n_5] <;> rfl
theorem qL_ahead_80 : ey F ini rt fin K0 K (decode cL_ahead 80) 80 L (st) h cs ss = (lhas L 4 ∧ isI (lgt L 4) ∧ K 83 (L.set 4 (some (inc (lgt L 4) 1))) st h cs ss) := by
  rw [dL_ahead_80, ey_ok, nx_iinc_10] <;> rfl
theorem qL_ahead_83 : ey F ini rt fin K0 K (decode cL_ahead 83) 83 L (st) h cs ss = (K 5 L st h cs ss) := by
  rw [dL_ahead_83, ey_ok, nx_goto_29]
  exact and_l (by unfold jok; decide)
theorem qL_ahead_86 : ey F ini rt fin K0 K (decode cL_ahead 86) 86 L (st) h cs ss = (lhas L 3 ∧ isI (lgt L 3) ∧ K 87 L (lgt L 3 :: st) h cs ss) := by
  rw [dL_ahead_86, ey_ok, nx_iload_n_1] <;> rfl
theorem qL_ahead_87 : ey F ini rt fin K0 K (decode cL_ahead 87) 87 L ([.int x]) h cs ss = (rokI rt x ∧ fin (some (.int x)) h cs ss) := by
  rw [dL_ahead_87, ey_ok, nx_ireturn_68]
theorem qL_broken_0 : ey F ini rt fin K0 K (decode cL_broken 0) 0 L (st) h cs ss = (lhas L 2 ∧ isRf (lgt L 2) ∧ K 1 L (lgt L 2 :: st) h cs ss) := by
  rw [dL_broken_0, ey_ok, nx_aload_n_3] <;> rfl
theorem qL_broken_1 : ey F ini rt fin K0 K (decode cL_broken 1) 1 L (st) h cs ss = (K 2 L (.int 4 :: st) h cs ss) := by
  rw [dL_broken_1, ey_ok, nx_iconst_11] <;> rfl
theorem qL_broken_2 : ey F ini rt fin K0 K (decode cL_broken 2) 2 L (st) h cs ss = (lhas L 4 ∧ isI (lgt L 4) ∧ K 4 L (lgt L 4 :: st) h cs ss) := by
  rw [dL_broken_2, ey_ok, nx_iload_0] <;> rfl
theorem qL_broken_4 : ey F ini rt fin K0 K (decode cL_broken 4) 4 L (.int y :: .int x :: r) h cs ss = (K 5 L (.int (x + y) :: r) h cs ss) := by
  rw [dL_broken_4, ey_ok, nx_iadd_16]
theorem qL_broken_5 : ey F ini rt fin K0 K (decode cL_broken 5) 5 L (.int i :: .ref a :: r) h cs ss = (isA (h.1 a) (fun k m => k = 0 ∧ vp_in i m) ∧ K 6 L (h.2 a i.toNatClampNeg :: r) h cs ss) := by
  rw [dL_broken_5, ey_ok, nx_iaload_57]
theorem qL_broken_6 : ey F ini rt fin K0 K (decode cL_broken 6) 6 L (.int x :: r) h cs ss = (5 < L.length ∧ K 8 (L.set 5 (some (.int x))) r h cs ss) := by
  rw [dL_broken_6, ey_ok, nx_istore_4] <;> rfl
theorem qL_broken_8 : ey F ini rt fin K0 K (decode cL_broken 8) 8 L (st) h cs ss = (lhas L 1 ∧ isRf (lgt L 1) ∧ K 9 L (lgt L 1 :: st) h cs ss) := by
  rw [dL_broken_8, ey_ok, nx_aload_n_3] <;> rfl
theorem qL_broken_9 : ey F ini rt fin K0 K (decode cL_broken 9) 9 L (st) h cs ss = (K 11 L (.int 50 :: st) h cs ss) := by
  rw [dL_broken_9, ey_ok, nx_bipush_12] <;> rfl
theorem qL_broken_11 : ey F ini rt fin K0 K (decode cL_broken 11) 11 L (st) h cs ss = (lhas L 3 ∧ isI (lgt L 3) ∧ K 12 L (lgt L 3 :: st) h cs ss) := by
  rw [dL_broken_11, ey_ok, nx_iload_n_1] <;> rfl
theorem qL_broken_12 : ey F ini rt fin K0 K (decode cL_broken 12) 12 L (.int y :: .int x :: r) h cs ss = (K 13 L (.int (x + y) :: r) h cs ss) := by
  rw [dL_broken_12, ey_ok, nx_iadd_16]
theorem qL_broken_13 : ey F ini rt fin K0 K (decode cL_broken 13) 13 L (.int i :: .ref a :: r) h cs ss = (isA (h.1 a) (fun k m => k = 0 ∧ vp_in i m) ∧ K 14 L (h.2 a i.toNatClampNeg :: r) h cs ss) := by
  rw [dL_broken_13, ey_ok, nx_iaload_57]
theorem qL_broken_14 : ey F ini rt fin K0 K (decode cL_broken 14) 14 L (st) h cs ss = (lhas L 1 ∧ isRf (lgt L 1) ∧ K 15 L (lgt L 1 :: st) h cs ss) := by
  rw [dL_broken_14, ey_ok, nx_aload_n_3] <;> rfl
theorem qL_broken_15 : ey F ini rt fin K0 K (decode cL_broken 15) 15 L (st) h cs ss = (K 17 L (.int 40 :: st) h cs ss) := by
  rw [dL_broken_15, ey_ok, nx_bipush_12] <;> rfl
theorem qL_broken_17 : ey F ini rt fin K0 K (decode cL_broken 17) 17 L (st) h cs ss = (lhas L 3 ∧ isI (lgt L 3) ∧ K 18 L (lgt L 3 :: st) h cs ss) := by
  rw [dL_broken_17, ey_ok, nx_iload_n_1] <;> rfl
theorem qL_broken_18 : ey F ini rt fin K0 K (decode cL_broken 18) 18 L (.int y :: .int x :: r) h cs ss = (K 19 L (.int (x + y) :: r) h cs ss) := by
  rw [dL_broken_18, ey_ok, nx_iadd_16]
theorem qL_broken_19 : ey F ini rt fin K0 K (decode cL_broken 19) 19 L (.int i :: .ref a :: r) h cs ss = (isA (h.1 a) (fun k m => k = 0 ∧ vp_in i m) ∧ K 20 L (h.2 a i.toNatClampNeg :: r) h cs ss) := by
  rw [dL_broken_19, ey_ok, nx_iaload_57]
theorem qL_broken_20 : ey F ini rt fin K0 K (decode cL_broken 20) 20 L (.int y :: .int x :: r) h cs ss = (K 21 L (.int (x - y) :: r) h cs ss) := by
  rw [dL_broken_20, ey_ok, nx_isub_17]
theorem qL_broken_21 : ey F ini rt fin K0 K (decode cL_broken 21) 21 L (.int x :: r) h cs ss = (6 < L.length ∧ K 23 (L.set 6 (some (.int x))) r h cs ss) := by
  rw [dL_broken_21, ey_ok, nx_istore_4] <;> rfl
theorem qL_broken_23 : ey F ini rt fin K0 K (decode cL_broken 23) 23 L (st) h cs ss = (lhas L 1 ∧ isRf (lgt L 1) ∧ K 24 L (lgt L 1 :: st) h cs ss) := by
  rw [dL_broken_23, ey_ok, nx_aload_n_3] <;> rfl
theorem qL_broken_24 : ey F ini rt fin K0 K (decode cL_broken 24) 24 L (st) h cs ss = (K 26 L (.int 30 :: st) h cs ss) := by
  rw [dL_broken_24, ey_ok, nx_bipush_12] <;> rfl
theorem qL_broken_26 : ey F ini rt fin K0 K (decode cL_broken 26) 26 L (st) h cs ss = (lhas L 3 ∧ isI (lgt L 3) ∧ K 27 L (lgt L 3 :: st) h cs ss) := by
  rw [dL_broken_26, ey_ok, nx_iload_n_1] <;> rfl
theorem qL_broken_27 : ey F ini rt fin K0 K (decode cL_broken 27) 27 L (.int y :: .int x :: r) h cs ss = (K 28 L (.int (x + y) :: r) h cs ss) := by
  rw [dL_broken_27, ey_ok, nx_iadd_16]
theorem qL_broken_28 : ey F ini rt fin K0 K (decode cL_broken 28) 28 L (.int i :: .ref a :: r) h cs ss = (isA (h.1 a) (fun k m => k = 0 ∧ vp_in i m) ∧ K 29 L (h.2 a i.toNatClampNeg :: r) h cs ss) := by
  rw [dL_broken_28, ey_ok, nx_iaload_57]
theorem qL_broken_29 : ey F ini rt fin K0 K (decode cL_broken 29) 29 L (.int x :: r) h cs ss = (if x < 0 then K 69 L r h cs ss else K 32 L r h cs ss) := by
  rw [dL_broken_29, ey_ok, nx_ifond_32]
  exact and_l (by unfold jok; decide)
theorem qL_broken_32 : ey F ini rt fin K0 K (decode cL_broken 32) 32 L (st) h cs ss = (lhas L 2 ∧ isRf (lgt L 2) ∧ K 33 L (lgt L 2 :: st) h cs ss) := by
  rw [dL_broken_32, ey_ok, nx_aload_n_3] <;> rfl
theorem qL_broken_33 : ey F ini rt fin K0 K (decode cL_broken 33) 33 L (st) h cs ss = (K 35 L (.int 16 :: st) h cs ss) := by
  rw [dL_broken_33, ey_ok, nx_bipush_12] <;> rfl
theorem qL_broken_35 : ey F ini rt fin K0 K (decode cL_broken 35) 35 L (st) h cs ss = (lhas L 4 ∧ isI (lgt L 4) ∧ K 37 L (lgt L 4 :: st) h cs ss) := by
  rw [dL_broken_35, ey_ok, nx_iload_0] <;> rfl
theorem qL_broken_37 : ey F ini rt fin K0 K (decode cL_broken 37) 37 L (.int y :: .int x :: r) h cs ss = (K 38 L (.int (x + y) :: r) h cs ss) := by
  rw [dL_broken_37, ey_ok, nx_iadd_16]
theorem qL_broken_38 : ey F ini rt fin K0 K (decode cL_broken 38) 38 L (.int i :: .ref a :: r) h cs ss = (isA (h.1 a) (fun k m => k = 0 ∧ vp_in i m) ∧ K 39 L (h.2 a i.toNatClampNeg :: r) h cs ss) := by
  rw [dL_broken_38, ey_ok, nx_iaload_57]
theorem qL_broken_39 : ey F ini rt fin K0 K (decode cL_broken 39) 39 L (st) h cs ss = (K 40 L (.int 1 :: st) h cs ss) := by
  rw [dL_broken_39, ey_ok, nx_iconst_11] <;> rfl
theorem qL_broken_40 : ey F ini rt fin K0 K (decode cL_broken 40) 40 L (.int y :: .int x :: r) h cs ss = (if x = y then K 69 L r h cs ss else K 43 L r h cs ss) := by
  rw [dL_broken_40, ey_ok, nx_if_icmp_36]
  exact and_l (by unfold jok; decide)
theorem qL_broken_43 : ey F ini rt fin K0 K (decode cL_broken 43) 43 L (st) h cs ss = (lhas L 2 ∧ isRf (lgt L 2) ∧ K 44 L (lgt L 2 :: st) h cs ss) := by
  rw [dL_broken_43, ey_ok, nx_aload_n_3] <;> rfl
theorem qL_broken_44 : ey F ini rt fin K0 K (decode cL_broken 44) 44 L (st) h cs ss = (K 46 L (.int 8 :: st) h cs ss) := by
  rw [dL_broken_44, ey_ok, nx_bipush_12] <;> rfl
theorem qL_broken_46 : ey F ini rt fin K0 K (decode cL_broken 46) 46 L (st) h cs ss = (lhas L 4 ∧ isI (lgt L 4) ∧ K 48 L (lgt L 4 :: st) h cs ss) := by
  rw [dL_broken_46, ey_ok, nx_iload_0] <;> rfl
theorem qL_broken_48 : ey F ini rt fin K0 K (decode cL_broken 48) 48 L (.int y :: .int x :: r) h cs ss = (K 49 L (.int (x + y) :: r) h cs ss) := by
  rw [dL_broken_48, ey_ok, nx_iadd_16]
theorem qL_broken_49 : ey F ini rt fin K0 K (decode cL_broken 49) 49 L (.int i :: .ref a :: r) h cs ss = (isA (h.1 a) (fun k m => k = 0 ∧ vp_in i m) ∧ K 50 L (h.2 a i.toNatClampNeg :: r) h cs ss) := by
  rw [dL_broken_49, ey_ok, nx_iaload_57]
theorem qL_broken_50 : ey F ini rt fin K0 K (decode cL_broken 50) 50 L (.int x :: r) h cs ss = (if x < 0 then K 71 L r h cs ss else K 53 L r h cs ss) := by
  rw [dL_broken_50, ey_ok, nx_ifond_32]
  exact and_l (by unfold jok; decide)
theorem qL_broken_53 : ey F ini rt fin K0 K (decode cL_broken 53) 53 L (st) h cs ss = (lhas L 2 ∧ isRf (lgt L 2) ∧ K 54 L (lgt L 2 :: st) h cs ss) := by
  rw [dL_broken_53, ey_ok, nx_aload_n_3] <;> rfl
theorem qL_broken_54 : ey F ini rt fin K0 K (decode cL_broken 54) 54 L (st) h cs ss = (K 56 L (.int 8 :: st) h cs ss) := by
  rw [dL_broken_54, ey_ok, nx_bipush_12] <;> rfl
theorem qL_broken_56 : ey F ini rt fin K0 K (decode cL_broken 56) 56 L (st) h cs ss = (lhas L 4 ∧ isI (lgt L 4) ∧ K 58 L (lgt L 4 :: st) h cs ss) := by
  rw [dL_broken_56, ey_ok, nx_iload_0] <;> rfl
theorem qL_broken_58 : ey F ini rt fin K0 K (decode cL_broken 58) 58 L (.int y :: .int x :: r) h cs ss = (K 59 L (.int (x + y) :: r) h cs ss) := by
  rw [dL_broken_58, ey_ok, nx_iadd_16]
theorem qL_broken_59 : ey F ini rt fin K0 K (decode cL_broken 59) 59 L (.int i :: .ref a :: r) h cs ss = (isA (h.1 a) (fun k m => k = 0 ∧ vp_in i m) ∧ K 60 L (h.2 a i.toNatClampNeg :: r) h cs ss) := by
  rw [dL_broken_59, ey_ok, nx_iaload_57]
theorem qL_broken_60 : ey F ini rt fin K0 K (decode cL_broken 60) 60 L (st) h cs ss = (lhas L 1 ∧ isRf (lgt L 1) ∧ K 61 L (lgt L 1 :: st) h cs ss) := by
  rw [dL_broken_60, ey_ok, nx_aload_n_3] <;> rfl
theorem qL_broken_61 : ey F ini rt fin K0 K (decode cL_broken 61) 61 L (st) h cs ss = (K 63 L (.int 20 :: st) h cs ss) := by
  rw [dL_broken_61, ey_ok, nx_bipush_12] <;> rfl
theorem qL_broken_63 : ey F ini rt fin K0 K (decode cL_broken 63) 63 L (st) h cs ss = (lhas L 3 ∧ isI (lgt L 3) ∧ K 64 L (lgt L 3 :: st) h cs ss) := by
  rw [dL_broken_63, ey_ok, nx_iload_n_1] <;> rfl
theorem qL_broken_64 : ey F ini rt fin K0 K (decode cL_broken 64) 64 L (.int y :: .int x :: r) h cs ss = (K 65 L (.int (x + y) :: r) h cs ss) := by
  rw [dL_broken_64, ey_ok, nx_iadd_16]
theorem qL_broken_65 : ey F ini rt fin K0 K (decode cL_broken 65) 65 L (.int i :: .ref a :: r) h cs ss = (isA (h.1 a) (fun k m => k = 0 ∧ vp_in i m) ∧ K 66 L (h.2 a i.toNatClampNeg :: r) h cs ss) := by
  rw [dL_broken_65, ey_ok, nx_iaload_57]
theorem qL_broken_66 : ey F ini rt fin K0 K (decode cL_broken 66) 66 L (.int y :: .int x :: r) h cs ss = (if x = y then K 71 L r h cs ss else K 69 L r h cs ss) := by
  rw [dL_broken_66, ey_ok, nx_if_icmp_36]
  exact and_l (by unfold jok; decide)
theorem qL_broken_69 : ey F ini rt fin K0 K (decode cL_broken 69) 69 L (st) h cs ss = (K 70 L (.int 0 :: st) h cs ss) := by
  rw [dL_broken_69, ey_ok, nx_iconst_11] <;> rfl
theorem qL_broken_70 : ey F ini rt fin K0 K (decode cL_broken 70) 70 L ([.int x]) h cs ss = (rokI rt x ∧ fin (some (.int x)) h cs ss) := by
  rw [dL_broken_70, ey_ok, nx_ireturn_68]
theorem qL_broken_71 : ey F ini rt fin K0 K (decode cL_broken 71) 71 L (st) h cs ss = (lhas L 2 ∧ isRf (lgt L 2) ∧ K 72 L (lgt L 2 :: st) h cs ss) := by
  rw [dL_broken_71, ey_ok, nx_aload_n_3] <;> rfl
theorem qL_broken_72 : ey F ini rt fin K0 K (decode cL_broken 72) 72 L (st) h cs ss = (lhas L 4 ∧ isI (lgt L 4) ∧ K 74 L (lgt L 4 :: st) h cs ss) := by
  rw [dL_broken_72, ey_ok, nx_iload_0] <;> rfl
theorem qL_broken_74 : ey F ini rt fin K0 K (decode cL_broken 74) 74 L (.int i :: .ref a :: r) h cs ss = (isA (h.1 a) (fun k m => k = 0 ∧ vp_in i m) ∧ K 75 L (h.2 a i.toNatClampNeg :: r) h cs ss) := by
  rw [dL_broken_74, ey_ok, nx_iaload_57]
theorem qL_broken_75 : ey F ini rt fin K0 K (decode cL_broken 75) 75 L (.int x :: r) h cs ss = (if ¬ x = 0 then K 116 L r h cs ss else K 78 L r h cs ss) := by
  rw [dL_broken_75, ey_ok, nx_ifond_31]
  exact and_l (by unfold jok; decide)
theorem qL_broken_78 : ey F ini rt fin K0 K (decode cL_broken 78) 78 L (st) h cs ss = (lhas L 0 ∧ isRf (lgt L 0) ∧ K 79 L (lgt L 0 :: st) h cs ss) := by
  rw [dL_broken_78, ey_ok, nx_aload_n_3] <;> rfl
theorem qL_broken_79 : ey F ini rt fin K0 K (decode cL_broken 79) 79 L (st) h cs ss = (lhas L 1 ∧ isRf (lgt L 1) ∧ K 80 L (lgt L 1 :: st) h cs ss) := by
  rw [dL_broken_79, ey_ok, nx_aload_n_3] <;> rfl
theorem qL_broken_80 : ey F ini rt fin K0 K (decode cL_broken 80) 80 L (st) h cs ss = (lhas L 3 ∧ isI (lgt L 3) ∧ K 81 L (lgt L 3 :: st) h cs ss) := by
  rw [dL_broken_80, ey_ok, nx_iload_n_1] <;> rfl
theorem qL_broken_81 : ey F ini rt fin K0 K (decode cL_broken 81) 81 L (st) h cs ss = (K0 81 L st h cs ss) := by
  rw [dL_broken_81, ey_ok, nx_invokestatic_73]
theorem qL_broken_84 : ey F ini rt fin K0 K (decode cL_broken 84) 84 L (.int x :: r) h cs ss = (7 < L.length ∧ K 86 (L.set 7 (some (.int x))) r h cs ss) := by
  rw [dL_broken_84, ey_ok, nx_istore_4] <;> rfl
theorem qL_broken_86 : ey F ini rt fin K0 K (decode cL_broken 86) 86 L (st) h cs ss = (lhas L 7 ∧ isI (lgt L 7) ∧ K 88 L (lgt L 7 :: st) h cs ss) := by
  rw [dL_broken_86, ey_ok, nx_iload_0] <;> rfl
theorem qL_broken_88 : ey F ini rt fin K0 K (decode cL_broken 88) 88 L (.int x :: r) h cs ss = (if x < 0 then K 114 L r h cs ss else K 91 L r h cs ss) := by
  rw [dL_broken_88, ey_ok, nx_ifond_32]
  exact and_l (by unfold jok; decide)
theorem qL_broken_91 : ey F ini rt fin K0 K (decode cL_broken 91) 91 L (st) h cs ss = (lhas L 1 ∧ isRf (lgt L 1) ∧ K 92 L (lgt L 1 :: st) h cs ss) := by
  rw [dL_broken_91, ey_ok, nx_aload_n_3] <;> rfl
theorem qL_broken_92 : ey F ini rt fin K0 K (decode cL_broken 92) 92 L (st) h cs ss = (K 94 L (.int 40 :: st) h cs ss) := by
  rw [dL_broken_92, ey_ok, nx_bipush_12] <;> rfl
theorem qL_broken_94 : ey F ini rt fin K0 K (decode cL_broken 94) 94 L (st) h cs ss = (lhas L 3 ∧ isI (lgt L 3) ∧ K 95 L (lgt L 3 :: st) h cs ss) := by
  rw [dL_broken_94, ey_ok, nx_iload_n_1] <;> rfl
theorem qL_broken_95 : ey F ini rt fin K0 K (decode cL_broken 95) 95 L (.int y :: .int x :: r) h cs ss = (K 96 L (.int (x + y) :: r) h cs ss) := by
  rw [dL_broken_95, ey_ok, nx_iadd_16]
theorem qL_broken_96 : ey F ini rt fin K0 K (decode cL_broken 96) 96 L (.int i :: .ref a :: r) h cs ss = (isA (h.1 a) (fun k m => k = 0 ∧ vp_in i m) ∧ K 97 L (h.2 a i.toNatClampNeg :: r) h cs ss) := by
  rw [dL_broken_96, ey_ok, nx_iaload_57]
theorem qL_broken_97 : ey F ini rt fin K0 K (decode cL_broken 97) 97 L (st) h cs ss = (lhas L 1 ∧ isRf (lgt L 1) ∧ K 98 L (lgt L 1 :: st) h cs ss) := by
  rw [dL_broken_97, ey_ok, nx_aload_n_3] <;> rfl
theorem qL_broken_98 : ey F ini rt fin K0 K (decode cL_broken 98) 98 L (st) h cs ss = (K 100 L (.int 50 :: st) h cs ss) := by
  rw [dL_broken_98, ey_ok, nx_bipush_12] <;> rfl
theorem qL_broken_100 : ey F ini rt fin K0 K (decode cL_broken 100) 100 L (st) h cs ss = (lhas L 7 ∧ isI (lgt L 7) ∧ K 102 L (lgt L 7 :: st) h cs ss) := by
  rw [dL_broken_100, ey_ok, nx_iload_0] <;> rfl
theorem qL_broken_102 : ey F ini rt fin K0 K (decode cL_broken 102) 102 L (.int y :: .int x :: r) h cs ss = (K 103 L (.int (x + y) :: r) h cs ss) := by
  rw [dL_broken_102, ey_ok, nx_iadd_16]
theorem qL_broken_103 : ey F ini rt fin K0 K (decode cL_broken 103) 103 L (.int i :: .ref a :: r) h cs ss = (isA (h.1 a) (fun k m => k = 0 ∧ vp_in i m) ∧ K 104 L (h.2 a i.toNatClampNeg :: r) h cs ss) := by
  rw [dL_broken_103, ey_ok, nx_iaload_57]
theorem qL_broken_104 : ey F ini rt fin K0 K (decode cL_broken 104) 104 L (.int y :: .int x :: r) h cs ss = (K 105 L (.int (x - y) :: r) h cs ss) := by
  rw [dL_broken_104, ey_ok, nx_isub_17]
theorem qL_broken_105 : ey F ini rt fin K0 K (decode cL_broken 105) 105 L (st) h cs ss = (lhas L 5 ∧ isI (lgt L 5) ∧ K 107 L (lgt L 5 :: st) h cs ss) := by
  rw [dL_broken_105, ey_ok, nx_iload_0] <;> rfl
theorem qL_broken_107 : ey F ini rt fin K0 K (decode cL_broken 107) 107 L (.int y :: .int x :: r) h cs ss = (if y ≤ x then K 114 L r h cs ss else K 110 L r h cs ss) := by
  rw [dL_broken_107, ey_ok, nx_if_icmp_39]
  exact and_l (by unfold jok; decide)
theorem qL_broken_110 : ey F ini rt fin K0 K (decode cL_broken 110) 110 L (st) h cs ss = (K 111 L (.int 1 :: st) h cs ss) := by
  rw [dL_broken_110, ey_ok, nx_iconst_11] <;> rfl
theorem qL_broken_111 : ey F ini rt fin K0 K (decode cL_broken 111) 111 L (st) h cs ss = (K 115 L st h cs ss) := by
  rw [dL_broken_111, ey_ok, nx_goto_29]
  exact and_l (by unfold jok; decide)
theorem qL_broken_114 : ey F ini rt fin K0 K (decode cL_broken 114) 114 L (st) h cs ss = (K 115 L (.int 0 :: st) h cs ss) := by
  rw [dL_broken_114, ey_ok, nx_iconst_11] <;> rfl
theorem qL_broken_115 : ey F ini rt fin K0 K (decode cL_broken 115) 115 L ([.int x]) h cs ss = (rokI rt x ∧ fin (some (.int x)) h cs ss) := by
  rw [dL_broken_115, ey_ok, nx_ireturn_68]
theorem qL_broken_116 : ey F ini rt fin K0 K (decode cL_broken 116) 116 L (st) h cs ss = (lhas L 2 ∧ isRf (lgt L 2) ∧ K 117 L (lgt L 2 :: st) h cs ss) := by
  rw [dL_broken_116, ey_ok, nx_aload_n_3] <;> rfl
theorem qL_broken_117 : ey F ini rt fin K0 K (decode cL_broken 117) 117 L (st) h cs ss = (lhas L 4 ∧ isI (lgt L 4) ∧ K 119 L (lgt L 4 :: st) h cs ss) := by
  rw [dL_broken_117, ey_ok, nx_iload_0] <;> rfl
theorem qL_broken_119 : ey F ini rt fin K0 K (decode cL_broken 119) 119 L (.int i :: .ref a :: r) h cs ss = (isA (h.1 a) (fun k m => k = 0 ∧ vp_in i m) ∧ K 120 L (h.2 a i.toNatClampNeg :: r) h cs ss) := by
  rw [dL_broken_119, ey_ok, nx_iaload_57]
theorem qL_broken_120 : ey F ini rt fin K0 K (decode cL_broken 120) 120 L (st) h cs ss = (K 121 L (.int 1 :: st) h cs ss) := by
  rw [dL_broken_120, ey_ok, nx_iconst_11] <;> rfl
theorem qL_broken_121 : ey F ini rt fin K0 K (decode cL_broken 121) 121 L (.int y :: .int x :: r) h cs ss = (if ¬ x = y then K 214 L r h cs ss else K 124 L r h cs ss) := by
  rw [dL_broken_121, ey_ok, nx_if_icmp_37]
  exact and_l (by unfold jok; decide)
theorem qL_broken_124 : ey F ini rt fin K0 K (decode cL_broken 124) 124 L (st) h cs ss = (lhas L 6 ∧ isI (lgt L 6) ∧ K 126 L (lgt L 6 :: st) h cs ss) := by
  rw [dL_broken_124, ey_ok, nx_iload_0] <;> rfl
theorem qL_broken_126 : ey F ini rt fin K0 K (decode cL_broken 126) 126 L (.int x :: r) h cs ss = (7 < L.length ∧ K 128 (L.set 7 (some (.int x))) r h cs ss) := by
  rw [dL_broken_126, ey_ok, nx_istore_4] <;> rfl
theorem qL_broken_128 : ey F ini rt fin K0 K (decode cL_broken 128) 128 L (st) h cs ss = (lhas L 0 ∧ isRf (lgt L 0) ∧ K 129 L (lgt L 0 :: st) h cs ss) := by
  rw [dL_broken_128, ey_ok, nx_aload_n_3] <;> rfl
theorem qL_broken_129 : ey F ini rt fin K0 K (decode cL_broken 129) 129 L (st) h cs ss = (lhas L 1 ∧ isRf (lgt L 1) ∧ K 130 L (lgt L 1 :: st) h cs ss) := by
  rw [dL_broken_129, ey_ok, nx_aload_n_3] <;> rfl
theorem qL_broken_130 : ey F ini rt fin K0 K (decode cL_broken 130) 130 L (st) h cs ss = (lhas L 3 ∧ isI (lgt L 3) ∧ K 131 L (lgt L 3 :: st) h cs ss) := by
  rw [dL_broken_130, ey_ok, nx_iload_n_1] <;> rfl
theorem qL_broken_131 : ey F ini rt fin K0 K (decode cL_broken 131) 131 L (st) h cs ss = (K0 131 L st h cs ss) := by
  rw [dL_broken_131, ey_ok, nx_invokestatic_73]
theorem qL_broken_134 : ey F ini rt fin K0 K (decode cL_broken 134) 134 L (.int x :: r) h cs ss = (8 < L.length ∧ K 136 (L.set 8 (some (.int x))) r h cs ss) := by
  rw [dL_broken_134, ey_ok, nx_istore_4] <;> rfl
theorem qL_broken_136 : ey F ini rt fin K0 K (decode cL_broken 136) 136 L (st) h cs ss = (lhas L 8 ∧ isI (lgt L 8) ∧ K 138 L (lgt L 8 :: st) h cs ss) := by
  rw [dL_broken_136, ey_ok, nx_iload_0] <;> rfl
theorem qL_broken_138 : ey F ini rt fin K0 K (decode cL_broken 138) 138 L (.int x :: r) h cs ss = (if x < 0 then K 201 L r h cs ss else K 141 L r h cs ss) := by
  rw [dL_broken_138, ey_ok, nx_ifond_32]
  exact and_l (by unfold jok; decide)
theorem qL_broken_141 : ey F ini rt fin K0 K (decode cL_broken 141) 141 L (st) h cs ss = (lhas L 7 ∧ isI (lgt L 7) ∧ K 143 L (lgt L 7 :: st) h cs ss) := by
  rw [dL_broken_141, ey_ok, nx_iload_0] <;> rfl
theorem qL_broken_143 : ey F ini rt fin K0 K (decode cL_broken 143) 143 L (st) h cs ss = (lhas L 1 ∧ isRf (lgt L 1) ∧ K 144 L (lgt L 1 :: st) h cs ss) := by
  rw [dL_broken_143, ey_ok, nx_aload_n_3] <;> rfl
theorem qL_broken_144 : ey F ini rt fin K0 K (decode cL_broken 144) 144 L (st) h cs ss = (K 146 L (.int 40 :: st) h cs ss) := by
  rw [dL_broken_144, ey_ok, nx_bipush_12] <;> rfl
theorem qL_broken_146 : ey F ini rt fin K0 K (decode cL_broken 146) 146 L (st) h cs ss = (lhas L 8 ∧ isI (lgt L 8) ∧ K 148 L (lgt L 8 :: st) h cs ss) := by
  rw [dL_broken_146, ey_ok, nx_iload_0] <;> rfl
theorem qL_broken_148 : ey F ini rt fin K0 K (decode cL_broken 148) 148 L (.int y :: .int x :: r) h cs ss = (K 149 L (.int (x + y) :: r) h cs ss) := by
  rw [dL_broken_148, ey_ok, nx_iadd_16]
theorem qL_broken_149 : ey F ini rt fin K0 K (decode cL_broken 149) 149 L (.int i :: .ref a :: r) h cs ss = (isA (h.1 a) (fun k m => k = 0 ∧ vp_in i m) ∧ K 150 L (h.2 a i.toNatClampNeg :: r) h cs ss) := by
  rw [dL_broken_149, ey_ok, nx_iaload_57]
theorem qL_broken_150 : ey F ini rt fin K0 K (decode cL_broken 150) 150 L (st) h cs ss = (K 153 L (.int 168 :: st) h cs ss) := by
  rw [dL_broken_150, ey_ok, nx_sipush_13] <;> rfl
theorem qL_broken_153 : ey F ini rt fin K0 K (decode cL_broken 153) 153 L (.int y :: .int x :: r) h cs ss = (¬ y = 0 ∧ K 154 L (.int (x / y) :: r) h cs ss) := by
  rw [dL_broken_153, ey_ok, nx_idiv_23]
theorem qL_broken_154 : ey F ini rt fin K0 K (decode cL_broken 154) 154 L (st) h cs ss = (lhas L 1 ∧ isRf (lgt L 1) ∧ K 155 L (lgt L 1 :: st) h cs ss) := by
  rw [dL_broken_154, ey_ok, nx_aload_n_3] <;> rfl
theorem qL_broken_155 : ey F ini rt fin K0 K (decode cL_broken 155) 155 L (st) h cs ss = (K 157 L (.int 40 :: st) h cs ss) := by
  rw [dL_broken_155, ey_ok, nx_bipush_12] <;> rfl
theorem qL_broken_157 : ey F ini rt fin K0 K (decode cL_broken 157) 157 L (st) h cs ss = (lhas L 3 ∧ isI (lgt L 3) ∧ K 158 L (lgt L 3 :: st) h cs ss) := by
  rw [dL_broken_157, ey_ok, nx_iload_n_1] <;> rfl
theorem qL_broken_158 : ey F ini rt fin K0 K (decode cL_broken 158) 158 L (.int y :: .int x :: r) h cs ss = (K 159 L (.int (x + y) :: r) h cs ss) := by
  rw [dL_broken_158, ey_ok, nx_iadd_16]
theorem qL_broken_159 : ey F ini rt fin K0 K (decode cL_broken 159) 159 L (.int i :: .ref a :: r) h cs ss = (isA (h.1 a) (fun k m => k = 0 ∧ vp_in i m) ∧ K 160 L (h.2 a i.toNatClampNeg :: r) h cs ss) := by
  rw [dL_broken_159, ey_ok, nx_iaload_57]
theorem qL_broken_160 : ey F ini rt fin K0 K (decode cL_broken 160) 160 L (st) h cs ss = (K 163 L (.int 168 :: st) h cs ss) := by
  rw [dL_broken_160, ey_ok, nx_sipush_13] <;> rfl
theorem qL_broken_163 : ey F ini rt fin K0 K (decode cL_broken 163) 163 L (.int y :: .int x :: r) h cs ss = (¬ y = 0 ∧ K 164 L (.int (x / y) :: r) h cs ss) := by
  rw [dL_broken_163, ey_ok, nx_idiv_23]
theorem qL_broken_164 : ey F ini rt fin K0 K (decode cL_broken 164) 164 L (.int y :: .int x :: r) h cs ss = (if ¬ x = y then K 185 L r h cs ss else K 167 L r h cs ss) := by
  rw [dL_broken_164, ey_ok, nx_if_icmp_37]
  exact and_l (by unfold jok; decide)
theorem qL_broken_167 : ey F ini rt fin K0 K (decode cL_broken 167) 167 L (st) h cs ss = (lhas L 1 ∧ isRf (lgt L 1) ∧ K 168 L (lgt L 1 :: st) h cs ss) := by
  rw [dL_broken_167, ey_ok, nx_aload_n_3] <;> rfl
theorem qL_broken_168 : ey F ini rt fin K0 K (decode cL_broken 168) 168 L (st) h cs ss = (K 170 L (.int 50 :: st) h cs ss) := by
  rw [dL_broken_168, ey_ok, nx_bipush_12] <;> rfl
theorem qL_broken_170 : ey F ini rt fin K0 K (decode cL_broken 170) 170 L (st) h cs ss = (lhas L 8 ∧ isI (lgt L 8) ∧ K 172 L (lgt L 8 :: st) h cs ss) := by
  rw [dL_broken_170, ey_ok, nx_iload_0] <;> rfl
theorem qL_broken_172 : ey F ini rt fin K0 K (decode cL_broken 172) 172 L (.int y :: .int x :: r) h cs ss = (K 173 L (.int (x + y) :: r) h cs ss) := by
  rw [dL_broken_172, ey_ok, nx_iadd_16]
theorem qL_broken_173 : ey F ini rt fin K0 K (decode cL_broken 173) 173 L (.int i :: .ref a :: r) h cs ss = (isA (h.1 a) (fun k m => k = 0 ∧ vp_in i m) ∧ K 174 L (h.2 a i.toNatClampNeg :: r) h cs ss) := by
  rw [dL_broken_173, ey_ok, nx_iaload_57]
theorem qL_broken_174 : ey F ini rt fin K0 K (decode cL_broken 174) 174 L (st) h cs ss = (lhas L 1 ∧ isRf (lgt L 1) ∧ K 175 L (lgt L 1 :: st) h cs ss) := by
  rw [dL_broken_174, ey_ok, nx_aload_n_3] <;> rfl
theorem qL_broken_175 : ey F ini rt fin K0 K (decode cL_broken 175) 175 L (st) h cs ss = (K 177 L (.int 40 :: st) h cs ss) := by
  rw [dL_broken_175, ey_ok, nx_bipush_12] <;> rfl
theorem qL_broken_177 : ey F ini rt fin K0 K (decode cL_broken 177) 177 L (st) h cs ss = (lhas L 8 ∧ isI (lgt L 8) ∧ K 179 L (lgt L 8 :: st) h cs ss) := by
  rw [dL_broken_177, ey_ok, nx_iload_0] <;> rfl
theorem qL_broken_179 : ey F ini rt fin K0 K (decode cL_broken 179) 179 L (.int y :: .int x :: r) h cs ss = (K 180 L (.int (x + y) :: r) h cs ss) := by
  rw [dL_broken_179, ey_ok, nx_iadd_16]
theorem qL_broken_180 : ey F ini rt fin K0 K (decode cL_broken 180) 180 L (.int i :: .ref a :: r) h cs ss = (isA (h.1 a) (fun k m => k = 0 ∧ vp_in i m) ∧ K 181 L (h.2 a i.toNatClampNeg :: r) h cs ss) := by
  rw [dL_broken_180, ey_ok, nx_iaload_57]
theorem qL_broken_181 : ey F ini rt fin K0 K (decode cL_broken 181) 181 L (.int y :: .int x :: r) h cs ss = (K 182 L (.int (x - y) :: r) h cs ss) := by
  rw [dL_broken_181, ey_ok, nx_isub_17]
theorem qL_broken_182 : ey F ini rt fin K0 K (decode cL_broken 182) 182 L (st) h cs ss = (K 186 L st h cs ss) := by
  rw [dL_broken_182, ey_ok, nx_goto_29]
  exact and_l (by unfold jok; decide)
theorem qL_broken_185 : ey F ini rt fin K0 K (decode cL_broken 185) 185 L (st) h cs ss = (K 186 L (.int 0 :: st) h cs ss) := by
  rw [dL_broken_185, ey_ok, nx_iconst_11] <;> rfl
theorem qL_broken_186 : ey F ini rt fin K0 K (decode cL_broken 186) 186 L (.int y :: .int x :: r) h cs ss = (K 187 L (.int (x + y) :: r) h cs ss) := by
  rw [dL_broken_186, ey_ok, nx_iadd_16]
theorem qL_broken_187 : ey F ini rt fin K0 K (decode cL_broken 187) 187 L (.int x :: r) h cs ss = (7 < L.length ∧ K 189 (L.set 7 (some (.int x))) r h cs ss) := by
  rw [dL_broken_187, ey_ok, nx_istore_4] <;> rfl
theorem qL_broken_189 : ey F ini rt fin K0 K (decode cL_broken 189) 189 L (st) h cs ss = (lhas L 0 ∧ isRf (lgt L 0) ∧ K 190 L (lgt L 0 :: st) h cs ss) := by
  rw [dL_broken_189, ey_ok, nx_aload_n_3] <;> rfl
theorem qL_broken_190 : ey F ini rt fin K0 K (decode cL_broken 190) 190 L (st) h cs ss = (lhas L 1 ∧ isRf (lgt L 1) ∧ K 191 L (lgt L 1 :: st) h cs ss) := by
  rw [dL_broken_190, ey_ok, nx_aload_n_3] <;> rfl
theorem qL_broken_191 : ey F ini rt fin K0 K (decode cL_broken 191) 191 L (st) h cs ss = (lhas L 8 ∧ isI (lgt L 8) ∧ K 193 L (lgt L 8 :: st) h cs ss) := by
  rw [dL_broken_191, ey_ok, nx_iload_0] <;> rfl
theorem qL_broken_193 : ey F ini rt fin K0 K (decode cL_broken 193) 193 L (st) h cs ss = (K0 193 L st h cs ss) := by
  rw [dL_broken_193, ey_ok, nx_invokestatic_73]
theorem qL_broken_196 : ey F ini rt fin K0 K (decode cL_broken 196) 196 L (.int x :: r) h cs ss = (8 < L.length ∧ K 198 (L.set 8 (some (.int x))) r h cs ss) := by
  rw [dL_broken_196, ey_ok, nx_istore_4] <;> rfl
theorem qL_broken_198 : ey F ini rt fin K0 K (decode cL_broken 198) 198 L (st) h cs ss = (K 136 L st h cs ss) := by
  rw [dL_broken_198, ey_ok, nx_goto_29]
  exact and_l (by unfold jok; decide)
theorem qL_broken_201 : ey F ini rt fin K0 K (decode cL_broken 201) 201 L (st) h cs ss = (lhas L 7 ∧ isI (lgt L 7) ∧ K 203 L (lgt L 7 :: st) h cs ss) := by
  rw [dL_broken_201, ey_ok, nx_iload_0] <;> rfl
theorem qL_broken_203 : ey F ini rt fin K0 K (decode cL_broken 203) 203 L (st) h cs ss = (lhas L 5 ∧ isI (lgt L 5) ∧ K 205 L (lgt L 5 :: st) h cs ss) := by
  rw [dL_broken_203, ey_ok, nx_iload_0] <;> rfl
theorem qL_broken_205 : ey F ini rt fin K0 K (decode cL_broken 205) 205 L (.int y :: .int x :: r) h cs ss = (if x ≤ y then K 212 L r h cs ss else K 208 L r h cs ss) := by
  rw [dL_broken_205, ey_ok, nx_if_icmp_41]
  exact and_l (by unfold jok; decide)
theorem qL_broken_208 : ey F ini rt fin K0 K (decode cL_broken 208) 208 L (st) h cs ss = (K 209 L (.int 1 :: st) h cs ss) := by
  rw [dL_broken_208, ey_ok, nx_iconst_11] <;> rfl
theorem qL_broken_209 : ey F ini rt fin K0 K (decode cL_broken 209) 209 L (st) h cs ss = (K 213 L st h cs ss) := by
  rw [dL_broken_209, ey_ok, nx_goto_29]
  exact and_l (by unfold jok; decide)
theorem qL_broken_212 : ey F ini rt fin K0 K (decode cL_broken 212) 212 L (st) h cs ss = (K 213 L (.int 0 :: st) h cs ss) := by
  rw [dL_broken_212, ey_ok, nx_iconst_11] <;> rfl
theorem qL_broken_213 : ey F ini rt fin K0 K (decode cL_broken 213) 213 L ([.int x]) h cs ss = (rokI rt x ∧ fin (some (.int x)) h cs ss) := by
  rw [dL_broken_213, ey_ok, nx_ireturn_68]
theorem qL_broken_214 : ey F ini rt fin K0 K (decode cL_broken 214) 214 L (st) h cs ss = (lhas L 2 ∧ isRf (lgt L 2) ∧ K 215 L (lgt L 2 :: st) h cs ss) := by
  rw [dL_broken_214, ey_ok, nx_aload_n_3] <;> rfl
theorem qL_broken_215 : ey F ini rt fin K0 K (decode cL_broken 215) 215 L (st) h cs ss = (lhas L 4 ∧ isI (lgt L 4) ∧ K 217 L (lgt L 4 :: st) h cs ss) := by
  rw [dL_broken_215, ey_ok, nx_iload_0] <;> rfl
theorem qL_broken_217 : ey F ini rt fin K0 K (decode cL_broken 217) 217 L (.int i :: .ref a :: r) h cs ss = (isA (h.1 a) (fun k m => k = 0 ∧ vp_in i m) ∧ K 218 L (h.2 a i.toNatClampNeg :: r) h cs ss) := by
  rw [dL_broken_217, ey_ok, nx_iaload_57]
theorem qL_broken_218 : ey F ini rt fin K0 K (decode cL_broken 218) 218 L (st) h cs ss = (K 219 L (.int 3 :: st) h cs ss) := by
  rw [dL_broken_218, ey_ok, nx_iconst_11] <;> rfl
theorem qL_broken_219 : ey F ini rt fin K0 K (decode cL_broken 219) 219 L (.int y :: .int x :: r) h cs ss = (if ¬ x = y then K 235 L r h cs ss else K 222 L r h cs ss) := by
  rw [dL_broken_219, ey_ok, nx_if_icmp_37]
  exact and_l (by unfold jok; decide)
theorem qL_broken_222 : ey F ini rt fin K0 K (decode cL_broken 222) 222 L (st) h cs ss = (lhas L 6 ∧ isI (lgt L 6) ∧ K 224 L (lgt L 6 :: st) h cs ss) := by
  rw [dL_broken_222, ey_ok, nx_iload_0] <;> rfl
theorem qL_broken_224 : ey F ini rt fin K0 K (decode cL_broken 224) 224 L (st) h cs ss = (lhas L 5 ∧ isI (lgt L 5) ∧ K 226 L (lgt L 5 :: st) h cs ss) := by
  rw [dL_broken_224, ey_ok, nx_iload_0] <;> rfl
theorem qL_broken_226 : ey F ini rt fin K0 K (decode cL_broken 226) 226 L (.int y :: .int x :: r) h cs ss = (if x ≤ y then K 233 L r h cs ss else K 229 L r h cs ss) := by
  rw [dL_broken_226, ey_ok, nx_if_icmp_41]
  exact and_l (by unfold jok; decide)
theorem qL_broken_229 : ey F ini rt fin K0 K (decode cL_broken 229) 229 L (st) h cs ss = (K 230 L (.int 1 :: st) h cs ss) := by
  rw [dL_broken_229, ey_ok, nx_iconst_11] <;> rfl
theorem qL_broken_230 : ey F ini rt fin K0 K (decode cL_broken 230) 230 L (st) h cs ss = (K 234 L st h cs ss) := by
  rw [dL_broken_230, ey_ok, nx_goto_29]
  exact and_l (by unfold jok; decide)
theorem qL_broken_233 : ey F ini rt fin K0 K (decode cL_broken 233) 233 L (st) h cs ss = (K 234 L (.int 0 :: st) h cs ss) := by
  rw [dL_broken_233, ey_ok, nx_iconst_11] <;> rfl
theorem qL_broken_234 : ey F ini rt fin K0 K (decode cL_broken 234) 234 L ([.int x]) h cs ss = (rokI rt x ∧ fin (some (.int x)) h cs ss) := by
  rw [dL_broken_234, ey_ok, nx_ireturn_68]
theorem qL_broken_235 : ey F ini rt fin K0 K (decode cL_broken 235) 235 L (st) h cs ss = (K 236 L (.int 0 :: st) h cs ss) := by
  rw [dL_broken_235, ey_ok, nx_iconst_11] <;> rfl
theorem qL_broken_236 : ey F ini rt fin K0 K (decode cL_broken 236) 236 L (.int x :: r) h cs ss = (7 < L.length ∧ K 238 (L.set 7 (some (.int x))) r h cs ss) := by
  rw [dL_broken_236, ey_ok, nx_istore_4] <;> rfl
theorem qL_broken_238 : ey F ini rt fin K0 K (decode cL_broken 238) 238 L (st) h cs ss = (K 239 L (.int 1 :: st) h cs ss) := by
  rw [dL_broken_238, ey_ok, nx_iconst_11] <;> rfl
theorem qL_broken_239 : ey F ini rt fin K0 K (decode cL_broken 239) 239 L (.int x :: r) h cs ss = (8 < L.length ∧ K 241 (L.set 8 (some (.int x))) r h cs ss) := by
  rw [dL_broken_239, ey_ok, nx_istore_4] <;> rfl
theorem qL_broken_241 : ey F ini rt fin K0 K (decode cL_broken 241) 241 L (st) h cs ss = (lhas L 8 ∧ isI (lgt L 8) ∧ K 243 L (lgt L 8 :: st) h cs ss) := by
  rw [dL_broken_241, ey_ok, nx_iload_0] <;> rfl
theorem qL_broken_243 : ey F ini rt fin K0 K (decode cL_broken 243) 243 L (.int x :: r) h cs ss = (if x = 0 then K 346 L r h cs ss else K 246 L r h cs ss) := by
  rw [dL_broken_243, ey_ok, nx_ifond_30]
  exact and_l (by unfold jok; decide)
theorem qL_broken_246 : ey F ini rt fin K0 K (decode cL_broken 246) 246 L (st) h cs ss = (lhas L 7 ∧ isI (lgt L 7) ∧ K 248 L (lgt L 7 :: st) h cs ss) := by
  rw [dL_broken_246, ey_ok, nx_iload_0] <;> rfl
theorem qL_broken_248 : ey F ini rt fin K0 K (decode cL_broken 248) 248 L (st) h cs ss = (lhas L 5 ∧ isI (lgt L 5) ∧ K 250 L (lgt L 5 :: st) h cs ss) := by
  rw [dL_broken_248, ey_ok, nx_iload_0] <;> rfl
theorem qL_broken_250 : ey F ini rt fin K0 K (decode cL_broken 250) 250 L (.int y :: .int x :: r) h cs ss = (if y ≤ x then K 346 L r h cs ss else K 253 L r h cs ss) := by
  rw [dL_broken_250, ey_ok, nx_if_icmp_39]
  exact and_l (by unfold jok; decide)
theorem qL_broken_253 : ey F ini rt fin K0 K (decode cL_broken 253) 253 L (st) h cs ss = (K 254 L (.int 0 :: st) h cs ss) := by
  rw [dL_broken_253, ey_ok, nx_iconst_11] <;> rfl
theorem qL_broken_254 : ey F ini rt fin K0 K (decode cL_broken 254) 254 L (.int x :: r) h cs ss = (8 < L.length ∧ K 256 (L.set 8 (some (.int x))) r h cs ss) := by
  rw [dL_broken_254, ey_ok, nx_istore_4] <;> rfl
theorem qL_broken_256 : ey F ini rt fin K0 K (decode cL_broken 256) 256 L (st) h cs ss = (K 257 L (.int 0 :: st) h cs ss) := by
  rw [dL_broken_256, ey_ok, nx_iconst_11] <;> rfl
theorem qL_broken_257 : ey F ini rt fin K0 K (decode cL_broken 257) 257 L (.int x :: r) h cs ss = (9 < L.length ∧ K 259 (L.set 9 (some (.int x))) r h cs ss) := by
  rw [dL_broken_257, ey_ok, nx_istore_4] <;> rfl
theorem qL_broken_259 : ey F ini rt fin K0 K (decode cL_broken 259) 259 L (st) h cs ss = (lhas L 9 ∧ isI (lgt L 9) ∧ K 261 L (lgt L 9 :: st) h cs ss) := by
  rw [dL_broken_259, ey_ok, nx_iload_0] <;> rfl
theorem qL_broken_261 : ey F ini rt fin K0 K (decode cL_broken 261) 261 L (st) h cs ss = (lhas L 0 ∧ isRf (lgt L 0) ∧ K 262 L (lgt L 0 :: st) h cs ss) := by
  rw [dL_broken_261, ey_ok, nx_aload_n_3] <;> rfl
theorem qL_broken_262 : ey F ini rt fin K0 K (decode cL_broken 262) 262 L (st) h cs ss = (K 263 L (.int 1 :: st) h cs ss) := by
  rw [dL_broken_262, ey_ok, nx_iconst_11] <;> rfl
theorem qL_broken_263 : ey F ini rt fin K0 K (decode cL_broken 263) 263 L (.int i :: .ref a :: r) h cs ss = (isA (h.1 a) (fun k m => k = 0 ∧ vp_in i m) ∧ K 264 L (h.2 a i.toNatClampNeg :: r) h cs ss) := by
  rw [dL_broken_263, ey_ok, nx_iaload_57]
theorem qL_broken_264 : ey F ini rt fin K0 K (decode cL_broken 264) 264 L (.int y :: .int x :: r) h cs ss = (if y ≤ x then K 328 L r h cs ss else K 267 L r h cs ss) := by
  rw [dL_broken_264, ey_ok, nx_if_icmp_39]
  exact and_l (by unfold jok; decide)
theorem qL_broken_267 : ey F ini rt fin K0 K (decode cL_broken 267) 267 L (st) h cs ss = (lhas L 8 ∧ isI (lgt L 8) ∧ K 269 L (lgt L 8 :: st) h cs ss) := by
  rw [dL_broken_267, ey_ok, nx_iload_0] <;> rfl
theorem qL_broken_269 : ey F ini rt fin K0 K (decode cL_broken 269) 269 L (.int x :: r) h cs ss = (if ¬ x = 0 then K 315 L r h cs ss else K 272 L r h cs ss) := by
  rw [dL_broken_269, ey_ok, nx_ifond_31]
  exact and_l (by unfold jok; decide)
theorem qL_broken_272 : ey F ini rt fin K0 K (decode cL_broken 272) 272 L (st) h cs ss = (lhas L 1 ∧ isRf (lgt L 1) ∧ K 273 L (lgt L 1 :: st) h cs ss) := by
  rw [dL_broken_272, ey_ok, nx_aload_n_3] <;> rfl
theorem qL_broken_273 : ey F ini rt fin K0 K (decode cL_broken 273) 273 L (st) h cs ss = (K 275 L (.int 30 :: st) h cs ss) := by
  rw [dL_broken_273, ey_ok, nx_bipush_12] <;> rfl
theorem qL_broken_275 : ey F ini rt fin K0 K (decode cL_broken 275) 275 L (st) h cs ss = (lhas L 9 ∧ isI (lgt L 9) ∧ K 277 L (lgt L 9 :: st) h cs ss) := by
  rw [dL_broken_275, ey_ok, nx_iload_0] <;> rfl
theorem qL_broken_277 : ey F ini rt fin K0 K (decode cL_broken 277) 277 L (.int y :: .int x :: r) h cs ss = (K 278 L (.int (x + y) :: r) h cs ss) := by
  rw [dL_broken_277, ey_ok, nx_iadd_16]
theorem qL_broken_278 : ey F ini rt fin K0 K (decode cL_broken 278) 278 L (.int i :: .ref a :: r) h cs ss = (isA (h.1 a) (fun k m => k = 0 ∧ vp_in i m) ∧ K 279 L (h.2 a i.toNatClampNeg :: r) h cs ss) := by
  rw [dL_broken_278, ey_ok, nx_iaload_57]
theorem qL_broken_279 : ey F ini rt fin K0 K (decode cL_broken 279) 279 L (st) h cs ss = (lhas L 1 ∧ isRf (lgt L 1) ∧ K 280 L (lgt L 1 :: st) h cs ss) := by
  rw [dL_broken_279, ey_ok, nx_aload_n_3] <;> rfl
theorem qL_broken_280 : ey F ini rt fin K0 K (decode cL_broken 280) 280 L (st) h cs ss = (K 282 L (.int 30 :: st) h cs ss) := by
  rw [dL_broken_280, ey_ok, nx_bipush_12] <;> rfl
theorem qL_broken_282 : ey F ini rt fin K0 K (decode cL_broken 282) 282 L (st) h cs ss = (lhas L 3 ∧ isI (lgt L 3) ∧ K 283 L (lgt L 3 :: st) h cs ss) := by
  rw [dL_broken_282, ey_ok, nx_iload_n_1] <;> rfl
theorem qL_broken_283 : ey F ini rt fin K0 K (decode cL_broken 283) 283 L (.int y :: .int x :: r) h cs ss = (K 284 L (.int (x + y) :: r) h cs ss) := by
  rw [dL_broken_283, ey_ok, nx_iadd_16]
theorem qL_broken_284 : ey F ini rt fin K0 K (decode cL_broken 284) 284 L (.int i :: .ref a :: r) h cs ss = (isA (h.1 a) (fun k m => k = 0 ∧ vp_in i m) ∧ K 285 L (h.2 a i.toNatClampNeg :: r) h cs ss) := by
  rw [dL_broken_284, ey_ok, nx_iaload_57]
theorem qL_broken_285 : ey F ini rt fin K0 K (decode cL_broken 285) 285 L (.int y :: .int x :: r) h cs ss = (if ¬ x = y then K 319 L r h cs ss else K 288 L r h cs ss) := by
  rw [dL_broken_285, ey_ok, nx_if_icmp_37]
  exact and_l (by unfold jok; decide)
theorem qL_broken_288 : ey F ini rt fin K0 K (decode cL_broken 288) 288 L (st) h cs ss = (lhas L 1 ∧ isRf (lgt L 1) ∧ K 289 L (lgt L 1 :: st) h cs ss) := by
  rw [dL_broken_288, ey_ok, nx_aload_n_3] <;> rfl
theorem qL_broken_289 : ey F ini rt fin K0 K (decode cL_broken 289) 289 L (st) h cs ss = (K 291 L (.int 40 :: st) h cs ss) := by
  rw [dL_broken_289, ey_ok, nx_bipush_12] <;> rfl
theorem qL_broken_291 : ey F ini rt fin K0 K (decode cL_broken 291) 291 L (st) h cs ss = (lhas L 9 ∧ isI (lgt L 9) ∧ K 293 L (lgt L 9 :: st) h cs ss) := by
  rw [dL_broken_291, ey_ok, nx_iload_0] <;> rfl
theorem qL_broken_293 : ey F ini rt fin K0 K (decode cL_broken 293) 293 L (.int y :: .int x :: r) h cs ss = (K 294 L (.int (x + y) :: r) h cs ss) := by
  rw [dL_broken_293, ey_ok, nx_iadd_16]
theorem qL_broken_294 : ey F ini rt fin K0 K (decode cL_broken 294) 294 L (.int i :: .ref a :: r) h cs ss = (isA (h.1 a) (fun k m => k = 0 ∧ vp_in i m) ∧ K 295 L (h.2 a i.toNatClampNeg :: r) h cs ss) := by
  rw [dL_broken_294, ey_ok, nx_iaload_57]
theorem qL_broken_295 : ey F ini rt fin K0 K (decode cL_broken 295) 295 L (st) h cs ss = (K 297 L (.int 24 :: st) h cs ss) := by
  rw [dL_broken_295, ey_ok, nx_bipush_12] <;> rfl
theorem qL_broken_297 : ey F ini rt fin K0 K (decode cL_broken 297) 297 L (.int y :: .int x :: r) h cs ss = (¬ y = 0 ∧ K 298 L (.int (x / y) :: r) h cs ss) := by
  rw [dL_broken_297, ey_ok, nx_idiv_23]
theorem qL_broken_298 : ey F ini rt fin K0 K (decode cL_broken 298) 298 L (st) h cs ss = (lhas L 1 ∧ isRf (lgt L 1) ∧ K 299 L (lgt L 1 :: st) h cs ss) := by
  rw [dL_broken_298, ey_ok, nx_aload_n_3] <;> rfl
theorem qL_broken_299 : ey F ini rt fin K0 K (decode cL_broken 299) 299 L (st) h cs ss = (K 301 L (.int 40 :: st) h cs ss) := by
  rw [dL_broken_299, ey_ok, nx_bipush_12] <;> rfl
theorem qL_broken_301 : ey F ini rt fin K0 K (decode cL_broken 301) 301 L (st) h cs ss = (lhas L 3 ∧ isI (lgt L 3) ∧ K 302 L (lgt L 3 :: st) h cs ss) := by
  rw [dL_broken_301, ey_ok, nx_iload_n_1] <;> rfl
theorem qL_broken_302 : ey F ini rt fin K0 K (decode cL_broken 302) 302 L (.int y :: .int x :: r) h cs ss = (K 303 L (.int (x + y) :: r) h cs ss) := by
  rw [dL_broken_302, ey_ok, nx_iadd_16]
theorem qL_broken_303 : ey F ini rt fin K0 K (decode cL_broken 303) 303 L (.int i :: .ref a :: r) h cs ss = (isA (h.1 a) (fun k m => k = 0 ∧ vp_in i m) ∧ K 304 L (h.2 a i.toNatClampNeg :: r) h cs ss) := by
  rw [dL_broken_303, ey_ok, nx_iaload_57]
theorem qL_broken_304 : ey F ini rt fin K0 K (decode cL_broken 304) 304 L (st) h cs ss = (K 306 L (.int 24 :: st) h cs ss) := by
  rw [dL_broken_304, ey_ok, nx_bipush_12] <;> rfl
theorem qL_broken_306 : ey F ini rt fin K0 K (decode cL_broken 306) 306 L (.int y :: .int x :: r) h cs ss = (¬ y = 0 ∧ K 307 L (.int (x / y) :: r) h cs ss) := by
  rw [dL_broken_306, ey_ok, nx_idiv_23]
theorem qL_broken_307 : ey F ini rt fin K0 K (decode cL_broken 307) 307 L (st) h cs ss = (lhas L 7 ∧ isI (lgt L 7) ∧ K 309 L (lgt L 7 :: st) h cs ss) := by
  rw [dL_broken_307, ey_ok, nx_iload_0] <;> rfl
theorem qL_broken_309 : ey F ini rt fin K0 K (decode cL_broken 309) 309 L (.int y :: .int x :: r) h cs ss = (K 310 L (.int (x - y) :: r) h cs ss) := by
  rw [dL_broken_309, ey_ok, nx_isub_17]
theorem qL_broken_310 : ey F ini rt fin K0 K (decode cL_broken 310) 310 L (st) h cs ss = (K 311 L (.int 1 :: st) h cs ss) := by
  rw [dL_broken_310, ey_ok, nx_iconst_11] <;> rfl
theorem qL_broken_311 : ey F ini rt fin K0 K (decode cL_broken 311) 311 L (.int y :: .int x :: r) h cs ss = (K 312 L (.int (x - y) :: r) h cs ss) := by
  rw [dL_broken_311, ey_ok, nx_isub_17]
theorem qL_broken_312 : ey F ini rt fin K0 K (decode cL_broken 312) 312 L (.int y :: .int x :: r) h cs ss = (if ¬ x = y then K 319 L r h cs ss else K 315 L r h cs ss) := by
  rw [dL_broken_312, ey_ok, nx_if_icmp_37]
  exact and_l (by unfold jok; decide)
theorem qL_broken_315 : ey F ini rt fin K0 K (decode cL_broken 315) 315 L (st) h cs ss = (K 316 L (.int 1 :: st) h cs ss) := by
  rw [dL_broken_315, ey_ok, nx_iconst_11] <;> rfl
theorem qL_broken_316 : ey F ini rt fin K0 K (decode cL_broken 316) 316 L (st) h cs ss = (K 320 L st h cs ss) := by
  rw [dL_broken_316, ey_ok, nx_goto_29]
  exact and_l (by unfold jok; decide)
theorem qL_broken_319 : ey F ini rt fin K0 K (decode cL_broken 319) 319 L (st) h cs ss = (K 320 L (.int 0 :: st) h cs ss) := by
  rw [dL_broken_319, ey_ok, nx_iconst_11] <;> rfl
theorem qL_broken_320 : ey F ini rt fin K0 K (decode cL_broken 320) 320 L (.int x :: r) h cs ss = (8 < L.length ∧ K 322 (L.set 8 (some (.int x))) r h cs ss) := by
  rw [dL_broken_320, ey_ok, nx_istore_4] <;> rfl
theorem qL_broken_322 : ey F ini rt fin K0 K (decode cL_broken 322) 322 L (st) h cs ss = (lhas L 9 ∧ isI (lgt L 9) ∧ K 325 (L.set 9 (some (inc (lgt L 9) 1))) st h cs ss) := by
  rw [dL_broken_322, ey_ok, nx_iinc_10] <;> rfl
theorem qL_broken_325 : ey F ini rt fin K0 K (decode cL_broken 325) 325 L (st) h cs ss = (K 259 L st h cs ss) := by
  rw [dL_broken_325, ey_ok, nx_goto_29]
  exact and_l (by unfold jok; decide)
theorem qL_broken_328 : ey F ini rt fin K0 K (decode cL_broken 328) 328 L (st) h cs ss = (lhas L 7 ∧ isI (lgt L 7) ∧ K 330 L (lgt L 7 :: st) h cs ss) := by
  rw [dL_broken_328, ey_ok, nx_iload_0] <;> rfl
theorem qL_broken_330 : ey F ini rt fin K0 K (decode cL_broken 330) 330 L (st) h cs ss = (lhas L 8 ∧ isI (lgt L 8) ∧ K 332 L (lgt L 8 :: st) h cs ss) := by
  rw [dL_broken_330, ey_ok, nx_iload_0] <;> rfl
theorem qL_broken_332 : ey F ini rt fin K0 K (decode cL_broken 332) 332 L (.int x :: r) h cs ss = (if x = 0 then K 339 L r h cs ss else K 335 L r h cs ss) := by
  rw [dL_broken_332, ey_ok, nx_ifond_30]
  exact and_l (by unfold jok; decide)
theorem qL_broken_335 : ey F ini rt fin K0 K (decode cL_broken 335) 335 L (st) h cs ss = (K 336 L (.int 1 :: st) h cs ss) := by
  rw [dL_broken_335, ey_ok, nx_iconst_11] <;> rfl
theorem qL_broken_336 : ey F ini rt fin K0 K (decode cL_broken 336) 336 L (st) h cs ss = (K 340 L st h cs ss) := by
  rw [dL_broken_336, ey_ok, nx_goto_29]
  exact and_l (by unfold jok; decide)
theorem qL_broken_339 : ey F ini rt fin K0 K (decode cL_broken 339) 339 L (st) h cs ss = (K 340 L (.int 0 :: st) h cs ss) := by
  rw [dL_broken_339, ey_ok, nx_iconst_11] <;> rfl
theorem qL_broken_340 : ey F ini rt fin K0 K (decode cL_broken 340) 340 L (.int y :: .int x :: r) h cs ss = (K 341 L (.int (x + y) :: r) h cs ss) := by
  rw [dL_broken_340, ey_ok, nx_iadd_16]
theorem qL_broken_341 : ey F ini rt fin K0 K (decode cL_broken 341) 341 L (.int x :: r) h cs ss = (7 < L.length ∧ K 343 (L.set 7 (some (.int x))) r h cs ss) := by
  rw [dL_broken_341, ey_ok, nx_istore_4] <;> rfl
theorem qL_broken_343 : ey F ini rt fin K0 K (decode cL_broken 343) 343 L (st) h cs ss = (K 241 L st h cs ss) := by
  rw [dL_broken_343, ey_ok, nx_goto_29]
  exact and_l (by unfold jok; decide)
theorem qL_broken_346 : ey F ini rt fin K0 K (decode cL_broken 346) 346 L (st) h cs ss = (lhas L 7 ∧ isI (lgt L 7) ∧ K 348 L (lgt L 7 :: st) h cs ss) := by
  rw [dL_broken_346, ey_ok, nx_iload_0] <;> rfl
theorem qL_broken_348 : ey F ini rt fin K0 K (decode cL_broken 348) 348 L (st) h cs ss = (lhas L 5 ∧ isI (lgt L 5) ∧ K 350 L (lgt L 5 :: st) h cs ss) := by
  rw [dL_broken_348, ey_ok, nx_iload_0] <;> rfl
theorem qL_broken_350 : ey F ini rt fin K0 K (decode cL_broken 350) 350 L (.int y :: .int x :: r) h cs ss = (if ¬ x = y then K 357 L r h cs ss else K 353 L r h cs ss) := by
  rw [dL_broken_350, ey_ok, nx_if_icmp_37]
  exact and_l (by unfold jok; decide)
theorem qL_broken_353 : ey F ini rt fin K0 K (decode cL_broken 353) 353 L (st) h cs ss = (K 354 L (.int 1 :: st) h cs ss) := by
  rw [dL_broken_353, ey_ok, nx_iconst_11] <;> rfl
theorem qL_broken_354 : ey F ini rt fin K0 K (decode cL_broken 354) 354 L (st) h cs ss = (K 358 L st h cs ss) := by
  rw [dL_broken_354, ey_ok, nx_goto_29]
  exact and_l (by unfold jok; decide)
theorem qL_broken_357 : ey F ini rt fin K0 K (decode cL_broken 357) 357 L (st) h cs ss = (K 358 L (.int 0 :: st) h cs ss) := by
  rw [dL_broken_357, ey_ok, nx_iconst_11] <;> rfl
theorem qL_broken_358 : ey F ini rt fin K0 K (decode cL_broken 358) 358 L ([.int x]) h cs ss = (rokI rt x ∧ fin (some (.int x)) h cs ss) := by
  rw [dL_broken_358, ey_ok, nx_ireturn_68]
theorem qL_judge_0 : ey F ini rt fin K0 K (decode cL_judge 0) 0 L (st) h cs ss = (K 1 L (.int 0 :: st) h cs ss) := by
  rw [dL_judge_0, ey_ok, nx_iconst_11] <;> rfl
theorem qL_judge_1 : ey F ini rt fin K0 K (decode cL_judge 1) 1 L (.int x :: r) h cs ss = (5 < L.length ∧ K 3 (L.set 5 (some (.int x))) r h cs ss) := by
  rw [dL_judge_1, ey_ok, nx_istore_4] <;> rfl
theorem qL_judge_3 : ey F ini rt fin K0 K (decode cL_judge 3) 3 L (st) h cs ss = (K 4 L (.int 0 :: st) h cs ss) := by
  rw [dL_judge_3, ey_ok, nx_iconst_11] <;> rfl
theorem qL_judge_4 : ey F ini rt fin K0 K (decode cL_judge 4) 4 L (.int x :: r) h cs ss = (6 < L.length ∧ K 6 (L.set 6 (some (.int x))) r h cs ss) := by
  rw [dL_judge_4, ey_ok, nx_istore_4] <;> rfl
theorem qL_judge_6 : ey F ini rt fin K0 K (decode cL_judge 6) 6 L (st) h cs ss = (lhas L 6 ∧ isI (lgt L 6) ∧ K 8 L (lgt L 6 :: st) h cs ss) := by
  rw [dL_judge_6, ey_ok, nx_iload_0] <;> rfl
theorem qL_judge_8 : ey F ini rt fin K0 K (decode cL_judge 8) 8 L (st) h cs ss = (lhas L 0 ∧ isRf (lgt L 0) ∧ K 9 L (lgt L 0 :: st) h cs ss) := by
  rw [dL_judge_8, ey_ok, nx_aload_n_3] <;> rfl
theorem qL_judge_9 : ey F ini rt fin K0 K (decode cL_judge 9) 9 L (st) h cs ss = (K 10 L (.int 3 :: st) h cs ss) := by
  rw [dL_judge_9, ey_ok, nx_iconst_11] <;> rfl
theorem qL_judge_10 : ey F ini rt fin K0 K (decode cL_judge 10) 10 L (.int i :: .ref a :: r) h cs ss = (isA (h.1 a) (fun k m => k = 0 ∧ vp_in i m) ∧ K 11 L (h.2 a i.toNatClampNeg :: r) h cs ss) := by
  rw [dL_judge_10, ey_ok, nx_iaload_57]
theorem qL_judge_11 : ey F ini rt fin K0 K (decode cL_judge 11) 11 L (.int y :: .int x :: r) h cs ss = (if y ≤ x then K 91 L r h cs ss else K 14 L r h cs ss) := by
  rw [dL_judge_11, ey_ok, nx_if_icmp_39]
  exact and_l (by unfold jok; decide)
theorem qL_judge_14 : ey F ini rt fin K0 K (decode cL_judge 14) 14 L (st) h cs ss = (lhas L 3 ∧ isRf (lgt L 3) ∧ K 15 L (lgt L 3 :: st) h cs ss) := by
  rw [dL_judge_14, ey_ok, nx_aload_n_3] <;> rfl
theorem qL_judge_15 : ey F ini rt fin K0 K (decode cL_judge 15) 15 L (st) h cs ss = (lhas L 6 ∧ isI (lgt L 6) ∧ K 17 L (lgt L 6 :: st) h cs ss) := by
  rw [dL_judge_15, ey_ok, nx_iload_0] <;> rfl
theorem qL_judge_17 : ey F ini rt fin K0 K (decode cL_judge 17) 17 L (.int i :: .ref a :: r) h cs ss = (isA (h.1 a) (fun k m => k = 0 ∧ vp_in i m) ∧ K 18 L (h.2 a i.toNatClampNeg :: r) h cs ss) := by
  rw [dL_judge_17, ey_ok, nx_iaload_57]
theorem qL_judge_18 : ey F ini rt fin K0 K (decode cL_judge 18) 18 L (st) h cs ss = (K 20 L (.int 100 :: st) h cs ss) := by
  rw [dL_judge_18, ey_ok, nx_bipush_12] <;> rfl
theorem qL_judge_20 : ey F ini rt fin K0 K (decode cL_judge 20) 20 L (.int y :: .int x :: r) h cs ss = (¬ y = 0 ∧ K 21 L (.int (x / y) :: r) h cs ss) := by
  rw [dL_judge_20, ey_ok, nx_idiv_23]
theorem qL_judge_21 : ey F ini rt fin K0 K (decode cL_judge 21) 21 L (st) h cs ss = (K 23 L (.int 100 :: st) h cs ss) := by
  rw [dL_judge_21, ey_ok, nx_bipush_12] <;> rfl
theorem qL_judge_23 : ey F ini rt fin K0 K (decode cL_judge 23) 23 L (.int y :: .int x :: r) h cs ss = (¬ y = 0 ∧ K 24 L (.int (x - x / y * y) :: r) h cs ss) := by
  rw [dL_judge_23, ey_ok, nx_irem_81]
theorem qL_judge_24 : ey F ini rt fin K0 K (decode cL_judge 24) 24 L (.int x :: r) h cs ss = (7 < L.length ∧ K 26 (L.set 7 (some (.int x))) r h cs ss) := by
  rw [dL_judge_24, ey_ok, nx_istore_4] <;> rfl
theorem qL_judge_26 : ey F ini rt fin K0 K (decode cL_judge 26) 26 L (st) h cs ss = (lhas L 4 ∧ isRf (lgt L 4) ∧ K 28 L (lgt L 4 :: st) h cs ss) := by
  rw [dL_judge_26, ey_ok, nx_aload_2] <;> rfl
theorem qL_judge_28 : ey F ini rt fin K0 K (decode cL_judge 28) 28 L (st) h cs ss = (lhas L 6 ∧ isI (lgt L 6) ∧ K 30 L (lgt L 6 :: st) h cs ss) := by
  rw [dL_judge_28, ey_ok, nx_iload_0] <;> rfl
theorem qL_judge_30 : ey F ini rt fin K0 K (decode cL_judge 30) 30 L (.int i :: .ref a :: r) h cs ss = (isA (h.1 a) (fun k m => k = 0 ∧ vp_in i m) ∧ K 31 L (h.2 a i.toNatClampNeg :: r) h cs ss) := by
  rw [dL_judge_30, ey_ok, nx_iaload_57]
theorem qL_judge_31 : ey F ini rt fin K0 K (decode cL_judge 31) 31 L (st) h cs ss = (K 32 L (.int 4 :: st) h cs ss) := by
  rw [dL_judge_31, ey_ok, nx_iconst_11] <;> rfl
theorem qL_judge_32 : ey F ini rt fin K0 K (decode cL_judge 32) 32 L (.int y :: .int x :: r) h cs ss = (¬ y = 0 ∧ K 33 L (.int (x - x / y * y) :: r) h cs ss) := by
  rw [dL_judge_32, ey_ok, nx_irem_81]
theorem qL_judge_33 : ey F ini rt fin K0 K (decode cL_judge 33) 33 L (st) h cs ss = (K 34 L (.int 2 :: st) h cs ss) := by
  rw [dL_judge_33, ey_ok, nx_iconst_11] <;> rfl
theorem qL_judge_34 : ey F ini rt fin K0 K (decode cL_judge 34) 34 L (.int y :: .int x :: r) h cs ss = (if y ≤ x then K 85 L r h cs ss else K 37 L r h cs ss) := by
  rw [dL_judge_34, ey_ok, nx_if_icmp_39]
  exact and_l (by unfold jok; decide)
theorem qL_judge_37 : ey F ini rt fin K0 K (decode cL_judge 37) 37 L (st) h cs ss = (lhas L 1 ∧ isRf (lgt L 1) ∧ K 38 L (lgt L 1 :: st) h cs ss) := by
  rw [dL_judge_37, ey_ok, nx_aload_n_3] <;> rfl
theorem qL_judge_38 : ey F ini rt fin K0 K (decode cL_judge 38) 38 L (st) h cs ss = (K 40 L (.int 30 :: st) h cs ss) := by
  rw [dL_judge_38, ey_ok, nx_bipush_12] <;> rfl
theorem qL_judge_40 : ey F ini rt fin K0 K (decode cL_judge 40) 40 L (st) h cs ss = (lhas L 7 ∧ isI (lgt L 7) ∧ K 42 L (lgt L 7 :: st) h cs ss) := by
  rw [dL_judge_40, ey_ok, nx_iload_0] <;> rfl
theorem qL_judge_42 : ey F ini rt fin K0 K (decode cL_judge 42) 42 L (.int y :: .int x :: r) h cs ss = (K 43 L (.int (x + y) :: r) h cs ss) := by
  rw [dL_judge_42, ey_ok, nx_iadd_16]
theorem qL_judge_43 : ey F ini rt fin K0 K (decode cL_judge 43) 43 L (.int i :: .ref a :: r) h cs ss = (isA (h.1 a) (fun k m => k = 0 ∧ vp_in i m) ∧ K 44 L (h.2 a i.toNatClampNeg :: r) h cs ss) := by
  rw [dL_judge_43, ey_ok, nx_iaload_57]
theorem qL_judge_44 : ey F ini rt fin K0 K (decode cL_judge 44) 44 L (st) h cs ss = (lhas L 3 ∧ isRf (lgt L 3) ∧ K 45 L (lgt L 3 :: st) h cs ss) := by
  rw [dL_judge_44, ey_ok, nx_aload_n_3] <;> rfl
theorem qL_judge_45 : ey F ini rt fin K0 K (decode cL_judge 45) 45 L (st) h cs ss = (lhas L 6 ∧ isI (lgt L 6) ∧ K 47 L (lgt L 6 :: st) h cs ss) := by
  rw [dL_judge_45, ey_ok, nx_iload_0] <;> rfl
theorem qL_judge_47 : ey F ini rt fin K0 K (decode cL_judge 47) 47 L (.int i :: .ref a :: r) h cs ss = (isA (h.1 a) (fun k m => k = 0 ∧ vp_in i m) ∧ K 48 L (h.2 a i.toNatClampNeg :: r) h cs ss) := by
  rw [dL_judge_47, ey_ok, nx_iaload_57]
theorem qL_judge_48 : ey F ini rt fin K0 K (decode cL_judge 48) 48 L (st) h cs ss = (K 51 L (.int 10000 :: st) h cs ss) := by
  rw [dL_judge_48, ey_ok, nx_sipush_13] <;> rfl
theorem qL_judge_51 : ey F ini rt fin K0 K (decode cL_judge 51) 51 L (.int y :: .int x :: r) h cs ss = (¬ y = 0 ∧ K 52 L (.int (x / y) :: r) h cs ss) := by
  rw [dL_judge_51, ey_ok, nx_idiv_23]
theorem qL_judge_52 : ey F ini rt fin K0 K (decode cL_judge 52) 52 L (.int y :: .int x :: r) h cs ss = (if ¬ x = y then K 73 L r h cs ss else K 55 L r h cs ss) := by
  rw [dL_judge_52, ey_ok, nx_if_icmp_37]
  exact and_l (by unfold jok; decide)
theorem qL_judge_55 : ey F ini rt fin K0 K (decode cL_judge 55) 55 L (st) h cs ss = (lhas L 0 ∧ isRf (lgt L 0) ∧ K 56 L (lgt L 0 :: st) h cs ss) := by
  rw [dL_judge_55, ey_ok, nx_aload_n_3] <;> rfl
theorem qL_judge_56 : ey F ini rt fin K0 K (decode cL_judge 56) 56 L (st) h cs ss = (lhas L 1 ∧ isRf (lgt L 1) ∧ K 57 L (lgt L 1 :: st) h cs ss) := by
  rw [dL_judge_56, ey_ok, nx_aload_n_3] <;> rfl
theorem qL_judge_57 : ey F ini rt fin K0 K (decode cL_judge 57) 57 L (st) h cs ss = (lhas L 2 ∧ isRf (lgt L 2) ∧ K 58 L (lgt L 2 :: st) h cs ss) := by
  rw [dL_judge_57, ey_ok, nx_aload_n_3] <;> rfl
theorem qL_judge_58 : ey F ini rt fin K0 K (decode cL_judge 58) 58 L (st) h cs ss = (lhas L 7 ∧ isI (lgt L 7) ∧ K 60 L (lgt L 7 :: st) h cs ss) := by
  rw [dL_judge_58, ey_ok, nx_iload_0] <;> rfl
theorem qL_judge_60 : ey F ini rt fin K0 K (decode cL_judge 60) 60 L (st) h cs ss = (lhas L 3 ∧ isRf (lgt L 3) ∧ K 61 L (lgt L 3 :: st) h cs ss) := by
  rw [dL_judge_60, ey_ok, nx_aload_n_3] <;> rfl
theorem qL_judge_61 : ey F ini rt fin K0 K (decode cL_judge 61) 61 L (st) h cs ss = (lhas L 6 ∧ isI (lgt L 6) ∧ K 63 L (lgt L 6 :: st) h cs ss) := by
  rw [dL_judge_61, ey_ok, nx_iload_0] <;> rfl
theorem qL_judge_63 : ey F ini rt fin K0 K (decode cL_judge 63) 63 L (.int i :: .ref a :: r) h cs ss = (isA (h.1 a) (fun k m => k = 0 ∧ vp_in i m) ∧ K 64 L (h.2 a i.toNatClampNeg :: r) h cs ss) := by
  rw [dL_judge_63, ey_ok, nx_iaload_57]
theorem qL_judge_64 : ey F ini rt fin K0 K (decode cL_judge 64) 64 L (st) h cs ss = (K 66 L (.int 100 :: st) h cs ss) := by
  rw [dL_judge_64, ey_ok, nx_bipush_12] <;> rfl
theorem qL_judge_66 : ey F ini rt fin K0 K (decode cL_judge 66) 66 L (.int y :: .int x :: r) h cs ss = (¬ y = 0 ∧ K 67 L (.int (x - x / y * y) :: r) h cs ss) := by
  rw [dL_judge_66, ey_ok, nx_irem_81]
theorem qL_judge_67 : ey F ini rt fin K0 K (decode cL_judge 67) 67 L (st) h cs ss = (K0 67 L st h cs ss) := by
  rw [dL_judge_67, ey_ok, nx_invokestatic_73]
theorem qL_judge_70 : ey F ini rt fin K0 K (decode cL_judge 70) 70 L (.int x :: r) h cs ss = (if ¬ x = 0 then K 85 L r h cs ss else K 73 L r h cs ss) := by
  rw [dL_judge_70, ey_ok, nx_ifond_31]
  exact and_l (by unfold jok; decide)
theorem qL_judge_73 : ey F ini rt fin K0 K (decode cL_judge 73) 73 L (st) h cs ss = (lhas L 4 ∧ isRf (lgt L 4) ∧ K 75 L (lgt L 4 :: st) h cs ss) := by
  rw [dL_judge_73, ey_ok, nx_aload_2] <;> rfl
theorem qL_judge_75 : ey F ini rt fin K0 K (decode cL_judge 75) 75 L (st) h cs ss = (lhas L 6 ∧ isI (lgt L 6) ∧ K 77 L (lgt L 6 :: st) h cs ss) := by
  rw [dL_judge_75, ey_ok, nx_iload_0] <;> rfl
theorem qL_judge_77 : ey F ini rt fin K0 K (decode cL_judge 77) 77 L (v :: v2 :: r) h cs ss = (v.category = 1 ∧ v2.category = 1 ∧ K 78 L (v :: v2 :: v :: v2 :: r) h cs ss) := by
  rw [dL_judge_77, ey_ok, nx_dup2_84]
theorem qL_judge_78 : ey F ini rt fin K0 K (decode cL_judge 78) 78 L (.int i :: .ref a :: r) h cs ss = (isA (h.1 a) (fun k m => k = 0 ∧ vp_in i m) ∧ K 79 L (h.2 a i.toNatClampNeg :: r) h cs ss) := by
  rw [dL_judge_78, ey_ok, nx_iaload_57]
theorem qL_judge_79 : ey F ini rt fin K0 K (decode cL_judge 79) 79 L (st) h cs ss = (K 80 L (.int 2 :: st) h cs ss) := by
  rw [dL_judge_79, ey_ok, nx_iconst_11] <;> rfl
theorem qL_judge_80 : ey F ini rt fin K0 K (decode cL_judge 80) 80 L (.int y :: .int x :: r) h cs ss = (K 81 L (.int (x + y) :: r) h cs ss) := by
  rw [dL_judge_80, ey_ok, nx_iadd_16]
theorem qL_judge_81 : ey F ini rt fin K0 K (decode cL_judge 81) 81 L (.int x :: .int i :: .ref a :: r) h cs ss = (isA (h.1 a) (fun k m => k = 0 ∧ vp_in i m) ∧ K 82 L r (h.1, hup h.2 a i.toNatClampNeg (.int x)) cs ss) := by
  rw [dL_judge_81, ey_ok, nx_iastore_62]
theorem qL_judge_82 : ey F ini rt fin K0 K (decode cL_judge 82) 82 L (st) h cs ss = (lhas L 5 ∧ isI (lgt L 5) ∧ K 85 (L.set 5 (some (inc (lgt L 5) 1))) st h cs ss) := by
  rw [dL_judge_82, ey_ok, nx_iinc_10] <;> rfl
theorem qL_judge_85 : ey F ini rt fin K0 K (decode cL_judge 85) 85 L (st) h cs ss = (lhas L 6 ∧ isI (lgt L 6) ∧ K 88 (L.set 6 (some (inc (lgt L 6) 1))) st h cs ss) := by
  rw [dL_judge_85, ey_ok, nx_iinc_10] <;> rfl
theorem qL_judge_88 : ey F ini rt fin K0 K (decode cL_judge 88) 88 L (st) h cs ss = (K 6 L st h cs ss) := by
  rw [dL_judge_88, ey_ok, nx_goto_29]
  exact and_l (by unfold jok; decide)
theorem qL_judge_91 : ey F ini rt fin K0 K (decode cL_judge 91) 91 L (st) h cs ss = (K 92 L (.int 0 :: st) h cs ss) := by
  rw [dL_judge_91, ey_ok, nx_iconst_11] <;> rfl
theorem qL_judge_92 : ey F ini rt fin K0 K (decode cL_judge 92) 92 L (.int x :: r) h cs ss = (6 < L.length ∧ K 94 (L.set 6 (some (.int x))) r h cs ss) := by
  rw [dL_judge_92, ey_ok, nx_istore_4] <;> rfl
theorem qL_judge_94 : ey F ini rt fin K0 K (decode cL_judge 94) 94 L (st) h cs ss = (lhas L 6 ∧ isI (lgt L 6) ∧ K 96 L (lgt L 6 :: st) h cs ss) := by
  rw [dL_judge_94, ey_ok, nx_iload_0] <;> rfl
theorem qL_judge_96 : ey F ini rt fin K0 K (decode cL_judge 96) 96 L (st) h cs ss = (lhas L 0 ∧ isRf (lgt L 0) ∧ K 97 L (lgt L 0 :: st) h cs ss) := by
  rw [dL_judge_96, ey_ok, nx_aload_n_3] <;> rfl
theorem qL_judge_97 : ey F ini rt fin K0 K (decode cL_judge 97) 97 L (st) h cs ss = (K 98 L (.int 1 :: st) h cs ss) := by
  rw [dL_judge_97, ey_ok, nx_iconst_11] <;> rfl
theorem qL_judge_98 : ey F ini rt fin K0 K (decode cL_judge 98) 98 L (.int i :: .ref a :: r) h cs ss = (isA (h.1 a) (fun k m => k = 0 ∧ vp_in i m) ∧ K 99 L (h.2 a i.toNatClampNeg :: r) h cs ss) := by
  rw [dL_judge_98, ey_ok, nx_iaload_57]
theorem qL_judge_99 : ey F ini rt fin K0 K (decode cL_judge 99) 99 L (.int y :: .int x :: r) h cs ss = (if y ≤ x then K 251 L r h cs ss else K 102 L r h cs ss) := by
  rw [dL_judge_99, ey_ok, nx_if_icmp_39]
  exact and_l (by unfold jok; decide)
theorem qL_judge_102 : ey F ini rt fin K0 K (decode cL_judge 102) 102 L (st) h cs ss = (K 103 L (.int 0 :: st) h cs ss) := by
  rw [dL_judge_102, ey_ok, nx_iconst_11] <;> rfl
theorem qL_judge_103 : ey F ini rt fin K0 K (decode cL_judge 103) 103 L (.int x :: r) h cs ss = (7 < L.length ∧ K 105 (L.set 7 (some (.int x))) r h cs ss) := by
  rw [dL_judge_103, ey_ok, nx_istore_4] <;> rfl
theorem qL_judge_105 : ey F ini rt fin K0 K (decode cL_judge 105) 105 L (st) h cs ss = (lhas L 7 ∧ isI (lgt L 7) ∧ K 107 L (lgt L 7 :: st) h cs ss) := by
  rw [dL_judge_105, ey_ok, nx_iload_0] <;> rfl
theorem qL_judge_107 : ey F ini rt fin K0 K (decode cL_judge 107) 107 L (st) h cs ss = (lhas L 0 ∧ isRf (lgt L 0) ∧ K 108 L (lgt L 0 :: st) h cs ss) := by
  rw [dL_judge_107, ey_ok, nx_aload_n_3] <;> rfl
theorem qL_judge_108 : ey F ini rt fin K0 K (decode cL_judge 108) 108 L (st) h cs ss = (K 109 L (.int 2 :: st) h cs ss) := by
  rw [dL_judge_108, ey_ok, nx_iconst_11] <;> rfl
theorem qL_judge_109 : ey F ini rt fin K0 K (decode cL_judge 109) 109 L (.int i :: .ref a :: r) h cs ss = (isA (h.1 a) (fun k m => k = 0 ∧ vp_in i m) ∧ K 110 L (h.2 a i.toNatClampNeg :: r) h cs ss) := by
  rw [dL_judge_109, ey_ok, nx_iaload_57]
theorem qL_judge_110 : ey F ini rt fin K0 K (decode cL_judge 110) 110 L (.int y :: .int x :: r) h cs ss = (if y ≤ x then K 245 L r h cs ss else K 113 L r h cs ss) := by
  rw [dL_judge_110, ey_ok, nx_if_icmp_39]
  exact and_l (by unfold jok; decide)
theorem qL_judge_113 : ey F ini rt fin K0 K (decode cL_judge 113) 113 L (st) h cs ss = (lhas L 0 ∧ isRf (lgt L 0) ∧ K 114 L (lgt L 0 :: st) h cs ss) := by
  rw [dL_judge_113, ey_ok, nx_aload_n_3] <;> rfl
theorem qL_judge_114 : ey F ini rt fin K0 K (decode cL_judge 114) 114 L (st) h cs ss = (lhas L 1 ∧ isRf (lgt L 1) ∧ K 115 L (lgt L 1 :: st) h cs ss) := by
  rw [dL_judge_114, ey_ok, nx_aload_n_3] <;> rfl
theorem qL_judge_115 : ey F ini rt fin K0 K (decode cL_judge 115) 115 L (st) h cs ss = (lhas L 2 ∧ isRf (lgt L 2) ∧ K 116 L (lgt L 2 :: st) h cs ss) := by
  rw [dL_judge_115, ey_ok, nx_aload_n_3] <;> rfl
theorem qL_judge_116 : ey F ini rt fin K0 K (decode cL_judge 116) 116 L (st) h cs ss = (lhas L 6 ∧ isI (lgt L 6) ∧ K 118 L (lgt L 6 :: st) h cs ss) := by
  rw [dL_judge_116, ey_ok, nx_iload_0] <;> rfl
theorem qL_judge_118 : ey F ini rt fin K0 K (decode cL_judge 118) 118 L (st) h cs ss = (lhas L 7 ∧ isI (lgt L 7) ∧ K 120 L (lgt L 7 :: st) h cs ss) := by
  rw [dL_judge_118, ey_ok, nx_iload_0] <;> rfl
theorem qL_judge_120 : ey F ini rt fin K0 K (decode cL_judge 120) 120 L (st) h cs ss = (K0 120 L st h cs ss) := by
  rw [dL_judge_120, ey_ok, nx_invokestatic_73]
theorem qL_judge_123 : ey F ini rt fin K0 K (decode cL_judge 123) 123 L (.int x :: r) h cs ss = (if x = 0 then K 239 L r h cs ss else K 126 L r h cs ss) := by
  rw [dL_judge_123, ey_ok, nx_ifond_30]
  exact and_l (by unfold jok; decide)
theorem qL_judge_126 : ey F ini rt fin K0 K (decode cL_judge 126) 126 L (st) h cs ss = (K 129 L (.int 10000 :: st) h cs ss) := by
  rw [dL_judge_126, ey_ok, nx_sipush_13] <;> rfl
theorem qL_judge_129 : ey F ini rt fin K0 K (decode cL_judge 129) 129 L (st) h cs ss = (lhas L 1 ∧ isRf (lgt L 1) ∧ K 130 L (lgt L 1 :: st) h cs ss) := by
  rw [dL_judge_129, ey_ok, nx_aload_n_3] <;> rfl
theorem qL_judge_130 : ey F ini rt fin K0 K (decode cL_judge 130) 130 L (st) h cs ss = (K 132 L (.int 30 :: st) h cs ss) := by
  rw [dL_judge_130, ey_ok, nx_bipush_12] <;> rfl
theorem qL_judge_132 : ey F ini rt fin K0 K (decode cL_judge 132) 132 L (st) h cs ss = (lhas L 6 ∧ isI (lgt L 6) ∧ K 134 L (lgt L 6 :: st) h cs ss) := by
  rw [dL_judge_132, ey_ok, nx_iload_0] <;> rfl
theorem qL_judge_134 : ey F ini rt fin K0 K (decode cL_judge 134) 134 L (.int y :: .int x :: r) h cs ss = (K 135 L (.int (x + y) :: r) h cs ss) := by
  rw [dL_judge_134, ey_ok, nx_iadd_16]
theorem qL_judge_135 : ey F ini rt fin K0 K (decode cL_judge 135) 135 L (.int i :: .ref a :: r) h cs ss = (isA (h.1 a) (fun k m => k = 0 ∧ vp_in i m) ∧ K 136 L (h.2 a i.toNatClampNeg :: r) h cs ss) := by
  rw [dL_judge_135, ey_ok, nx_iaload_57]
theorem qL_judge_136 : ey F ini rt fin K0 K (decode cL_judge 136) 136 L (.int y :: .int x :: r) h cs ss = (K 137 L (.int (x * y) :: r) h cs ss) := by
  rw [dL_judge_136, ey_ok, nx_imul_18]
theorem qL_judge_137 : ey F ini rt fin K0 K (decode cL_judge 137) 137 L (st) h cs ss = (K 139 L (.int 100 :: st) h cs ss) := by
  rw [dL_judge_137, ey_ok, nx_bipush_12] <;> rfl
theorem qL_judge_139 : ey F ini rt fin K0 K (decode cL_judge 139) 139 L (st) h cs ss = (lhas L 6 ∧ isI (lgt L 6) ∧ K 141 L (lgt L 6 :: st) h cs ss) := by
  rw [dL_judge_139, ey_ok, nx_iload_0] <;> rfl
theorem qL_judge_141 : ey F ini rt fin K0 K (decode cL_judge 141) 141 L (.int y :: .int x :: r) h cs ss = (K 142 L (.int (x * y) :: r) h cs ss) := by
  rw [dL_judge_141, ey_ok, nx_imul_18]
theorem qL_judge_142 : ey F ini rt fin K0 K (decode cL_judge 142) 142 L (.int y :: .int x :: r) h cs ss = (K 143 L (.int (x + y) :: r) h cs ss) := by
  rw [dL_judge_142, ey_ok, nx_iadd_16]
theorem qL_judge_143 : ey F ini rt fin K0 K (decode cL_judge 143) 143 L (st) h cs ss = (lhas L 7 ∧ isI (lgt L 7) ∧ K 145 L (lgt L 7 :: st) h cs ss) := by
  rw [dL_judge_143, ey_ok, nx_iload_0] <;> rfl
theorem qL_judge_145 : ey F ini rt fin K0 K (decode cL_judge 145) 145 L (.int y :: .int x :: r) h cs ss = (K 146 L (.int (x + y) :: r) h cs ss) := by
  rw [dL_judge_145, ey_ok, nx_iadd_16]
theorem qL_judge_146 : ey F ini rt fin K0 K (decode cL_judge 146) 146 L (.int x :: r) h cs ss = (8 < L.length ∧ K 148 (L.set 8 (some (.int x))) r h cs ss) := by
  rw [dL_judge_146, ey_ok, nx_istore_4] <;> rfl
theorem qL_judge_148 : ey F ini rt fin K0 K (decode cL_judge 148) 148 L (st) h cs ss = (K 149 L (.int (-1) :: st) h cs ss) := by
  rw [dL_judge_148, ey_ok, nx_iconst_11] <;> rfl
theorem qL_judge_149 : ey F ini rt fin K0 K (decode cL_judge 149) 149 L (.int x :: r) h cs ss = (9 < L.length ∧ K 151 (L.set 9 (some (.int x))) r h cs ss) := by
  rw [dL_judge_149, ey_ok, nx_istore_4] <;> rfl
theorem qL_judge_151 : ey F ini rt fin K0 K (decode cL_judge 151) 151 L (st) h cs ss = (K 152 L (.int 0 :: st) h cs ss) := by
  rw [dL_judge_151, ey_ok, nx_iconst_11] <;> rfl
theorem qL_judge_152 : ey F ini rt fin K0 K (decode cL_judge 152) 152 L (.int x :: r) h cs ss = (10 < L.length ∧ K 154 (L.set 10 (some (.int x))) r h cs ss) := by
  rw [dL_judge_152, ey_ok, nx_istore_4] <;> rfl
theorem qL_judge_154 : ey F ini rt fin K0 K (decode cL_judge 154) 154 L (st) h cs ss = (lhas L 10 ∧ isI (lgt L 10) ∧ K 156 L (lgt L 10 :: st) h cs ss) := by
  rw [dL_judge_154, ey_ok, nx_iload_0] <;> rfl
theorem qL_judge_156 : ey F ini rt fin K0 K (decode cL_judge 156) 156 L (st) h cs ss = (lhas L 0 ∧ isRf (lgt L 0) ∧ K 157 L (lgt L 0 :: st) h cs ss) := by
  rw [dL_judge_156, ey_ok, nx_aload_n_3] <;> rfl
theorem qL_judge_157 : ey F ini rt fin K0 K (decode cL_judge 157) 157 L (st) h cs ss = (K 158 L (.int 3 :: st) h cs ss) := by
  rw [dL_judge_157, ey_ok, nx_iconst_11] <;> rfl
theorem qL_judge_158 : ey F ini rt fin K0 K (decode cL_judge 158) 158 L (.int i :: .ref a :: r) h cs ss = (isA (h.1 a) (fun k m => k = 0 ∧ vp_in i m) ∧ K 159 L (h.2 a i.toNatClampNeg :: r) h cs ss) := by
  rw [dL_judge_158, ey_ok, nx_iaload_57]
theorem qL_judge_159 : ey F ini rt fin K0 K (decode cL_judge 159) 159 L (.int y :: .int x :: r) h cs ss = (if y ≤ x then K 186 L r h cs ss else K 162 L r h cs ss) := by
  rw [dL_judge_159, ey_ok, nx_if_icmp_39]
  exact and_l (by unfold jok; decide)
theorem qL_judge_162 : ey F ini rt fin K0 K (decode cL_judge 162) 162 L (st) h cs ss = (lhas L 3 ∧ isRf (lgt L 3) ∧ K 163 L (lgt L 3 :: st) h cs ss) := by
  rw [dL_judge_162, ey_ok, nx_aload_n_3] <;> rfl
theorem qL_judge_163 : ey F ini rt fin K0 K (decode cL_judge 163) 163 L (st) h cs ss = (lhas L 10 ∧ isI (lgt L 10) ∧ K 165 L (lgt L 10 :: st) h cs ss) := by
  rw [dL_judge_163, ey_ok, nx_iload_0] <;> rfl
theorem qL_judge_165 : ey F ini rt fin K0 K (decode cL_judge 165) 165 L (.int i :: .ref a :: r) h cs ss = (isA (h.1 a) (fun k m => k = 0 ∧ vp_in i m) ∧ K 166 L (h.2 a i.toNatClampNeg :: r) h cs ss) := by
  rw [dL_judge_165, ey_ok, nx_iaload_57]
theorem qL_judge_166 : ey F ini rt fin K0 K (decode cL_judge 166) 166 L (st) h cs ss = (lhas L 8 ∧ isI (lgt L 8) ∧ K 168 L (lgt L 8 :: st) h cs ss) := by
  rw [dL_judge_166, ey_ok, nx_iload_0] <;> rfl
theorem qL_judge_168 : ey F ini rt fin K0 K (decode cL_judge 168) 168 L (.int y :: .int x :: r) h cs ss = (if ¬ x = y then K 176 L r h cs ss else K 171 L r h cs ss) := by
  rw [dL_judge_168, ey_ok, nx_if_icmp_37]
  exact and_l (by unfold jok; decide)
theorem qL_judge_171 : ey F ini rt fin K0 K (decode cL_judge 171) 171 L (st) h cs ss = (lhas L 10 ∧ isI (lgt L 10) ∧ K 173 L (lgt L 10 :: st) h cs ss) := by
  rw [dL_judge_171, ey_ok, nx_iload_0] <;> rfl
theorem qL_judge_173 : ey F ini rt fin K0 K (decode cL_judge 173) 173 L (st) h cs ss = (K 178 L st h cs ss) := by
  rw [dL_judge_173, ey_ok, nx_goto_29]
  exact and_l (by unfold jok; decide)
theorem qL_judge_176 : ey F ini rt fin K0 K (decode cL_judge 176) 176 L (st) h cs ss = (lhas L 9 ∧ isI (lgt L 9) ∧ K 178 L (lgt L 9 :: st) h cs ss) := by
  rw [dL_judge_176, ey_ok, nx_iload_0] <;> rfl
theorem qL_judge_178 : ey F ini rt fin K0 K (decode cL_judge 178) 178 L (.int x :: r) h cs ss = (9 < L.length ∧ K 180 (L.set 9 (some (.int x))) r h cs ss) := by
  rw [dL_judge_178, ey_ok, nx_istore_4] <;> rfl
theorem qL_judge_180 : ey F ini rt fin K0 K (decode cL_judge 180) 180 L (st) h cs ss = (lhas L 10 ∧ isI (lgt L 10) ∧ K 183 (L.set 10 (some (inc (lgt L 10) 1))) st h cs ss) := by
  rw [dL_judge_180, ey_ok, nx_iinc_10] <;> rfl
theorem qL_judge_183 : ey F ini rt fin K0 K (decode cL_judge 183) 183 L (st) h cs ss = (K 154 L st h cs ss) := by
  rw [dL_judge_183, ey_ok, nx_goto_29]
  exact and_l (by unfold jok; decide)
theorem qL_judge_186 : ey F ini rt fin K0 K (decode cL_judge 186) 186 L (st) h cs ss = (lhas L 9 ∧ isI (lgt L 9) ∧ K 188 L (lgt L 9 :: st) h cs ss) := by
  rw [dL_judge_186, ey_ok, nx_iload_0] <;> rfl
theorem qL_judge_188 : ey F ini rt fin K0 K (decode cL_judge 188) 188 L (.int x :: r) h cs ss = (if 0 ≤ x then K 215 L r h cs ss else K 191 L r h cs ss) := by
  rw [dL_judge_188, ey_ok, nx_ifond_33]
  exact and_l (by unfold jok; decide)
theorem qL_judge_191 : ey F ini rt fin K0 K (decode cL_judge 191) 191 L (st) h cs ss = (lhas L 3 ∧ isRf (lgt L 3) ∧ K 192 L (lgt L 3 :: st) h cs ss) := by
  rw [dL_judge_191, ey_ok, nx_aload_n_3] <;> rfl
theorem qL_judge_192 : ey F ini rt fin K0 K (decode cL_judge 192) 192 L (st) h cs ss = (lhas L 0 ∧ isRf (lgt L 0) ∧ K 193 L (lgt L 0 :: st) h cs ss) := by
  rw [dL_judge_192, ey_ok, nx_aload_n_3] <;> rfl
theorem qL_judge_193 : ey F ini rt fin K0 K (decode cL_judge 193) 193 L (st) h cs ss = (K 194 L (.int 3 :: st) h cs ss) := by
  rw [dL_judge_193, ey_ok, nx_iconst_11] <;> rfl
theorem qL_judge_194 : ey F ini rt fin K0 K (decode cL_judge 194) 194 L (.int i :: .ref a :: r) h cs ss = (isA (h.1 a) (fun k m => k = 0 ∧ vp_in i m) ∧ K 195 L (h.2 a i.toNatClampNeg :: r) h cs ss) := by
  rw [dL_judge_194, ey_ok, nx_iaload_57]
theorem qL_judge_195 : ey F ini rt fin K0 K (decode cL_judge 195) 195 L (st) h cs ss = (lhas L 8 ∧ isI (lgt L 8) ∧ K 197 L (lgt L 8 :: st) h cs ss) := by
  rw [dL_judge_195, ey_ok, nx_iload_0] <;> rfl
theorem qL_judge_197 : ey F ini rt fin K0 K (decode cL_judge 197) 197 L (.int x :: .int i :: .ref a :: r) h cs ss = (isA (h.1 a) (fun k m => k = 0 ∧ vp_in i m) ∧ K 198 L r (h.1, hup h.2 a i.toNatClampNeg (.int x)) cs ss) := by
  rw [dL_judge_197, ey_ok, nx_iastore_62]
theorem qL_judge_198 : ey F ini rt fin K0 K (decode cL_judge 198) 198 L (st) h cs ss = (lhas L 4 ∧ isRf (lgt L 4) ∧ K 200 L (lgt L 4 :: st) h cs ss) := by
  rw [dL_judge_198, ey_ok, nx_aload_2] <;> rfl
theorem qL_judge_200 : ey F ini rt fin K0 K (decode cL_judge 200) 200 L (st) h cs ss = (lhas L 0 ∧ isRf (lgt L 0) ∧ K 201 L (lgt L 0 :: st) h cs ss) := by
  rw [dL_judge_200, ey_ok, nx_aload_n_3] <;> rfl
theorem qL_judge_201 : ey F ini rt fin K0 K (decode cL_judge 201) 201 L (st) h cs ss = (K 202 L (.int 3 :: st) h cs ss) := by
  rw [dL_judge_201, ey_ok, nx_iconst_11] <;> rfl
theorem qL_judge_202 : ey F ini rt fin K0 K (decode cL_judge 202) 202 L (.int i :: .ref a :: r) h cs ss = (isA (h.1 a) (fun k m => k = 0 ∧ vp_in i m) ∧ K 203 L (h.2 a i.toNatClampNeg :: r) h cs ss) := by
  rw [dL_judge_202, ey_ok, nx_iaload_57]
theorem qL_judge_203 : ey F ini rt fin K0 K (decode cL_judge 203) 203 L (st) h cs ss = (K 204 L (.int 0 :: st) h cs ss) := by
  rw [dL_judge_203, ey_ok, nx_iconst_11] <;> rfl
theorem qL_judge_204 : ey F ini rt fin K0 K (decode cL_judge 204) 204 L (.int x :: .int i :: .ref a :: r) h cs ss = (isA (h.1 a) (fun k m => k = 0 ∧ vp_in i m) ∧ K 205 L r (h.1, hup h.2 a i.toNatClampNeg (.int x)) cs ss) := by
  rw [dL_judge_204, ey_ok, nx_iastore_62]
theorem qL_judge_205 : ey F ini rt fin K0 K (decode cL_judge 205) 205 L (st) h cs ss = (lhas L 0 ∧ isRf (lgt L 0) ∧ K 206 L (lgt L 0 :: st) h cs ss) := by
  rw [dL_judge_205, ey_ok, nx_aload_n_3] <;> rfl
theorem qL_judge_206 : ey F ini rt fin K0 K (decode cL_judge 206) 206 L (st) h cs ss = (K 207 L (.int 3 :: st) h cs ss) := by
  rw [dL_judge_206, ey_ok, nx_iconst_11] <;> rfl
theorem qL_judge_207 : ey F ini rt fin K0 K (decode cL_judge 207) 207 L (v :: v2 :: r) h cs ss = (v.category = 1 ∧ v2.category = 1 ∧ K 208 L (v :: v2 :: v :: v2 :: r) h cs ss) := by
  rw [dL_judge_207, ey_ok, nx_dup2_84]
theorem qL_judge_208 : ey F ini rt fin K0 K (decode cL_judge 208) 208 L (.int i :: .ref a :: r) h cs ss = (isA (h.1 a) (fun k m => k = 0 ∧ vp_in i m) ∧ K 209 L (h.2 a i.toNatClampNeg :: r) h cs ss) := by
  rw [dL_judge_208, ey_ok, nx_iaload_57]
theorem qL_judge_209 : ey F ini rt fin K0 K (decode cL_judge 209) 209 L (st) h cs ss = (K 210 L (.int 1 :: st) h cs ss) := by
  rw [dL_judge_209, ey_ok, nx_iconst_11] <;> rfl
theorem qL_judge_210 : ey F ini rt fin K0 K (decode cL_judge 210) 210 L (.int y :: .int x :: r) h cs ss = (K 211 L (.int (x + y) :: r) h cs ss) := by
  rw [dL_judge_210, ey_ok, nx_iadd_16]
theorem qL_judge_211 : ey F ini rt fin K0 K (decode cL_judge 211) 211 L (.int x :: .int i :: .ref a :: r) h cs ss = (isA (h.1 a) (fun k m => k = 0 ∧ vp_in i m) ∧ K 212 L r (h.1, hup h.2 a i.toNatClampNeg (.int x)) cs ss) := by
  rw [dL_judge_211, ey_ok, nx_iastore_62]
theorem qL_judge_212 : ey F ini rt fin K0 K (decode cL_judge 212) 212 L (st) h cs ss = (K 239 L st h cs ss) := by
  rw [dL_judge_212, ey_ok, nx_goto_29]
  exact and_l (by unfold jok; decide)
theorem qL_judge_215 : ey F ini rt fin K0 K (decode cL_judge 215) 215 L (st) h cs ss = (lhas L 4 ∧ isRf (lgt L 4) ∧ K 217 L (lgt L 4 :: st) h cs ss) := by
  rw [dL_judge_215, ey_ok, nx_aload_2] <;> rfl
theorem qL_judge_217 : ey F ini rt fin K0 K (decode cL_judge 217) 217 L (st) h cs ss = (lhas L 9 ∧ isI (lgt L 9) ∧ K 219 L (lgt L 9 :: st) h cs ss) := by
  rw [dL_judge_217, ey_ok, nx_iload_0] <;> rfl
theorem qL_judge_219 : ey F ini rt fin K0 K (decode cL_judge 219) 219 L (v :: v2 :: r) h cs ss = (v.category = 1 ∧ v2.category = 1 ∧ K 220 L (v :: v2 :: v :: v2 :: r) h cs ss) := by
  rw [dL_judge_219, ey_ok, nx_dup2_84]
theorem qL_judge_220 : ey F ini rt fin K0 K (decode cL_judge 220) 220 L (.int i :: .ref a :: r) h cs ss = (isA (h.1 a) (fun k m => k = 0 ∧ vp_in i m) ∧ K 221 L (h.2 a i.toNatClampNeg :: r) h cs ss) := by
  rw [dL_judge_220, ey_ok, nx_iaload_57]
theorem qL_judge_221 : ey F ini rt fin K0 K (decode cL_judge 221) 221 L (st) h cs ss = (lhas L 4 ∧ isRf (lgt L 4) ∧ K 223 L (lgt L 4 :: st) h cs ss) := by
  rw [dL_judge_221, ey_ok, nx_aload_2] <;> rfl
theorem qL_judge_223 : ey F ini rt fin K0 K (decode cL_judge 223) 223 L (st) h cs ss = (lhas L 9 ∧ isI (lgt L 9) ∧ K 225 L (lgt L 9 :: st) h cs ss) := by
  rw [dL_judge_223, ey_ok, nx_iload_0] <;> rfl
theorem qL_judge_225 : ey F ini rt fin K0 K (decode cL_judge 225) 225 L (.int i :: .ref a :: r) h cs ss = (isA (h.1 a) (fun k m => k = 0 ∧ vp_in i m) ∧ K 226 L (h.2 a i.toNatClampNeg :: r) h cs ss) := by
  rw [dL_judge_225, ey_ok, nx_iaload_57]
theorem qL_judge_226 : ey F ini rt fin K0 K (decode cL_judge 226) 226 L (st) h cs ss = (K 227 L (.int 4 :: st) h cs ss) := by
  rw [dL_judge_226, ey_ok, nx_iconst_11] <;> rfl
theorem qL_judge_227 : ey F ini rt fin K0 K (decode cL_judge 227) 227 L (.int y :: .int x :: r) h cs ss = (¬ y = 0 ∧ K 228 L (.int (x - x / y * y) :: r) h cs ss) := by
  rw [dL_judge_227, ey_ok, nx_irem_81]
theorem qL_judge_228 : ey F ini rt fin K0 K (decode cL_judge 228) 228 L (st) h cs ss = (K 229 L (.int 1 :: st) h cs ss) := by
  rw [dL_judge_228, ey_ok, nx_iconst_11] <;> rfl
theorem qL_judge_229 : ey F ini rt fin K0 K (decode cL_judge 229) 229 L (.int y :: .int x :: r) h cs ss = (if x ≤ y then K 236 L r h cs ss else K 232 L r h cs ss) := by
  rw [dL_judge_229, ey_ok, nx_if_icmp_41]
  exact and_l (by unfold jok; decide)
theorem qL_judge_232 : ey F ini rt fin K0 K (decode cL_judge 232) 232 L (st) h cs ss = (K 233 L (.int 2 :: st) h cs ss) := by
  rw [dL_judge_232, ey_ok, nx_iconst_11] <;> rfl
theorem qL_judge_233 : ey F ini rt fin K0 K (decode cL_judge 233) 233 L (st) h cs ss = (K 237 L st h cs ss) := by
  rw [dL_judge_233, ey_ok, nx_goto_29]
  exact and_l (by unfold jok; decide)
theorem qL_judge_236 : ey F ini rt fin K0 K (decode cL_judge 236) 236 L (st) h cs ss = (K 237 L (.int 0 :: st) h cs ss) := by
  rw [dL_judge_236, ey_ok, nx_iconst_11] <;> rfl
theorem qL_judge_237 : ey F ini rt fin K0 K (decode cL_judge 237) 237 L (.int y :: .int x :: r) h cs ss = (K 238 L (.int (x - y) :: r) h cs ss) := by
  rw [dL_judge_237, ey_ok, nx_isub_17]
theorem qL_judge_238 : ey F ini rt fin K0 K (decode cL_judge 238) 238 L (.int x :: .int i :: .ref a :: r) h cs ss = (isA (h.1 a) (fun k m => k = 0 ∧ vp_in i m) ∧ K 239 L r (h.1, hup h.2 a i.toNatClampNeg (.int x)) cs ss) := by
  rw [dL_judge_238, ey_ok, nx_iastore_62]
theorem qL_judge_239 : ey F ini rt fin K0 K (decode cL_judge 239) 239 L (st) h cs ss = (lhas L 7 ∧ isI (lgt L 7) ∧ K 242 (L.set 7 (some (inc (lgt L 7) 1))) st h cs ss) := by
  rw [dL_judge_239, ey_ok, nx_iinc_10] <;> rfl
theorem qL_judge_242 : ey F ini rt fin K0 K (decode cL_judge 242) 242 L (st) h cs ss = (K 105 L st h cs ss) := by
  rw [dL_judge_242, ey_ok, nx_goto_29]
  exact and_l (by unfold jok; decide)
theorem qL_judge_245 : ey F ini rt fin K0 K (decode cL_judge 245) 245 L (st) h cs ss = (lhas L 6 ∧ isI (lgt L 6) ∧ K 248 (L.set 6 (some (inc (lgt L 6) 1))) st h cs ss) := by
  rw [dL_judge_245, ey_ok, nx_iinc_10] <;> rfl
theorem qL_judge_248 : ey F ini rt fin K0 K (decode cL_judge 248) 248 L (st) h cs ss = (K 94 L st h cs ss) := by
  rw [dL_judge_248, ey_ok, nx_goto_29]
  exact and_l (by unfold jok; decide)
theorem qL_judge_251 : ey F ini rt fin K0 K (decode cL_judge 251) 251 L (st) h cs ss = (lhas L 5 ∧ isI (lgt L 5) ∧ K 253 L (lgt L 5 :: st) h cs ss) := by
  rw [dL_judge_251, ey_ok, nx_iload_0] <;> rfl
theorem qL_judge_253 : ey F ini rt fin K0 K (decode cL_judge 253) 253 L ([.int x]) h cs ss = (rokI rt x ∧ fin (some (.int x)) h cs ss) := by
  rw [dL_judge_253, ey_ok, nx_ireturn_68]
theorem qL_fits_0 : ey F ini rt fin K0 K (decode cL_fits 0) 0 L (st) h cs ss = (lhas L 1 ∧ isRf (lgt L 1) ∧ K 1 L (lgt L 1 :: st) h cs ss) := by
  rw [dL_fits_0, ey_ok, nx_aload_n_3] <;> rfl
theorem qL_fits_1 : ey F ini rt fin K0 K (decode cL_fits 1) 1 L (st) h cs ss = (lhas L 3 ∧ isI (lgt L 3) ∧ K 2 L (lgt L 3 :: st) h cs ss) := by
  rw [dL_fits_1, ey_ok, nx_iload_n_1] <;> rfl
theorem qL_fits_2 : ey F ini rt fin K0 K (decode cL_fits 2) 2 L (.int i :: .ref a :: r) h cs ss = (isA (h.1 a) (fun k m => k = 0 ∧ vp_in i m) ∧ K 3 L (h.2 a i.toNatClampNeg :: r) h cs ss) := by
  rw [dL_fits_2, ey_ok, nx_iaload_57]
theorem qL_fits_3 : ey F ini rt fin K0 K (decode cL_fits 3) 3 L (st) h cs ss = (lhas L 2 ∧ isRf (lgt L 2) ∧ K 4 L (lgt L 2 :: st) h cs ss) := by
  rw [dL_fits_3, ey_ok, nx_aload_n_3] <;> rfl
theorem qL_fits_4 : ey F ini rt fin K0 K (decode cL_fits 4) 4 L (st) h cs ss = (K 6 L (.int 20 :: st) h cs ss) := by
  rw [dL_fits_4, ey_ok, nx_bipush_12] <;> rfl
theorem qL_fits_6 : ey F ini rt fin K0 K (decode cL_fits 6) 6 L (st) h cs ss = (lhas L 4 ∧ isI (lgt L 4) ∧ K 8 L (lgt L 4 :: st) h cs ss) := by
  rw [dL_fits_6, ey_ok, nx_iload_0] <;> rfl
theorem qL_fits_8 : ey F ini rt fin K0 K (decode cL_fits 8) 8 L (.int y :: .int x :: r) h cs ss = (K 9 L (.int (x + y) :: r) h cs ss) := by
  rw [dL_fits_8, ey_ok, nx_iadd_16]
theorem qL_fits_9 : ey F ini rt fin K0 K (decode cL_fits 9) 9 L (.int i :: .ref a :: r) h cs ss = (isA (h.1 a) (fun k m => k = 0 ∧ vp_in i m) ∧ K 10 L (h.2 a i.toNatClampNeg :: r) h cs ss) := by
  rw [dL_fits_9, ey_ok, nx_iaload_57]
theorem qL_fits_10 : ey F ini rt fin K0 K (decode cL_fits 10) 10 L (.int y :: .int x :: r) h cs ss = (K 11 L (.int (x >>> (y &&& 31)) :: r) h cs ss) := by
  rw [dL_fits_10, ey_ok, nx_ishr_21]
theorem qL_fits_11 : ey F ini rt fin K0 K (decode cL_fits 11) 11 L (st) h cs ss = (K 12 L (.int 1 :: st) h cs ss) := by
  rw [dL_fits_11, ey_ok, nx_iconst_11] <;> rfl
theorem qL_fits_12 : ey F ini rt fin K0 K (decode cL_fits 12) 12 L (.int y :: .int x :: r) h cs ss = (K 13 L (.int (x &&& y) :: r) h cs ss) := by
  rw [dL_fits_12, ey_ok, nx_iand_19]
theorem qL_fits_13 : ey F ini rt fin K0 K (decode cL_fits 13) 13 L (st) h cs ss = (K 14 L (.int 1 :: st) h cs ss) := by
  rw [dL_fits_13, ey_ok, nx_iconst_11] <;> rfl
theorem qL_fits_14 : ey F ini rt fin K0 K (decode cL_fits 14) 14 L (.int y :: .int x :: r) h cs ss = (if ¬ x = y then K 21 L r h cs ss else K 17 L r h cs ss) := by
  rw [dL_fits_14, ey_ok, nx_if_icmp_37]
  exact and_l (by unfold jok; decide)
theorem qL_fits_17 : ey F ini rt fin K0 K (decode cL_fits 17) 17 L (st) h cs ss = (K 18 L (.int 1 :: st) h cs ss) := by
  rw [dL_fits_17, ey_ok, nx_iconst_11] <;> rfl
theorem qL_fits_18 : ey F ini rt fin K0 K (decode cL_fits 18) 18 L (st) h cs ss = (K 22 L st h cs ss) := by
  rw [dL_fits_18, ey_ok, nx_goto_29]
  exact and_l (by unfold jok; decide)
theorem qL_fits_21 : ey F ini rt fin K0 K (decode cL_fits 21) 21 L (st) h cs ss = (K 22 L (.int 0 :: st) h cs ss) := by
  rw [dL_fits_21, ey_ok, nx_iconst_11] <;> rfl
theorem qL_fits_22 : ey F ini rt fin K0 K (decode cL_fits 22) 22 L (.int x :: r) h cs ss = (6 < L.length ∧ K 24 (L.set 6 (some (.int x))) r h cs ss) := by
  rw [dL_fits_22, ey_ok, nx_istore_4] <;> rfl
theorem qL_fits_24 : ey F ini rt fin K0 K (decode cL_fits 24) 24 L (st) h cs ss = (K 25 L (.int 0 :: st) h cs ss) := by
  rw [dL_fits_24, ey_ok, nx_iconst_11] <;> rfl
theorem qL_fits_25 : ey F ini rt fin K0 K (decode cL_fits 25) 25 L (.int x :: r) h cs ss = (7 < L.length ∧ K 27 (L.set 7 (some (.int x))) r h cs ss) := by
  rw [dL_fits_25, ey_ok, nx_istore_4] <;> rfl
theorem qL_fits_27 : ey F ini rt fin K0 K (decode cL_fits 27) 27 L (st) h cs ss = (lhas L 7 ∧ isI (lgt L 7) ∧ K 29 L (lgt L 7 :: st) h cs ss) := by
  rw [dL_fits_27, ey_ok, nx_iload_0] <;> rfl
theorem qL_fits_29 : ey F ini rt fin K0 K (decode cL_fits 29) 29 L (st) h cs ss = (lhas L 0 ∧ isRf (lgt L 0) ∧ K 30 L (lgt L 0 :: st) h cs ss) := by
  rw [dL_fits_29, ey_ok, nx_aload_n_3] <;> rfl
theorem qL_fits_30 : ey F ini rt fin K0 K (decode cL_fits 30) 30 L (st) h cs ss = (K 31 L (.int 1 :: st) h cs ss) := by
  rw [dL_fits_30, ey_ok, nx_iconst_11] <;> rfl
theorem qL_fits_31 : ey F ini rt fin K0 K (decode cL_fits 31) 31 L (.int i :: .ref a :: r) h cs ss = (isA (h.1 a) (fun k m => k = 0 ∧ vp_in i m) ∧ K 32 L (h.2 a i.toNatClampNeg :: r) h cs ss) := by
  rw [dL_fits_31, ey_ok, nx_iaload_57]
theorem qL_fits_32 : ey F ini rt fin K0 K (decode cL_fits 32) 32 L (.int y :: .int x :: r) h cs ss = (if y ≤ x then K 106 L r h cs ss else K 35 L r h cs ss) := by
  rw [dL_fits_32, ey_ok, nx_if_icmp_39]
  exact and_l (by unfold jok; decide)
theorem qL_fits_35 : ey F ini rt fin K0 K (decode cL_fits 35) 35 L (st) h cs ss = (lhas L 6 ∧ isI (lgt L 6) ∧ K 37 L (lgt L 6 :: st) h cs ss) := by
  rw [dL_fits_35, ey_ok, nx_iload_0] <;> rfl
theorem qL_fits_37 : ey F ini rt fin K0 K (decode cL_fits 37) 37 L (.int x :: r) h cs ss = (if x = 0 then K 97 L r h cs ss else K 40 L r h cs ss) := by
  rw [dL_fits_37, ey_ok, nx_ifond_30]
  exact and_l (by unfold jok; decide)
theorem qL_fits_40 : ey F ini rt fin K0 K (decode cL_fits 40) 40 L (st) h cs ss = (lhas L 7 ∧ isI (lgt L 7) ∧ K 42 L (lgt L 7 :: st) h cs ss) := by
  rw [dL_fits_40, ey_ok, nx_iload_0] <;> rfl
theorem qL_fits_42 : ey F ini rt fin K0 K (decode cL_fits 42) 42 L (st) h cs ss = (lhas L 4 ∧ isI (lgt L 4) ∧ K 44 L (lgt L 4 :: st) h cs ss) := by
  rw [dL_fits_42, ey_ok, nx_iload_0] <;> rfl
theorem qL_fits_44 : ey F ini rt fin K0 K (decode cL_fits 44) 44 L (.int y :: .int x :: r) h cs ss = (if x = y then K 93 L r h cs ss else K 47 L r h cs ss) := by
  rw [dL_fits_44, ey_ok, nx_if_icmp_36]
  exact and_l (by unfold jok; decide)
theorem qL_fits_47 : ey F ini rt fin K0 K (decode cL_fits 47) 47 L (st) h cs ss = (lhas L 7 ∧ isI (lgt L 7) ∧ K 49 L (lgt L 7 :: st) h cs ss) := by
  rw [dL_fits_47, ey_ok, nx_iload_0] <;> rfl
theorem qL_fits_49 : ey F ini rt fin K0 K (decode cL_fits 49) 49 L (st) h cs ss = (lhas L 5 ∧ isI (lgt L 5) ∧ K 51 L (lgt L 5 :: st) h cs ss) := by
  rw [dL_fits_49, ey_ok, nx_iload_0] <;> rfl
theorem qL_fits_51 : ey F ini rt fin K0 K (decode cL_fits 51) 51 L (.int y :: .int x :: r) h cs ss = (if x = y then K 93 L r h cs ss else K 54 L r h cs ss) := by
  rw [dL_fits_51, ey_ok, nx_if_icmp_36]
  exact and_l (by unfold jok; decide)
theorem qL_fits_54 : ey F ini rt fin K0 K (decode cL_fits 54) 54 L (st) h cs ss = (lhas L 2 ∧ isRf (lgt L 2) ∧ K 55 L (lgt L 2 :: st) h cs ss) := by
  rw [dL_fits_54, ey_ok, nx_aload_n_3] <;> rfl
theorem qL_fits_55 : ey F ini rt fin K0 K (decode cL_fits 55) 55 L (st) h cs ss = (K 57 L (.int 30 :: st) h cs ss) := by
  rw [dL_fits_55, ey_ok, nx_bipush_12] <;> rfl
theorem qL_fits_57 : ey F ini rt fin K0 K (decode cL_fits 57) 57 L (st) h cs ss = (lhas L 7 ∧ isI (lgt L 7) ∧ K 59 L (lgt L 7 :: st) h cs ss) := by
  rw [dL_fits_57, ey_ok, nx_iload_0] <;> rfl
theorem qL_fits_59 : ey F ini rt fin K0 K (decode cL_fits 59) 59 L (.int y :: .int x :: r) h cs ss = (K 60 L (.int (x + y) :: r) h cs ss) := by
  rw [dL_fits_59, ey_ok, nx_iadd_16]
theorem qL_fits_60 : ey F ini rt fin K0 K (decode cL_fits 60) 60 L (.int i :: .ref a :: r) h cs ss = (isA (h.1 a) (fun k m => k = 0 ∧ vp_in i m) ∧ K 61 L (h.2 a i.toNatClampNeg :: r) h cs ss) := by
  rw [dL_fits_60, ey_ok, nx_iaload_57]
theorem qL_fits_61 : ey F ini rt fin K0 K (decode cL_fits 61) 61 L (st) h cs ss = (lhas L 3 ∧ isI (lgt L 3) ∧ K 62 L (lgt L 3 :: st) h cs ss) := by
  rw [dL_fits_61, ey_ok, nx_iload_n_1] <;> rfl
theorem qL_fits_62 : ey F ini rt fin K0 K (decode cL_fits 62) 62 L (.int y :: .int x :: r) h cs ss = (if ¬ x = y then K 93 L r h cs ss else K 65 L r h cs ss) := by
  rw [dL_fits_62, ey_ok, nx_if_icmp_37]
  exact and_l (by unfold jok; decide)
theorem qL_fits_65 : ey F ini rt fin K0 K (decode cL_fits 65) 65 L (st) h cs ss = (lhas L 2 ∧ isRf (lgt L 2) ∧ K 66 L (lgt L 2 :: st) h cs ss) := by
  rw [dL_fits_65, ey_ok, nx_aload_n_3] <;> rfl
theorem qL_fits_66 : ey F ini rt fin K0 K (decode cL_fits 66) 66 L (st) h cs ss = (lhas L 7 ∧ isI (lgt L 7) ∧ K 68 L (lgt L 7 :: st) h cs ss) := by
  rw [dL_fits_66, ey_ok, nx_iload_0] <;> rfl
theorem qL_fits_68 : ey F ini rt fin K0 K (decode cL_fits 68) 68 L (.int i :: .ref a :: r) h cs ss = (isA (h.1 a) (fun k m => k = 0 ∧ vp_in i m) ∧ K 69 L (h.2 a i.toNatClampNeg :: r) h cs ss) := by
  rw [dL_fits_68, ey_ok, nx_iaload_57]
theorem qL_fits_69 : ey F ini rt fin K0 K (decode cL_fits 69) 69 L (st) h cs ss = (lhas L 2 ∧ isRf (lgt L 2) ∧ K 70 L (lgt L 2 :: st) h cs ss) := by
  rw [dL_fits_69, ey_ok, nx_aload_n_3] <;> rfl
theorem qL_fits_70 : ey F ini rt fin K0 K (decode cL_fits 70) 70 L (st) h cs ss = (K 72 L (.int 10 :: st) h cs ss) := by
  rw [dL_fits_70, ey_ok, nx_bipush_12] <;> rfl
theorem qL_fits_72 : ey F ini rt fin K0 K (decode cL_fits 72) 72 L (st) h cs ss = (lhas L 4 ∧ isI (lgt L 4) ∧ K 74 L (lgt L 4 :: st) h cs ss) := by
  rw [dL_fits_72, ey_ok, nx_iload_0] <;> rfl
theorem qL_fits_74 : ey F ini rt fin K0 K (decode cL_fits 74) 74 L (.int y :: .int x :: r) h cs ss = (K 75 L (.int (x + y) :: r) h cs ss) := by
  rw [dL_fits_74, ey_ok, nx_iadd_16]
theorem qL_fits_75 : ey F ini rt fin K0 K (decode cL_fits 75) 75 L (.int i :: .ref a :: r) h cs ss = (isA (h.1 a) (fun k m => k = 0 ∧ vp_in i m) ∧ K 76 L (h.2 a i.toNatClampNeg :: r) h cs ss) := by
  rw [dL_fits_75, ey_ok, nx_iaload_57]
theorem qL_fits_76 : ey F ini rt fin K0 K (decode cL_fits 76) 76 L (.int y :: .int x :: r) h cs ss = (if y ≤ x then K 93 L r h cs ss else K 79 L r h cs ss) := by
  rw [dL_fits_76, ey_ok, nx_if_icmp_39]
  exact and_l (by unfold jok; decide)
theorem qL_fits_79 : ey F ini rt fin K0 K (decode cL_fits 79) 79 L (st) h cs ss = (lhas L 2 ∧ isRf (lgt L 2) ∧ K 80 L (lgt L 2 :: st) h cs ss) := by
  rw [dL_fits_79, ey_ok, nx_aload_n_3] <;> rfl
theorem qL_fits_80 : ey F ini rt fin K0 K (decode cL_fits 80) 80 L (st) h cs ss = (lhas L 4 ∧ isI (lgt L 4) ∧ K 82 L (lgt L 4 :: st) h cs ss) := by
  rw [dL_fits_80, ey_ok, nx_iload_0] <;> rfl
theorem qL_fits_82 : ey F ini rt fin K0 K (decode cL_fits 82) 82 L (.int i :: .ref a :: r) h cs ss = (isA (h.1 a) (fun k m => k = 0 ∧ vp_in i m) ∧ K 83 L (h.2 a i.toNatClampNeg :: r) h cs ss) := by
  rw [dL_fits_82, ey_ok, nx_iaload_57]
theorem qL_fits_83 : ey F ini rt fin K0 K (decode cL_fits 83) 83 L (st) h cs ss = (lhas L 2 ∧ isRf (lgt L 2) ∧ K 84 L (lgt L 2 :: st) h cs ss) := by
  rw [dL_fits_83, ey_ok, nx_aload_n_3] <;> rfl
theorem qL_fits_84 : ey F ini rt fin K0 K (decode cL_fits 84) 84 L (st) h cs ss = (K 86 L (.int 10 :: st) h cs ss) := by
  rw [dL_fits_84, ey_ok, nx_bipush_12] <;> rfl
theorem qL_fits_86 : ey F ini rt fin K0 K (decode cL_fits 86) 86 L (st) h cs ss = (lhas L 7 ∧ isI (lgt L 7) ∧ K 88 L (lgt L 7 :: st) h cs ss) := by
  rw [dL_fits_86, ey_ok, nx_iload_0] <;> rfl
theorem qL_fits_88 : ey F ini rt fin K0 K (decode cL_fits 88) 88 L (.int y :: .int x :: r) h cs ss = (K 89 L (.int (x + y) :: r) h cs ss) := by
  rw [dL_fits_88, ey_ok, nx_iadd_16]
theorem qL_fits_89 : ey F ini rt fin K0 K (decode cL_fits 89) 89 L (.int i :: .ref a :: r) h cs ss = (isA (h.1 a) (fun k m => k = 0 ∧ vp_in i m) ∧ K 90 L (h.2 a i.toNatClampNeg :: r) h cs ss) := by
  rw [dL_fits_89, ey_ok, nx_iaload_57]
theorem qL_fits_90 : ey F ini rt fin K0 K (decode cL_fits 90) 90 L (.int y :: .int x :: r) h cs ss = (if x < y then K 97 L r h cs ss else K 93 L r h cs ss) := by
  rw [dL_fits_90, ey_ok, nx_if_icmp_38]
  exact and_l (by unfold jok; decide)
theorem qL_fits_93 : ey F ini rt fin K0 K (decode cL_fits 93) 93 L (st) h cs ss = (K 94 L (.int 1 :: st) h cs ss) := by
  rw [dL_fits_93, ey_ok, nx_iconst_11] <;> rfl
theorem qL_fits_94 : ey F ini rt fin K0 K (decode cL_fits 94) 94 L (st) h cs ss = (K 98 L st h cs ss) := by
  rw [dL_fits_94, ey_ok, nx_goto_29]
  exact and_l (by unfold jok; decide)
theorem qL_fits_97 : ey F ini rt fin K0 K (decode cL_fits 97) 97 L (st) h cs ss = (K 98 L (.int 0 :: st) h cs ss) := by
  rw [dL_fits_97, ey_ok, nx_iconst_11] <;> rfl
theorem qL_fits_98 : ey F ini rt fin K0 K (decode cL_fits 98) 98 L (.int x :: r) h cs ss = (6 < L.length ∧ K 100 (L.set 6 (some (.int x))) r h cs ss) := by
  rw [dL_fits_98, ey_ok, nx_istore_4] <;> rfl
theorem qL_fits_100 : ey F ini rt fin K0 K (decode cL_fits 100) 100 L (st) h cs ss = (lhas L 7 ∧ isI (lgt L 7) ∧ K 103 (L.set 7 (some (inc (lgt L 7) 1))) st h cs ss) := by
  rw [dL_fits_100, ey_ok, nx_iinc_10] <;> rfl
theorem qL_fits_103 : ey F ini rt fin K0 K (decode cL_fits 103) 103 L (st) h cs ss = (K 27 L st h cs ss) := by
  rw [dL_fits_103, ey_ok, nx_goto_29]
  exact and_l (by unfold jok; decide)
theorem qL_fits_106 : ey F ini rt fin K0 K (decode cL_fits 106) 106 L (st) h cs ss = (lhas L 6 ∧ isI (lgt L 6) ∧ K 108 L (lgt L 6 :: st) h cs ss) := by
  rw [dL_fits_106, ey_ok, nx_iload_0] <;> rfl
theorem qL_fits_108 : ey F ini rt fin K0 K (decode cL_fits 108) 108 L ([.int x]) h cs ss = (rokI rt x ∧ fin (some (.int x)) h cs ss) := by
  rw [dL_fits_108, ey_ok, nx_ireturn_68]
theorem qL_gets_0 : ey F ini rt fin K0 K (decode cL_gets 0) 0 L (st) h cs ss = (K 1 L (.int 0 :: st) h cs ss) := by
  rw [dL_gets_0, ey_ok, nx_iconst_11] <;> rfl
theorem qL_gets_1 : ey F ini rt fin K0 K (decode cL_gets 1) 1 L (.int x :: r) h cs ss = (5 < L.length ∧ K 3 (L.set 5 (some (.int x))) r h cs ss) := by
  rw [dL_gets_1, ey_ok, nx_istore_4] <;> rfl
theorem qL_gets_3 : ey F ini rt fin K0 K (decode cL_gets 3) 3 L (st) h cs ss = (lhas L 5 ∧ isI (lgt L 5) ∧ K 5 L (lgt L 5 :: st) h cs ss) := by
  rw [dL_gets_3, ey_ok, nx_iload_0] <;> rfl
theorem qL_gets_5 : ey F ini rt fin K0 K (decode cL_gets 5) 5 L (st) h cs ss = (lhas L 0 ∧ isRf (lgt L 0) ∧ K 6 L (lgt L 0 :: st) h cs ss) := by
  rw [dL_gets_5, ey_ok, nx_aload_n_3] <;> rfl
theorem qL_gets_6 : ey F ini rt fin K0 K (decode cL_gets 6) 6 L (st) h cs ss = (K 7 L (.int 4 :: st) h cs ss) := by
  rw [dL_gets_6, ey_ok, nx_iconst_11] <;> rfl
theorem qL_gets_7 : ey F ini rt fin K0 K (decode cL_gets 7) 7 L (.int i :: .ref a :: r) h cs ss = (isA (h.1 a) (fun k m => k = 0 ∧ vp_in i m) ∧ K 8 L (h.2 a i.toNatClampNeg :: r) h cs ss) := by
  rw [dL_gets_7, ey_ok, nx_iaload_57]
theorem qL_gets_8 : ey F ini rt fin K0 K (decode cL_gets 8) 8 L (.int y :: .int x :: r) h cs ss = (if y ≤ x then K 65 L r h cs ss else K 11 L r h cs ss) := by
  rw [dL_gets_8, ey_ok, nx_if_icmp_39]
  exact and_l (by unfold jok; decide)
theorem qL_gets_11 : ey F ini rt fin K0 K (decode cL_gets 11) 11 L (st) h cs ss = (lhas L 1 ∧ isRf (lgt L 1) ∧ K 12 L (lgt L 1 :: st) h cs ss) := by
  rw [dL_gets_11, ey_ok, nx_aload_n_3] <;> rfl
theorem qL_gets_12 : ey F ini rt fin K0 K (decode cL_gets 12) 12 L (st) h cs ss = (K 14 L (.int 30 :: st) h cs ss) := by
  rw [dL_gets_12, ey_ok, nx_bipush_12] <;> rfl
theorem qL_gets_14 : ey F ini rt fin K0 K (decode cL_gets 14) 14 L (st) h cs ss = (lhas L 3 ∧ isI (lgt L 3) ∧ K 15 L (lgt L 3 :: st) h cs ss) := by
  rw [dL_gets_14, ey_ok, nx_iload_n_1] <;> rfl
theorem qL_gets_15 : ey F ini rt fin K0 K (decode cL_gets 15) 15 L (.int y :: .int x :: r) h cs ss = (K 16 L (.int (x + y) :: r) h cs ss) := by
  rw [dL_gets_15, ey_ok, nx_iadd_16]
theorem qL_gets_16 : ey F ini rt fin K0 K (decode cL_gets 16) 16 L (.int i :: .ref a :: r) h cs ss = (isA (h.1 a) (fun k m => k = 0 ∧ vp_in i m) ∧ K 17 L (h.2 a i.toNatClampNeg :: r) h cs ss) := by
  rw [dL_gets_16, ey_ok, nx_iaload_57]
theorem qL_gets_17 : ey F ini rt fin K0 K (decode cL_gets 17) 17 L (st) h cs ss = (lhas L 4 ∧ isI (lgt L 4) ∧ K 19 L (lgt L 4 :: st) h cs ss) := by
  rw [dL_gets_17, ey_ok, nx_iload_0] <;> rfl
theorem qL_gets_19 : ey F ini rt fin K0 K (decode cL_gets 19) 19 L (.int y :: .int x :: r) h cs ss = (if x = y then K 65 L r h cs ss else K 22 L r h cs ss) := by
  rw [dL_gets_19, ey_ok, nx_if_icmp_36]
  exact and_l (by unfold jok; decide)
theorem qL_gets_22 : ey F ini rt fin K0 K (decode cL_gets 22) 22 L (st) h cs ss = (lhas L 2 ∧ isRf (lgt L 2) ∧ K 23 L (lgt L 2 :: st) h cs ss) := by
  rw [dL_gets_22, ey_ok, nx_aload_n_3] <;> rfl
theorem qL_gets_23 : ey F ini rt fin K0 K (decode cL_gets 23) 23 L (st) h cs ss = (K 25 L (.int 24 :: st) h cs ss) := by
  rw [dL_gets_23, ey_ok, nx_bipush_12] <;> rfl
theorem qL_gets_25 : ey F ini rt fin K0 K (decode cL_gets 25) 25 L (st) h cs ss = (lhas L 5 ∧ isI (lgt L 5) ∧ K 27 L (lgt L 5 :: st) h cs ss) := by
  rw [dL_gets_25, ey_ok, nx_iload_0] <;> rfl
theorem qL_gets_27 : ey F ini rt fin K0 K (decode cL_gets 27) 27 L (.int y :: .int x :: r) h cs ss = (K 28 L (.int (x + y) :: r) h cs ss) := by
  rw [dL_gets_27, ey_ok, nx_iadd_16]
theorem qL_gets_28 : ey F ini rt fin K0 K (decode cL_gets 28) 28 L (st) h cs ss = (lhas L 2 ∧ isRf (lgt L 2) ∧ K 29 L (lgt L 2 :: st) h cs ss) := by
  rw [dL_gets_28, ey_ok, nx_aload_n_3] <;> rfl
theorem qL_gets_29 : ey F ini rt fin K0 K (decode cL_gets 29) 29 L (st) h cs ss = (lhas L 5 ∧ isI (lgt L 5) ∧ K 31 L (lgt L 5 :: st) h cs ss) := by
  rw [dL_gets_29, ey_ok, nx_iload_0] <;> rfl
theorem qL_gets_31 : ey F ini rt fin K0 K (decode cL_gets 31) 31 L (.int i :: .ref a :: r) h cs ss = (isA (h.1 a) (fun k m => k = 0 ∧ vp_in i m) ∧ K 32 L (h.2 a i.toNatClampNeg :: r) h cs ss) := by
  rw [dL_gets_31, ey_ok, nx_iaload_57]
theorem qL_gets_32 : ey F ini rt fin K0 K (decode cL_gets 32) 32 L (st) h cs ss = (lhas L 3 ∧ isI (lgt L 3) ∧ K 33 L (lgt L 3 :: st) h cs ss) := by
  rw [dL_gets_32, ey_ok, nx_iload_n_1] <;> rfl
theorem qL_gets_33 : ey F ini rt fin K0 K (decode cL_gets 33) 33 L (.int y :: .int x :: r) h cs ss = (if x = y then K 47 L r h cs ss else K 36 L r h cs ss) := by
  rw [dL_gets_33, ey_ok, nx_if_icmp_36]
  exact and_l (by unfold jok; decide)
theorem qL_gets_36 : ey F ini rt fin K0 K (decode cL_gets 36) 36 L (st) h cs ss = (lhas L 2 ∧ isRf (lgt L 2) ∧ K 37 L (lgt L 2 :: st) h cs ss) := by
  rw [dL_gets_36, ey_ok, nx_aload_n_3] <;> rfl
theorem qL_gets_37 : ey F ini rt fin K0 K (decode cL_gets 37) 37 L (st) h cs ss = (K 39 L (.int 12 :: st) h cs ss) := by
  rw [dL_gets_37, ey_ok, nx_bipush_12] <;> rfl
theorem qL_gets_39 : ey F ini rt fin K0 K (decode cL_gets 39) 39 L (st) h cs ss = (lhas L 5 ∧ isI (lgt L 5) ∧ K 41 L (lgt L 5 :: st) h cs ss) := by
  rw [dL_gets_39, ey_ok, nx_iload_0] <;> rfl
theorem qL_gets_41 : ey F ini rt fin K0 K (decode cL_gets 41) 41 L (.int y :: .int x :: r) h cs ss = (K 42 L (.int (x + y) :: r) h cs ss) := by
  rw [dL_gets_41, ey_ok, nx_iadd_16]
theorem qL_gets_42 : ey F ini rt fin K0 K (decode cL_gets 42) 42 L (.int i :: .ref a :: r) h cs ss = (isA (h.1 a) (fun k m => k = 0 ∧ vp_in i m) ∧ K 43 L (h.2 a i.toNatClampNeg :: r) h cs ss) := by
  rw [dL_gets_42, ey_ok, nx_iaload_57]
theorem qL_gets_43 : ey F ini rt fin K0 K (decode cL_gets 43) 43 L (st) h cs ss = (lhas L 3 ∧ isI (lgt L 3) ∧ K 44 L (lgt L 3 :: st) h cs ss) := by
  rw [dL_gets_43, ey_ok, nx_iload_n_1] <;> rfl
theorem qL_gets_44 : ey F ini rt fin K0 K (decode cL_gets 44) 44 L (.int y :: .int x :: r) h cs ss = (if ¬ x = y then K 51 L r h cs ss else K 47 L r h cs ss) := by
  rw [dL_gets_44, ey_ok, nx_if_icmp_37]
  exact and_l (by unfold jok; decide)
theorem qL_gets_47 : ey F ini rt fin K0 K (decode cL_gets 47) 47 L (st) h cs ss = (K 48 L (.int 0 :: st) h cs ss) := by
  rw [dL_gets_47, ey_ok, nx_iconst_11] <;> rfl
theorem qL_gets_48 : ey F ini rt fin K0 K (decode cL_gets 48) 48 L (st) h cs ss = (K 58 L st h cs ss) := by
  rw [dL_gets_48, ey_ok, nx_goto_29]
  exact and_l (by unfold jok; decide)
theorem qL_gets_51 : ey F ini rt fin K0 K (decode cL_gets 51) 51 L (st) h cs ss = (lhas L 2 ∧ isRf (lgt L 2) ∧ K 52 L (lgt L 2 :: st) h cs ss) := by
  rw [dL_gets_51, ey_ok, nx_aload_n_3] <;> rfl
theorem qL_gets_52 : ey F ini rt fin K0 K (decode cL_gets 52) 52 L (st) h cs ss = (K 54 L (.int 24 :: st) h cs ss) := by
  rw [dL_gets_52, ey_ok, nx_bipush_12] <;> rfl
theorem qL_gets_54 : ey F ini rt fin K0 K (decode cL_gets 54) 54 L (st) h cs ss = (lhas L 5 ∧ isI (lgt L 5) ∧ K 56 L (lgt L 5 :: st) h cs ss) := by
  rw [dL_gets_54, ey_ok, nx_iload_0] <;> rfl
theorem qL_gets_56 : ey F ini rt fin K0 K (decode cL_gets 56) 56 L (.int y :: .int x :: r) h cs ss = (K 57 L (.int (x + y) :: r) h cs ss) := by
  rw [dL_gets_56, ey_ok, nx_iadd_16]
theorem qL_gets_57 : ey F ini rt fin K0 K (decode cL_gets 57) 57 L (.int i :: .ref a :: r) h cs ss = (isA (h.1 a) (fun k m => k = 0 ∧ vp_in i m) ∧ K 58 L (h.2 a i.toNatClampNeg :: r) h cs ss) := by
  rw [dL_gets_57, ey_ok, nx_iaload_57]
theorem qL_gets_58 : ey F ini rt fin K0 K (decode cL_gets 58) 58 L (.int x :: .int i :: .ref a :: r) h cs ss = (isA (h.1 a) (fun k m => k = 0 ∧ vp_in i m) ∧ K 59 L r (h.1, hup h.2 a i.toNatClampNeg (.int x)) cs ss) := by
  rw [dL_gets_58, ey_ok, nx_iastore_62]
theorem qL_gets_59 : ey F ini rt fin K0 K (decode cL_gets 59) 59 L (st) h cs ss = (lhas L 5 ∧ isI (lgt L 5) ∧ K 62 (L.set 5 (some (inc (lgt L 5) 1))) st h cs ss) := by
  rw [dL_gets_59, ey_ok, nx_iinc_10] <;> rfl
theorem qL_gets_62 : ey F ini rt fin K0 K (decode cL_gets 62) 62 L (st) h cs ss = (K 3 L st h cs ss) := by
  rw [dL_gets_62, ey_ok, nx_goto_29]
  exact and_l (by unfold jok; decide)
theorem qL_gets_65 : ey F ini rt fin K0 K (decode cL_gets 65) 65 L (st) h cs ss = (lhas L 1 ∧ isRf (lgt L 1) ∧ K 66 L (lgt L 1 :: st) h cs ss) := by
  rw [dL_gets_65, ey_ok, nx_aload_n_3] <;> rfl
theorem qL_gets_66 : ey F ini rt fin K0 K (decode cL_gets 66) 66 L (st) h cs ss = (K 68 L (.int 30 :: st) h cs ss) := by
  rw [dL_gets_66, ey_ok, nx_bipush_12] <;> rfl
theorem qL_gets_68 : ey F ini rt fin K0 K (decode cL_gets 68) 68 L (st) h cs ss = (lhas L 3 ∧ isI (lgt L 3) ∧ K 69 L (lgt L 3 :: st) h cs ss) := by
  rw [dL_gets_68, ey_ok, nx_iload_n_1] <;> rfl
theorem qL_gets_69 : ey F ini rt fin K0 K (decode cL_gets 69) 69 L (.int y :: .int x :: r) h cs ss = (K 70 L (.int (x + y) :: r) h cs ss) := by
  rw [dL_gets_69, ey_ok, nx_iadd_16]
theorem qL_gets_70 : ey F ini rt fin K0 K (decode cL_gets 70) 70 L (st) h cs ss = (lhas L 4 ∧ isI (lgt L 4) ∧ K 72 L (lgt L 4 :: st) h cs ss) := by
  rw [dL_gets_70, ey_ok, nx_iload_0] <;> rfl
theorem qL_gets_72 : ey F ini rt fin K0 K (decode cL_gets 72) 72 L (.int x :: .int i :: .ref a :: r) h cs ss = (isA (h.1 a) (fun k m => k = 0 ∧ vp_in i m) ∧ K 73 L r (h.1, hup h.2 a i.toNatClampNeg (.int x)) cs ss) := by
  rw [dL_gets_72, ey_ok, nx_iastore_62]
theorem qL_gets_73 : ey F ini rt fin K0 K (decode cL_gets 73) 73 L ([]) h cs ss = (rt = none ∧ fin none h cs ss) := by
  rw [dL_gets_73, ey_ok, nx_return__71]
theorem qL_ring_0 : ey F ini rt fin K0 K (decode cL_ring 0) 0 L (st) h cs ss = (K 1 L (.int 0 :: st) h cs ss) := by
  rw [dL_ring_0, ey_ok, nx_iconst_11] <;> rfl
theorem qL_ring_1 : ey F ini rt fin K0 K (decode cL_ring 1) 1 L (.int x :: r) h cs ss = (5 < L.length ∧ K 3 (L.set 5 (some (.int x))) r h cs ss) := by
  rw [dL_ring_1, ey_ok, nx_istore_4] <;> rfl
theorem qL_ring_3 : ey F ini rt fin K0 K (decode cL_ring 3) 3 L (st) h cs ss = (lhas L 2 ∧ isRf (lgt L 2) ∧ K 4 L (lgt L 2 :: st) h cs ss) := by
  rw [dL_ring_3, ey_ok, nx_aload_n_3] <;> rfl
theorem qL_ring_4 : ey F ini rt fin K0 K (decode cL_ring 4) 4 L (st) h cs ss = (K 6 L (.int 24 :: st) h cs ss) := by
  rw [dL_ring_4, ey_ok, nx_bipush_12] <;> rfl
theorem qL_ring_6 : ey F ini rt fin K0 K (decode cL_ring 6) 6 L (st) h cs ss = (lhas L 4 ∧ isI (lgt L 4) ∧ K 8 L (lgt L 4 :: st) h cs ss) := by
  rw [dL_ring_6, ey_ok, nx_iload_0] <;> rfl
theorem qL_ring_8 : ey F ini rt fin K0 K (decode cL_ring 8) 8 L (.int y :: .int x :: r) h cs ss = (K 9 L (.int (x + y) :: r) h cs ss) := by
  rw [dL_ring_8, ey_ok, nx_iadd_16]
theorem qL_ring_9 : ey F ini rt fin K0 K (decode cL_ring 9) 9 L (.int i :: .ref a :: r) h cs ss = (isA (h.1 a) (fun k m => k = 0 ∧ vp_in i m) ∧ K 10 L (h.2 a i.toNatClampNeg :: r) h cs ss) := by
  rw [dL_ring_9, ey_ok, nx_iaload_57]
theorem qL_ring_10 : ey F ini rt fin K0 K (decode cL_ring 10) 10 L (st) h cs ss = (K 11 L (.int 1 :: st) h cs ss) := by
  rw [dL_ring_10, ey_ok, nx_iconst_11] <;> rfl
theorem qL_ring_11 : ey F ini rt fin K0 K (decode cL_ring 11) 11 L (.int y :: .int x :: r) h cs ss = (if ¬ x = y then K 19 L r h cs ss else K 14 L r h cs ss) := by
  rw [dL_ring_11, ey_ok, nx_if_icmp_37]
  exact and_l (by unfold jok; decide)
theorem qL_ring_14 : ey F ini rt fin K0 K (decode cL_ring 14) 14 L (st) h cs ss = (lhas L 4 ∧ isI (lgt L 4) ∧ K 16 L (lgt L 4 :: st) h cs ss) := by
  rw [dL_ring_14, ey_ok, nx_iload_0] <;> rfl
theorem qL_ring_16 : ey F ini rt fin K0 K (decode cL_ring 16) 16 L (st) h cs ss = (K 20 L st h cs ss) := by
  rw [dL_ring_16, ey_ok, nx_goto_29]
  exact and_l (by unfold jok; decide)
theorem qL_ring_19 : ey F ini rt fin K0 K (decode cL_ring 19) 19 L (st) h cs ss = (K 20 L (.int (-1) :: st) h cs ss) := by
  rw [dL_ring_19, ey_ok, nx_iconst_11] <;> rfl
theorem qL_ring_20 : ey F ini rt fin K0 K (decode cL_ring 20) 20 L (.int x :: r) h cs ss = (6 < L.length ∧ K 22 (L.set 6 (some (.int x))) r h cs ss) := by
  rw [dL_ring_20, ey_ok, nx_istore_4] <;> rfl
theorem qL_ring_22 : ey F ini rt fin K0 K (decode cL_ring 22) 22 L (st) h cs ss = (lhas L 6 ∧ isI (lgt L 6) ∧ K 24 L (lgt L 6 :: st) h cs ss) := by
  rw [dL_ring_22, ey_ok, nx_iload_0] <;> rfl
theorem qL_ring_24 : ey F ini rt fin K0 K (decode cL_ring 24) 24 L (.int x :: r) h cs ss = (if x < 0 then K 178 L r h cs ss else K 27 L r h cs ss) := by
  rw [dL_ring_24, ey_ok, nx_ifond_32]
  exact and_l (by unfold jok; decide)
theorem qL_ring_27 : ey F ini rt fin K0 K (decode cL_ring 27) 27 L (st) h cs ss = (lhas L 5 ∧ isI (lgt L 5) ∧ K 29 L (lgt L 5 :: st) h cs ss) := by
  rw [dL_ring_27, ey_ok, nx_iload_0] <;> rfl
theorem qL_ring_29 : ey F ini rt fin K0 K (decode cL_ring 29) 29 L (st) h cs ss = (K 31 L (.int 8 :: st) h cs ss) := by
  rw [dL_ring_29, ey_ok, nx_bipush_12] <;> rfl
theorem qL_ring_31 : ey F ini rt fin K0 K (decode cL_ring 31) 31 L (.int y :: .int x :: r) h cs ss = (if y ≤ x then K 178 L r h cs ss else K 34 L r h cs ss) := by
  rw [dL_ring_31, ey_ok, nx_if_icmp_39]
  exact and_l (by unfold jok; decide)
theorem qL_ring_34 : ey F ini rt fin K0 K (decode cL_ring 34) 34 L (st) h cs ss = (K 35 L (.int 0 :: st) h cs ss) := by
  rw [dL_ring_34, ey_ok, nx_iconst_11] <;> rfl
theorem qL_ring_35 : ey F ini rt fin K0 K (decode cL_ring 35) 35 L (.int x :: r) h cs ss = (7 < L.length ∧ K 37 (L.set 7 (some (.int x))) r h cs ss) := by
  rw [dL_ring_35, ey_ok, nx_istore_4] <;> rfl
theorem qL_ring_37 : ey F ini rt fin K0 K (decode cL_ring 37) 37 L (st) h cs ss = (K 38 L (.int 0 :: st) h cs ss) := by
  rw [dL_ring_37, ey_ok, nx_iconst_11] <;> rfl
theorem qL_ring_38 : ey F ini rt fin K0 K (decode cL_ring 38) 38 L (.int x :: r) h cs ss = (8 < L.length ∧ K 40 (L.set 8 (some (.int x))) r h cs ss) := by
  rw [dL_ring_38, ey_ok, nx_istore_4] <;> rfl
theorem qL_ring_40 : ey F ini rt fin K0 K (decode cL_ring 40) 40 L (st) h cs ss = (lhas L 8 ∧ isI (lgt L 8) ∧ K 42 L (lgt L 8 :: st) h cs ss) := by
  rw [dL_ring_40, ey_ok, nx_iload_0] <;> rfl
theorem qL_ring_42 : ey F ini rt fin K0 K (decode cL_ring 42) 42 L (st) h cs ss = (lhas L 5 ∧ isI (lgt L 5) ∧ K 44 L (lgt L 5 :: st) h cs ss) := by
  rw [dL_ring_42, ey_ok, nx_iload_0] <;> rfl
theorem qL_ring_44 : ey F ini rt fin K0 K (decode cL_ring 44) 44 L (.int y :: .int x :: r) h cs ss = (if y ≤ x then K 88 L r h cs ss else K 47 L r h cs ss) := by
  rw [dL_ring_44, ey_ok, nx_if_icmp_39]
  exact and_l (by unfold jok; decide)
theorem qL_ring_47 : ey F ini rt fin K0 K (decode cL_ring 47) 47 L (st) h cs ss = (lhas L 7 ∧ isI (lgt L 7) ∧ K 49 L (lgt L 7 :: st) h cs ss) := by
  rw [dL_ring_47, ey_ok, nx_iload_0] <;> rfl
theorem qL_ring_49 : ey F ini rt fin K0 K (decode cL_ring 49) 49 L (.int x :: r) h cs ss = (if ¬ x = 0 then K 75 L r h cs ss else K 52 L r h cs ss) := by
  rw [dL_ring_49, ey_ok, nx_ifond_31]
  exact and_l (by unfold jok; decide)
theorem qL_ring_52 : ey F ini rt fin K0 K (decode cL_ring 52) 52 L (st) h cs ss = (lhas L 1 ∧ isRf (lgt L 1) ∧ K 53 L (lgt L 1 :: st) h cs ss) := by
  rw [dL_ring_52, ey_ok, nx_aload_n_3] <;> rfl
theorem qL_ring_53 : ey F ini rt fin K0 K (decode cL_ring 53) 53 L (st) h cs ss = (K 55 L (.int 30 :: st) h cs ss) := by
  rw [dL_ring_53, ey_ok, nx_bipush_12] <;> rfl
theorem qL_ring_55 : ey F ini rt fin K0 K (decode cL_ring 55) 55 L (st) h cs ss = (lhas L 2 ∧ isRf (lgt L 2) ∧ K 56 L (lgt L 2 :: st) h cs ss) := by
  rw [dL_ring_55, ey_ok, nx_aload_n_3] <;> rfl
theorem qL_ring_56 : ey F ini rt fin K0 K (decode cL_ring 56) 56 L (st) h cs ss = (lhas L 3 ∧ isRf (lgt L 3) ∧ K 57 L (lgt L 3 :: st) h cs ss) := by
  rw [dL_ring_56, ey_ok, nx_aload_n_3] <;> rfl
theorem qL_ring_57 : ey F ini rt fin K0 K (decode cL_ring 57) 57 L (st) h cs ss = (lhas L 8 ∧ isI (lgt L 8) ∧ K 59 L (lgt L 8 :: st) h cs ss) := by
  rw [dL_ring_57, ey_ok, nx_iload_0] <;> rfl
theorem qL_ring_59 : ey F ini rt fin K0 K (decode cL_ring 59) 59 L (.int i :: .ref a :: r) h cs ss = (isA (h.1 a) (fun k m => k = 0 ∧ vp_in i m) ∧ K 60 L (h.2 a i.toNatClampNeg :: r) h cs ss) := by
  rw [dL_ring_59, ey_ok, nx_iaload_57]
theorem qL_ring_60 : ey F ini rt fin K0 K (decode cL_ring 60) 60 L (.int i :: .ref a :: r) h cs ss = (isA (h.1 a) (fun k m => k = 0 ∧ vp_in i m) ∧ K 61 L (h.2 a i.toNatClampNeg :: r) h cs ss) := by
  rw [dL_ring_60, ey_ok, nx_iaload_57]
theorem qL_ring_61 : ey F ini rt fin K0 K (decode cL_ring 61) 61 L (.int y :: .int x :: r) h cs ss = (K 62 L (.int (x + y) :: r) h cs ss) := by
  rw [dL_ring_61, ey_ok, nx_iadd_16]
theorem qL_ring_62 : ey F ini rt fin K0 K (decode cL_ring 62) 62 L (.int i :: .ref a :: r) h cs ss = (isA (h.1 a) (fun k m => k = 0 ∧ vp_in i m) ∧ K 63 L (h.2 a i.toNatClampNeg :: r) h cs ss) := by
  rw [dL_ring_62, ey_ok, nx_iaload_57]
theorem qL_ring_63 : ey F ini rt fin K0 K (decode cL_ring 63) 63 L (st) h cs ss = (lhas L 1 ∧ isRf (lgt L 1) ∧ K 64 L (lgt L 1 :: st) h cs ss) := by
  rw [dL_ring_63, ey_ok, nx_aload_n_3] <;> rfl
theorem qL_ring_64 : ey F ini rt fin K0 K (decode cL_ring 64) 64 L (st) h cs ss = (K 66 L (.int 30 :: st) h cs ss) := by
  rw [dL_ring_64, ey_ok, nx_bipush_12] <;> rfl
theorem qL_ring_66 : ey F ini rt fin K0 K (decode cL_ring 66) 66 L (st) h cs ss = (lhas L 2 ∧ isRf (lgt L 2) ∧ K 67 L (lgt L 2 :: st) h cs ss) := by
  rw [dL_ring_66, ey_ok, nx_aload_n_3] <;> rfl
theorem qL_ring_67 : ey F ini rt fin K0 K (decode cL_ring 67) 67 L (st) h cs ss = (lhas L 6 ∧ isI (lgt L 6) ∧ K 69 L (lgt L 6 :: st) h cs ss) := by
  rw [dL_ring_67, ey_ok, nx_iload_0] <;> rfl
theorem qL_ring_69 : ey F ini rt fin K0 K (decode cL_ring 69) 69 L (.int i :: .ref a :: r) h cs ss = (isA (h.1 a) (fun k m => k = 0 ∧ vp_in i m) ∧ K 70 L (h.2 a i.toNatClampNeg :: r) h cs ss) := by
  rw [dL_ring_69, ey_ok, nx_iaload_57]
theorem qL_ring_70 : ey F ini rt fin K0 K (decode cL_ring 70) 70 L (.int y :: .int x :: r) h cs ss = (K 71 L (.int (x + y) :: r) h cs ss) := by
  rw [dL_ring_70, ey_ok, nx_iadd_16]
theorem qL_ring_71 : ey F ini rt fin K0 K (decode cL_ring 71) 71 L (.int i :: .ref a :: r) h cs ss = (isA (h.1 a) (fun k m => k = 0 ∧ vp_in i m) ∧ K 72 L (h.2 a i.toNatClampNeg :: r) h cs ss) := by
  rw [dL_ring_71, ey_ok, nx_iaload_57]
theorem qL_ring_72 : ey F ini rt fin K0 K (decode cL_ring 72) 72 L (.int y :: .int x :: r) h cs ss = (if ¬ x = y then K 79 L r h cs ss else K 75 L r h cs ss) := by
  rw [dL_ring_72, ey_ok, nx_if_icmp_37]
  exact and_l (by unfold jok; decide)
theorem qL_ring_75 : ey F ini rt fin K0 K (decode cL_ring 75) 75 L (st) h cs ss = (K 76 L (.int 1 :: st) h cs ss) := by
  rw [dL_ring_75, ey_ok, nx_iconst_11] <;> rfl
theorem qL_ring_76 : ey F ini rt fin K0 K (decode cL_ring 76) 76 L (st) h cs ss = (K 80 L st h cs ss) := by
  rw [dL_ring_76, ey_ok, nx_goto_29]
  exact and_l (by unfold jok; decide)
theorem qL_ring_79 : ey F ini rt fin K0 K (decode cL_ring 79) 79 L (st) h cs ss = (K 80 L (.int 0 :: st) h cs ss) := by
  rw [dL_ring_79, ey_ok, nx_iconst_11] <;> rfl
theorem qL_ring_80 : ey F ini rt fin K0 K (decode cL_ring 80) 80 L (.int x :: r) h cs ss = (7 < L.length ∧ K 82 (L.set 7 (some (.int x))) r h cs ss) := by
  rw [dL_ring_80, ey_ok, nx_istore_4] <;> rfl
theorem qL_ring_82 : ey F ini rt fin K0 K (decode cL_ring 82) 82 L (st) h cs ss = (lhas L 8 ∧ isI (lgt L 8) ∧ K 85 (L.set 8 (some (inc (lgt L 8) 1))) st h cs ss) := by
  rw [dL_ring_82, ey_ok, nx_iinc_10] <;> rfl
theorem qL_ring_85 : ey F ini rt fin K0 K (decode cL_ring 85) 85 L (st) h cs ss = (K 40 L st h cs ss) := by
  rw [dL_ring_85, ey_ok, nx_goto_29]
  exact and_l (by unfold jok; decide)
theorem qL_ring_88 : ey F ini rt fin K0 K (decode cL_ring 88) 88 L (st) h cs ss = (lhas L 7 ∧ isI (lgt L 7) ∧ K 90 L (lgt L 7 :: st) h cs ss) := by
  rw [dL_ring_88, ey_ok, nx_iload_0] <;> rfl
theorem qL_ring_90 : ey F ini rt fin K0 K (decode cL_ring 90) 90 L (.int x :: r) h cs ss = (if x = 0 then K 95 L r h cs ss else K 93 L r h cs ss) := by
  rw [dL_ring_90, ey_ok, nx_ifond_30]
  exact and_l (by unfold jok; decide)
theorem qL_ring_93 : ey F ini rt fin K0 K (decode cL_ring 93) 93 L (st) h cs ss = (K 94 L (.int 0 :: st) h cs ss) := by
  rw [dL_ring_93, ey_ok, nx_iconst_11] <;> rfl
theorem qL_ring_94 : ey F ini rt fin K0 K (decode cL_ring 94) 94 L ([.int x]) h cs ss = (rokI rt x ∧ fin (some (.int x)) h cs ss) := by
  rw [dL_ring_94, ey_ok, nx_ireturn_68]
theorem qL_ring_95 : ey F ini rt fin K0 K (decode cL_ring 95) 95 L (st) h cs ss = (lhas L 3 ∧ isRf (lgt L 3) ∧ K 96 L (lgt L 3 :: st) h cs ss) := by
  rw [dL_ring_95, ey_ok, nx_aload_n_3] <;> rfl
theorem qL_ring_96 : ey F ini rt fin K0 K (decode cL_ring 96) 96 L (st) h cs ss = (lhas L 5 ∧ isI (lgt L 5) ∧ K 98 L (lgt L 5 :: st) h cs ss) := by
  rw [dL_ring_96, ey_ok, nx_iload_0] <;> rfl
theorem qL_ring_98 : ey F ini rt fin K0 K (decode cL_ring 98) 98 L (st) h cs ss = (lhas L 6 ∧ isI (lgt L 6) ∧ K 100 L (lgt L 6 :: st) h cs ss) := by
  rw [dL_ring_98, ey_ok, nx_iload_0] <;> rfl
theorem qL_ring_100 : ey F ini rt fin K0 K (decode cL_ring 100) 100 L (.int x :: .int i :: .ref a :: r) h cs ss = (isA (h.1 a) (fun k m => k = 0 ∧ vp_in i m) ∧ K 101 L r (h.1, hup h.2 a i.toNatClampNeg (.int x)) cs ss) := by
  rw [dL_ring_100, ey_ok, nx_iastore_62]
theorem qL_ring_101 : ey F ini rt fin K0 K (decode cL_ring 101) 101 L (st) h cs ss = (lhas L 5 ∧ isI (lgt L 5) ∧ K 104 (L.set 5 (some (inc (lgt L 5) 1))) st h cs ss) := by
  rw [dL_ring_101, ey_ok, nx_iinc_10] <;> rfl
theorem qL_ring_104 : ey F ini rt fin K0 K (decode cL_ring 104) 104 L (st) h cs ss = (lhas L 2 ∧ isRf (lgt L 2) ∧ K 105 L (lgt L 2 :: st) h cs ss) := by
  rw [dL_ring_104, ey_ok, nx_aload_n_3] <;> rfl
theorem qL_ring_105 : ey F ini rt fin K0 K (decode cL_ring 105) 105 L (st) h cs ss = (K 107 L (.int 12 :: st) h cs ss) := by
  rw [dL_ring_105, ey_ok, nx_bipush_12] <;> rfl
theorem qL_ring_107 : ey F ini rt fin K0 K (decode cL_ring 107) 107 L (st) h cs ss = (lhas L 6 ∧ isI (lgt L 6) ∧ K 109 L (lgt L 6 :: st) h cs ss) := by
  rw [dL_ring_107, ey_ok, nx_iload_0] <;> rfl
theorem qL_ring_109 : ey F ini rt fin K0 K (decode cL_ring 109) 109 L (.int y :: .int x :: r) h cs ss = (K 110 L (.int (x + y) :: r) h cs ss) := by
  rw [dL_ring_109, ey_ok, nx_iadd_16]
theorem qL_ring_110 : ey F ini rt fin K0 K (decode cL_ring 110) 110 L (.int i :: .ref a :: r) h cs ss = (isA (h.1 a) (fun k m => k = 0 ∧ vp_in i m) ∧ K 111 L (h.2 a i.toNatClampNeg :: r) h cs ss) := by
  rw [dL_ring_110, ey_ok, nx_iaload_57]
theorem qL_ring_111 : ey F ini rt fin K0 K (decode cL_ring 111) 111 L (.int x :: r) h cs ss = (8 < L.length ∧ K 113 (L.set 8 (some (.int x))) r h cs ss) := by
  rw [dL_ring_111, ey_ok, nx_istore_4] <;> rfl
theorem qL_ring_113 : ey F ini rt fin K0 K (decode cL_ring 113) 113 L (st) h cs ss = (lhas L 8 ∧ isI (lgt L 8) ∧ K 115 L (lgt L 8 :: st) h cs ss) := by
  rw [dL_ring_113, ey_ok, nx_iload_0] <;> rfl
theorem qL_ring_115 : ey F ini rt fin K0 K (decode cL_ring 115) 115 L (st) h cs ss = (lhas L 2 ∧ isRf (lgt L 2) ∧ K 116 L (lgt L 2 :: st) h cs ss) := by
  rw [dL_ring_115, ey_ok, nx_aload_n_3] <;> rfl
theorem qL_ring_116 : ey F ini rt fin K0 K (decode cL_ring 116) 116 L (st) h cs ss = (lhas L 4 ∧ isI (lgt L 4) ∧ K 118 L (lgt L 4 :: st) h cs ss) := by
  rw [dL_ring_116, ey_ok, nx_iload_0] <;> rfl
theorem qL_ring_118 : ey F ini rt fin K0 K (decode cL_ring 118) 118 L (.int i :: .ref a :: r) h cs ss = (isA (h.1 a) (fun k m => k = 0 ∧ vp_in i m) ∧ K 119 L (h.2 a i.toNatClampNeg :: r) h cs ss) := by
  rw [dL_ring_118, ey_ok, nx_iaload_57]
theorem qL_ring_119 : ey F ini rt fin K0 K (decode cL_ring 119) 119 L (.int y :: .int x :: r) h cs ss = (if ¬ x = y then K 125 L r h cs ss else K 122 L r h cs ss) := by
  rw [dL_ring_119, ey_ok, nx_if_icmp_37]
  exact and_l (by unfold jok; decide)
theorem qL_ring_122 : ey F ini rt fin K0 K (decode cL_ring 122) 122 L (st) h cs ss = (lhas L 5 ∧ isI (lgt L 5) ∧ K 124 L (lgt L 5 :: st) h cs ss) := by
  rw [dL_ring_122, ey_ok, nx_iload_0] <;> rfl
theorem qL_ring_124 : ey F ini rt fin K0 K (decode cL_ring 124) 124 L ([.int x]) h cs ss = (rokI rt x ∧ fin (some (.int x)) h cs ss) := by
  rw [dL_ring_124, ey_ok, nx_ireturn_68]
theorem qL_ring_125 : ey F ini rt fin K0 K (decode cL_ring 125) 125 L (st) h cs ss = (K 126 L (.int (-1) :: st) h cs ss) := by
  rw [dL_ring_125, ey_ok, nx_iconst_11] <;> rfl
theorem qL_ring_126 : ey F ini rt fin K0 K (decode cL_ring 126) 126 L (.int x :: r) h cs ss = (6 < L.length ∧ K 128 (L.set 6 (some (.int x))) r h cs ss) := by
  rw [dL_ring_126, ey_ok, nx_istore_4] <;> rfl
theorem qL_ring_128 : ey F ini rt fin K0 K (decode cL_ring 128) 128 L (st) h cs ss = (lhas L 0 ∧ isRf (lgt L 0) ∧ K 129 L (lgt L 0 :: st) h cs ss) := by
  rw [dL_ring_128, ey_ok, nx_aload_n_3] <;> rfl
theorem qL_ring_129 : ey F ini rt fin K0 K (decode cL_ring 129) 129 L (st) h cs ss = (K 130 L (.int 4 :: st) h cs ss) := by
  rw [dL_ring_129, ey_ok, nx_iconst_11] <;> rfl
theorem qL_ring_130 : ey F ini rt fin K0 K (decode cL_ring 130) 130 L (.int i :: .ref a :: r) h cs ss = (isA (h.1 a) (fun k m => k = 0 ∧ vp_in i m) ∧ K 131 L (h.2 a i.toNatClampNeg :: r) h cs ss) := by
  rw [dL_ring_130, ey_ok, nx_iaload_57]
theorem qL_ring_131 : ey F ini rt fin K0 K (decode cL_ring 131) 131 L (st) h cs ss = (K 132 L (.int 1 :: st) h cs ss) := by
  rw [dL_ring_131, ey_ok, nx_iconst_11] <;> rfl
theorem qL_ring_132 : ey F ini rt fin K0 K (decode cL_ring 132) 132 L (.int y :: .int x :: r) h cs ss = (K 133 L (.int (x - y) :: r) h cs ss) := by
  rw [dL_ring_132, ey_ok, nx_isub_17]
theorem qL_ring_133 : ey F ini rt fin K0 K (decode cL_ring 133) 133 L (.int x :: r) h cs ss = (9 < L.length ∧ K 135 (L.set 9 (some (.int x))) r h cs ss) := by
  rw [dL_ring_133, ey_ok, nx_istore_4] <;> rfl
theorem qL_ring_135 : ey F ini rt fin K0 K (decode cL_ring 135) 135 L (st) h cs ss = (lhas L 9 ∧ isI (lgt L 9) ∧ K 137 L (lgt L 9 :: st) h cs ss) := by
  rw [dL_ring_135, ey_ok, nx_iload_0] <;> rfl
theorem qL_ring_137 : ey F ini rt fin K0 K (decode cL_ring 137) 137 L (.int x :: r) h cs ss = (if x < 0 then K 175 L r h cs ss else K 140 L r h cs ss) := by
  rw [dL_ring_137, ey_ok, nx_ifond_32]
  exact and_l (by unfold jok; decide)
theorem qL_ring_140 : ey F ini rt fin K0 K (decode cL_ring 140) 140 L (st) h cs ss = (lhas L 2 ∧ isRf (lgt L 2) ∧ K 141 L (lgt L 2 :: st) h cs ss) := by
  rw [dL_ring_140, ey_ok, nx_aload_n_3] <;> rfl
theorem qL_ring_141 : ey F ini rt fin K0 K (decode cL_ring 141) 141 L (st) h cs ss = (K 143 L (.int 24 :: st) h cs ss) := by
  rw [dL_ring_141, ey_ok, nx_bipush_12] <;> rfl
theorem qL_ring_143 : ey F ini rt fin K0 K (decode cL_ring 143) 143 L (st) h cs ss = (lhas L 9 ∧ isI (lgt L 9) ∧ K 145 L (lgt L 9 :: st) h cs ss) := by
  rw [dL_ring_143, ey_ok, nx_iload_0] <;> rfl
theorem qL_ring_145 : ey F ini rt fin K0 K (decode cL_ring 145) 145 L (.int y :: .int x :: r) h cs ss = (K 146 L (.int (x + y) :: r) h cs ss) := by
  rw [dL_ring_145, ey_ok, nx_iadd_16]
theorem qL_ring_146 : ey F ini rt fin K0 K (decode cL_ring 146) 146 L (.int i :: .ref a :: r) h cs ss = (isA (h.1 a) (fun k m => k = 0 ∧ vp_in i m) ∧ K 147 L (h.2 a i.toNatClampNeg :: r) h cs ss) := by
  rw [dL_ring_146, ey_ok, nx_iaload_57]
theorem qL_ring_147 : ey F ini rt fin K0 K (decode cL_ring 147) 147 L (st) h cs ss = (K 148 L (.int 1 :: st) h cs ss) := by
  rw [dL_ring_147, ey_ok, nx_iconst_11] <;> rfl
theorem qL_ring_148 : ey F ini rt fin K0 K (decode cL_ring 148) 148 L (.int y :: .int x :: r) h cs ss = (if ¬ x = y then K 165 L r h cs ss else K 151 L r h cs ss) := by
  rw [dL_ring_148, ey_ok, nx_if_icmp_37]
  exact and_l (by unfold jok; decide)
theorem qL_ring_151 : ey F ini rt fin K0 K (decode cL_ring 151) 151 L (st) h cs ss = (lhas L 2 ∧ isRf (lgt L 2) ∧ K 152 L (lgt L 2 :: st) h cs ss) := by
  rw [dL_ring_151, ey_ok, nx_aload_n_3] <;> rfl
theorem qL_ring_152 : ey F ini rt fin K0 K (decode cL_ring 152) 152 L (st) h cs ss = (lhas L 9 ∧ isI (lgt L 9) ∧ K 154 L (lgt L 9 :: st) h cs ss) := by
  rw [dL_ring_152, ey_ok, nx_iload_0] <;> rfl
theorem qL_ring_154 : ey F ini rt fin K0 K (decode cL_ring 154) 154 L (.int i :: .ref a :: r) h cs ss = (isA (h.1 a) (fun k m => k = 0 ∧ vp_in i m) ∧ K 155 L (h.2 a i.toNatClampNeg :: r) h cs ss) := by
  rw [dL_ring_154, ey_ok, nx_iaload_57]
theorem qL_ring_155 : ey F ini rt fin K0 K (decode cL_ring 155) 155 L (st) h cs ss = (lhas L 8 ∧ isI (lgt L 8) ∧ K 157 L (lgt L 8 :: st) h cs ss) := by
  rw [dL_ring_155, ey_ok, nx_iload_0] <;> rfl
theorem qL_ring_157 : ey F ini rt fin K0 K (decode cL_ring 157) 157 L (.int y :: .int x :: r) h cs ss = (if ¬ x = y then K 165 L r h cs ss else K 160 L r h cs ss) := by
  rw [dL_ring_157, ey_ok, nx_if_icmp_37]
  exact and_l (by unfold jok; decide)
theorem qL_ring_160 : ey F ini rt fin K0 K (decode cL_ring 160) 160 L (st) h cs ss = (lhas L 9 ∧ isI (lgt L 9) ∧ K 162 L (lgt L 9 :: st) h cs ss) := by
  rw [dL_ring_160, ey_ok, nx_iload_0] <;> rfl
theorem qL_ring_162 : ey F ini rt fin K0 K (decode cL_ring 162) 162 L (st) h cs ss = (K 167 L st h cs ss) := by
  rw [dL_ring_162, ey_ok, nx_goto_29]
  exact and_l (by unfold jok; decide)
theorem qL_ring_165 : ey F ini rt fin K0 K (decode cL_ring 165) 165 L (st) h cs ss = (lhas L 6 ∧ isI (lgt L 6) ∧ K 167 L (lgt L 6 :: st) h cs ss) := by
  rw [dL_ring_165, ey_ok, nx_iload_0] <;> rfl
theorem qL_ring_167 : ey F ini rt fin K0 K (decode cL_ring 167) 167 L (.int x :: r) h cs ss = (6 < L.length ∧ K 169 (L.set 6 (some (.int x))) r h cs ss) := by
  rw [dL_ring_167, ey_ok, nx_istore_4] <;> rfl
theorem qL_ring_169 : ey F ini rt fin K0 K (decode cL_ring 169) 169 L (st) h cs ss = (lhas L 9 ∧ isI (lgt L 9) ∧ K 172 (L.set 9 (some (inc (lgt L 9) (-1)))) st h cs ss) := by
  rw [dL_ring_169, ey_ok, nx_iinc_10] <;> rfl
theorem qL_ring_172 : ey F ini rt fin K0 K (decode cL_ring 172) 172 L (st) h cs ss = (K 135 L st h cs ss) := by
  rw [dL_ring_172, ey_ok, nx_goto_29]
  exact and_l (by unfold jok; decide)
theorem qL_ring_175 : ey F ini rt fin K0 K (decode cL_ring 175) 175 L (st) h cs ss = (K 22 L st h cs ss) := by
  rw [dL_ring_175, ey_ok, nx_goto_29]
  exact and_l (by unfold jok; decide)
theorem qL_ring_178 : ey F ini rt fin K0 K (decode cL_ring 178) 178 L (st) h cs ss = (K 179 L (.int 0 :: st) h cs ss) := by
  rw [dL_ring_178, ey_ok, nx_iconst_11] <;> rfl
theorem qL_ring_179 : ey F ini rt fin K0 K (decode cL_ring 179) 179 L ([.int x]) h cs ss = (rokI rt x ∧ fin (some (.int x)) h cs ss) := by
  rw [dL_ring_179, ey_ok, nx_ireturn_68]
theorem qL_there_0 : ey F ini rt fin K0 K (decode cL_there 0) 0 L (st) h cs ss = (K 1 L (.int 0 :: st) h cs ss) := by
  rw [dL_there_0, ey_ok, nx_iconst_11] <;> rfl
theorem qL_there_1 : ey F ini rt fin K0 K (decode cL_there 1) 1 L (.int x :: r) h cs ss = (2 < L.length ∧ K 2 (L.set 2 (some (.int x))) r h cs ss) := by
  rw [dL_there_1, ey_ok, nx_istore_n_5] <;> rfl
theorem qL_there_2 : ey F ini rt fin K0 K (decode cL_there 2) 2 L (st) h cs ss = (K 3 L (.int 0 :: st) h cs ss) := by
  rw [dL_there_2, ey_ok, nx_iconst_11] <;> rfl
theorem qL_there_3 : ey F ini rt fin K0 K (decode cL_there 3) 3 L (.int x :: r) h cs ss = (3 < L.length ∧ K 4 (L.set 3 (some (.int x))) r h cs ss) := by
  rw [dL_there_3, ey_ok, nx_istore_n_5] <;> rfl
theorem qL_there_4 : ey F ini rt fin K0 K (decode cL_there 4) 4 L (st) h cs ss = (lhas L 3 ∧ isI (lgt L 3) ∧ K 5 L (lgt L 3 :: st) h cs ss) := by
  rw [dL_there_4, ey_ok, nx_iload_n_1] <;> rfl
theorem qL_there_5 : ey F ini rt fin K0 K (decode cL_there 5) 5 L (st) h cs ss = (lhas L 0 ∧ isRf (lgt L 0) ∧ K 6 L (lgt L 0 :: st) h cs ss) := by
  rw [dL_there_5, ey_ok, nx_aload_n_3] <;> rfl
theorem qL_there_6 : ey F ini rt fin K0 K (decode cL_there 6) 6 L (st) h cs ss = (K 7 L (.int 4 :: st) h cs ss) := by
  rw [dL_there_6, ey_ok, nx_iconst_11] <;> rfl
theorem qL_there_7 : ey F ini rt fin K0 K (decode cL_there 7) 7 L (.int i :: .ref a :: r) h cs ss = (isA (h.1 a) (fun k m => k = 0 ∧ vp_in i m) ∧ K 8 L (h.2 a i.toNatClampNeg :: r) h cs ss) := by
  rw [dL_there_7, ey_ok, nx_iaload_57]
theorem qL_there_8 : ey F ini rt fin K0 K (decode cL_there 8) 8 L (.int y :: .int x :: r) h cs ss = (if y ≤ x then K 26 L r h cs ss else K 11 L r h cs ss) := by
  rw [dL_there_8, ey_ok, nx_if_icmp_39]
  exact and_l (by unfold jok; decide)
theorem qL_there_11 : ey F ini rt fin K0 K (decode cL_there 11) 11 L (st) h cs ss = (lhas L 2 ∧ isI (lgt L 2) ∧ K 12 L (lgt L 2 :: st) h cs ss) := by
  rw [dL_there_11, ey_ok, nx_iload_n_1] <;> rfl
theorem qL_there_12 : ey F ini rt fin K0 K (decode cL_there 12) 12 L (st) h cs ss = (lhas L 1 ∧ isRf (lgt L 1) ∧ K 13 L (lgt L 1 :: st) h cs ss) := by
  rw [dL_there_12, ey_ok, nx_aload_n_3] <;> rfl
theorem qL_there_13 : ey F ini rt fin K0 K (decode cL_there 13) 13 L (st) h cs ss = (K 15 L (.int 24 :: st) h cs ss) := by
  rw [dL_there_13, ey_ok, nx_bipush_12] <;> rfl
theorem qL_there_15 : ey F ini rt fin K0 K (decode cL_there 15) 15 L (st) h cs ss = (lhas L 3 ∧ isI (lgt L 3) ∧ K 16 L (lgt L 3 :: st) h cs ss) := by
  rw [dL_there_15, ey_ok, nx_iload_n_1] <;> rfl
theorem qL_there_16 : ey F ini rt fin K0 K (decode cL_there 16) 16 L (.int y :: .int x :: r) h cs ss = (K 17 L (.int (x + y) :: r) h cs ss) := by
  rw [dL_there_16, ey_ok, nx_iadd_16]
theorem qL_there_17 : ey F ini rt fin K0 K (decode cL_there 17) 17 L (.int i :: .ref a :: r) h cs ss = (isA (h.1 a) (fun k m => k = 0 ∧ vp_in i m) ∧ K 18 L (h.2 a i.toNatClampNeg :: r) h cs ss) := by
  rw [dL_there_17, ey_ok, nx_iaload_57]
theorem qL_there_18 : ey F ini rt fin K0 K (decode cL_there 18) 18 L (.int y :: .int x :: r) h cs ss = (K 19 L (.int (x + y) :: r) h cs ss) := by
  rw [dL_there_18, ey_ok, nx_iadd_16]
theorem qL_there_19 : ey F ini rt fin K0 K (decode cL_there 19) 19 L (.int x :: r) h cs ss = (2 < L.length ∧ K 20 (L.set 2 (some (.int x))) r h cs ss) := by
  rw [dL_there_19, ey_ok, nx_istore_n_5] <;> rfl
theorem qL_there_20 : ey F ini rt fin K0 K (decode cL_there 20) 20 L (st) h cs ss = (lhas L 3 ∧ isI (lgt L 3) ∧ K 23 (L.set 3 (some (inc (lgt L 3) 1))) st h cs ss) := by
  rw [dL_there_20, ey_ok, nx_iinc_10] <;> rfl
theorem qL_there_23 : ey F ini rt fin K0 K (decode cL_there 23) 23 L (st) h cs ss = (K 4 L st h cs ss) := by
  rw [dL_there_23, ey_ok, nx_goto_29]
  exact and_l (by unfold jok; decide)
theorem qL_there_26 : ey F ini rt fin K0 K (decode cL_there 26) 26 L (st) h cs ss = (lhas L 2 ∧ isI (lgt L 2) ∧ K 27 L (lgt L 2 :: st) h cs ss) := by
  rw [dL_there_26, ey_ok, nx_iload_n_1] <;> rfl
theorem qL_there_27 : ey F ini rt fin K0 K (decode cL_there 27) 27 L ([.int x]) h cs ss = (rokI rt x ∧ fin (some (.int x)) h cs ss) := by
  rw [dL_there_27, ey_ok, nx_ireturn_68]
theorem qL_worth_0 : ey F ini rt fin K0 K (decode cL_worth 0) 0 L (st) h cs ss = (lhas L 3 ∧ isI (lgt L 3) ∧ K 1 L (lgt L 3 :: st) h cs ss) := by
  rw [dL_worth_0, ey_ok, nx_iload_n_1] <;> rfl
theorem qL_worth_1 : ey F ini rt fin K0 K (decode cL_worth 1) 1 L (st) h cs ss = (K 3 L (.int 100 :: st) h cs ss) := by
  rw [dL_worth_1, ey_ok, nx_bipush_12] <;> rfl
theorem qL_worth_3 : ey F ini rt fin K0 K (decode cL_worth 3) 3 L (.int y :: .int x :: r) h cs ss = (¬ y = 0 ∧ K 4 L (.int (x / y) :: r) h cs ss) := by
  rw [dL_worth_3, ey_ok, nx_idiv_23]
theorem qL_worth_4 : ey F ini rt fin K0 K (decode cL_worth 4) 4 L (st) h cs ss = (K 6 L (.int 100 :: st) h cs ss) := by
  rw [dL_worth_4, ey_ok, nx_bipush_12] <;> rfl
theorem qL_worth_6 : ey F ini rt fin K0 K (decode cL_worth 6) 6 L (.int y :: .int x :: r) h cs ss = (¬ y = 0 ∧ K 7 L (.int (x - x / y * y) :: r) h cs ss) := by
  rw [dL_worth_6, ey_ok, nx_irem_81]
theorem qL_worth_7 : ey F ini rt fin K0 K (decode cL_worth 7) 7 L (.int x :: r) h cs ss = (4 < L.length ∧ K 9 (L.set 4 (some (.int x))) r h cs ss) := by
  rw [dL_worth_7, ey_ok, nx_istore_4] <;> rfl
theorem qL_worth_9 : ey F ini rt fin K0 K (decode cL_worth 9) 9 L (st) h cs ss = (lhas L 1 ∧ isRf (lgt L 1) ∧ K 10 L (lgt L 1 :: st) h cs ss) := by
  rw [dL_worth_9, ey_ok, nx_aload_n_3] <;> rfl
theorem qL_worth_10 : ey F ini rt fin K0 K (decode cL_worth 10) 10 L (st) h cs ss = (K 12 L (.int 50 :: st) h cs ss) := by
  rw [dL_worth_10, ey_ok, nx_bipush_12] <;> rfl
theorem qL_worth_12 : ey F ini rt fin K0 K (decode cL_worth 12) 12 L (st) h cs ss = (lhas L 4 ∧ isI (lgt L 4) ∧ K 14 L (lgt L 4 :: st) h cs ss) := by
  rw [dL_worth_12, ey_ok, nx_iload_0] <;> rfl
theorem qL_worth_14 : ey F ini rt fin K0 K (decode cL_worth 14) 14 L (.int y :: .int x :: r) h cs ss = (K 15 L (.int (x + y) :: r) h cs ss) := by
  rw [dL_worth_14, ey_ok, nx_iadd_16]
theorem qL_worth_15 : ey F ini rt fin K0 K (decode cL_worth 15) 15 L (.int i :: .ref a :: r) h cs ss = (isA (h.1 a) (fun k m => k = 0 ∧ vp_in i m) ∧ K 16 L (h.2 a i.toNatClampNeg :: r) h cs ss) := by
  rw [dL_worth_15, ey_ok, nx_iaload_57]
theorem qL_worth_16 : ey F ini rt fin K0 K (decode cL_worth 16) 16 L (st) h cs ss = (lhas L 1 ∧ isRf (lgt L 1) ∧ K 17 L (lgt L 1 :: st) h cs ss) := by
  rw [dL_worth_16, ey_ok, nx_aload_n_3] <;> rfl
theorem qL_worth_17 : ey F ini rt fin K0 K (decode cL_worth 17) 17 L (st) h cs ss = (K 19 L (.int 40 :: st) h cs ss) := by
  rw [dL_worth_17, ey_ok, nx_bipush_12] <;> rfl
theorem qL_worth_19 : ey F ini rt fin K0 K (decode cL_worth 19) 19 L (st) h cs ss = (lhas L 4 ∧ isI (lgt L 4) ∧ K 21 L (lgt L 4 :: st) h cs ss) := by
  rw [dL_worth_19, ey_ok, nx_iload_0] <;> rfl
theorem qL_worth_21 : ey F ini rt fin K0 K (decode cL_worth 21) 21 L (.int y :: .int x :: r) h cs ss = (K 22 L (.int (x + y) :: r) h cs ss) := by
  rw [dL_worth_21, ey_ok, nx_iadd_16]
theorem qL_worth_22 : ey F ini rt fin K0 K (decode cL_worth 22) 22 L (.int i :: .ref a :: r) h cs ss = (isA (h.1 a) (fun k m => k = 0 ∧ vp_in i m) ∧ K 23 L (h.2 a i.toNatClampNeg :: r) h cs ss) := by
  rw [dL_worth_22, ey_ok, nx_iaload_57]
theorem qL_worth_23 : ey F ini rt fin K0 K (decode cL_worth 23) 23 L (.int y :: .int x :: r) h cs ss = (K 24 L (.int (x - y) :: r) h cs ss) := by
  rw [dL_worth_23, ey_ok, nx_isub_17]
theorem qL_worth_24 : ey F ini rt fin K0 K (decode cL_worth 24) 24 L (st) h cs ss = (lhas L 0 ∧ isRf (lgt L 0) ∧ K 25 L (lgt L 0 :: st) h cs ss) := by
  rw [dL_worth_24, ey_ok, nx_aload_n_3] <;> rfl
theorem qL_worth_25 : ey F ini rt fin K0 K (decode cL_worth 25) 25 L (st) h cs ss = (K 26 L (.int 4 :: st) h cs ss) := by
  rw [dL_worth_25, ey_ok, nx_iconst_11] <;> rfl
theorem qL_worth_26 : ey F ini rt fin K0 K (decode cL_worth 26) 26 L (st) h cs ss = (lhas L 3 ∧ isI (lgt L 3) ∧ K 27 L (lgt L 3 :: st) h cs ss) := by
  rw [dL_worth_26, ey_ok, nx_iload_n_1] <;> rfl
theorem qL_worth_27 : ey F ini rt fin K0 K (decode cL_worth 27) 27 L (st) h cs ss = (K 30 L (.int 10000 :: st) h cs ss) := by
  rw [dL_worth_27, ey_ok, nx_sipush_13] <;> rfl
theorem qL_worth_30 : ey F ini rt fin K0 K (decode cL_worth 30) 30 L (.int y :: .int x :: r) h cs ss = (¬ y = 0 ∧ K 31 L (.int (x / y) :: r) h cs ss) := by
  rw [dL_worth_30, ey_ok, nx_idiv_23]
theorem qL_worth_31 : ey F ini rt fin K0 K (decode cL_worth 31) 31 L (.int y :: .int x :: r) h cs ss = (K 32 L (.int (x + y) :: r) h cs ss) := by
  rw [dL_worth_31, ey_ok, nx_iadd_16]
theorem qL_worth_32 : ey F ini rt fin K0 K (decode cL_worth 32) 32 L (.int i :: .ref a :: r) h cs ss = (isA (h.1 a) (fun k m => k = 0 ∧ vp_in i m) ∧ K 33 L (h.2 a i.toNatClampNeg :: r) h cs ss) := by
  rw [dL_worth_32, ey_ok, nx_iaload_57]
theorem qL_worth_33 : ey F ini rt fin K0 K (decode cL_worth 33) 33 L (.int y :: .int x :: r) h cs ss = (K 34 L (.int (x * y) :: r) h cs ss) := by
  rw [dL_worth_33, ey_ok, nx_imul_18]
theorem qL_worth_34 : ey F ini rt fin K0 K (decode cL_worth 34) 34 L (st) h cs ss = (lhas L 2 ∧ isRf (lgt L 2) ∧ K 35 L (lgt L 2 :: st) h cs ss) := by
  rw [dL_worth_34, ey_ok, nx_aload_n_3] <;> rfl
theorem qL_worth_35 : ey F ini rt fin K0 K (decode cL_worth 35) 35 L (st) h cs ss = (K 37 L (.int 12 :: st) h cs ss) := by
  rw [dL_worth_35, ey_ok, nx_bipush_12] <;> rfl
theorem qL_worth_37 : ey F ini rt fin K0 K (decode cL_worth 37) 37 L (st) h cs ss = (lhas L 3 ∧ isI (lgt L 3) ∧ K 38 L (lgt L 3 :: st) h cs ss) := by
  rw [dL_worth_37, ey_ok, nx_iload_n_1] <;> rfl
theorem qL_worth_38 : ey F ini rt fin K0 K (decode cL_worth 38) 38 L (st) h cs ss = (K 40 L (.int 100 :: st) h cs ss) := by
  rw [dL_worth_38, ey_ok, nx_bipush_12] <;> rfl
theorem qL_worth_40 : ey F ini rt fin K0 K (decode cL_worth 40) 40 L (.int y :: .int x :: r) h cs ss = (¬ y = 0 ∧ K 41 L (.int (x - x / y * y) :: r) h cs ss) := by
  rw [dL_worth_40, ey_ok, nx_irem_81]
theorem qL_worth_41 : ey F ini rt fin K0 K (decode cL_worth 41) 41 L (.int y :: .int x :: r) h cs ss = (K 42 L (.int (x + y) :: r) h cs ss) := by
  rw [dL_worth_41, ey_ok, nx_iadd_16]
theorem qL_worth_42 : ey F ini rt fin K0 K (decode cL_worth 42) 42 L (.int i :: .ref a :: r) h cs ss = (isA (h.1 a) (fun k m => k = 0 ∧ vp_in i m) ∧ K 43 L (h.2 a i.toNatClampNeg :: r) h cs ss) := by
  rw [dL_worth_42, ey_ok, nx_iaload_57]
theorem qL_worth_43 : ey F ini rt fin K0 K (decode cL_worth 43) 43 L (.int y :: .int x :: r) h cs ss = (K 44 L (.int (x * y) :: r) h cs ss) := by
  rw [dL_worth_43, ey_ok, nx_imul_18]
theorem qL_worth_44 : ey F ini rt fin K0 K (decode cL_worth 44) 44 L (st) h cs ss = (K 46 L (.int 100 :: st) h cs ss) := by
  rw [dL_worth_44, ey_ok, nx_bipush_12] <;> rfl
theorem qL_worth_46 : ey F ini rt fin K0 K (decode cL_worth 46) 46 L (.int y :: .int x :: r) h cs ss = (¬ y = 0 ∧ K 47 L (.int (x / y) :: r) h cs ss) := by
  rw [dL_worth_46, ey_ok, nx_idiv_23]
theorem qL_worth_47 : ey F ini rt fin K0 K (decode cL_worth 47) 47 L ([.int x]) h cs ss = (rokI rt x ∧ fin (some (.int x)) h cs ss) := by
  rw [dL_worth_47, ey_ok, nx_ireturn_68]
theorem qL_passes_0 : ey F ini rt fin K0 K (decode cL_passes 0) 0 L (st) h cs ss = (lhas L 0 ∧ isRf (lgt L 0) ∧ K 1 L (lgt L 0 :: st) h cs ss) := by
  rw [dL_passes_0, ey_ok, nx_aload_n_3] <;> rfl
theorem qL_passes_1 : ey F ini rt fin K0 K (decode cL_passes 1) 1 L (st) h cs ss = (lhas L 1 ∧ isI (lgt L 1) ∧ K 2 L (lgt L 1 :: st) h cs ss) := by
  rw [dL_passes_1, ey_ok, nx_iload_n_1] <;> rfl
theorem qL_passes_2 : ey F ini rt fin K0 K (decode cL_passes 2) 2 L (st) h cs ss = (K0 2 L st h cs ss) := by
  rw [dL_passes_2, ey_ok, nx_invokevirtual_72]
theorem qL_passes_5 : ey F ini rt fin K0 K (decode cL_passes 5) 5 L ([.int x]) h cs ss = (rokI rt x ∧ fin (some (.int x)) h cs ss) := by
  rw [dL_passes_5, ey_ok, nx_ireturn_68]
theorem qL_passes_6r : ey F ini rt fin K0 K (decode cL_passes 6) 6 L (.ref a :: r) h cs ss = (2 < L.length ∧ K 7 (L.set 2 (some (.ref a))) r h cs ss) := by
  rw [dL_passes_6, ey_ok, nx_astore_n_8] <;> rfl
theorem qL_passes_6n : ey F ini rt fin K0 K (decode cL_passes 6) 6 L (.null :: r) h cs ss = (2 < L.length ∧ K 7 (L.set 2 (some .null)) r h cs ss) := by
  rw [dL_passes_6, ey_ok, nx_astore_n_9] <;> rfl
theorem qL_passes_7 : ey F ini rt fin K0 K (decode cL_passes 7) 7 L (st) h cs ss = (K 10 L (.int (-1002) :: st) h cs ss) := by
  rw [dL_passes_7, ey_ok, nx_sipush_13] <;> rfl
theorem qL_passes_10 : ey F ini rt fin K0 K (decode cL_passes 10) 10 L ([.int x]) h cs ss = (rokI rt x ∧ fin (some (.int x)) h cs ss) := by
  rw [dL_passes_10, ey_ok, nx_ireturn_68]
theorem qL_passes_11r : ey F ini rt fin K0 K (decode cL_passes 11) 11 L (.ref a :: r) h cs ss = (2 < L.length ∧ K 12 (L.set 2 (some (.ref a))) r h cs ss) := by
  rw [dL_passes_11, ey_ok, nx_astore_n_8] <;> rfl
theorem qL_passes_11n : ey F ini rt fin K0 K (decode cL_passes 11) 11 L (.null :: r) h cs ss = (2 < L.length ∧ K 12 (L.set 2 (some .null)) r h cs ss) := by
  rw [dL_passes_11, ey_ok, nx_astore_n_9] <;> rfl
theorem qL_passes_12 : ey F ini rt fin K0 K (decode cL_passes 12) 12 L (st) h cs ss = (K 15 L (.int (-1003) :: st) h cs ss) := by
  rw [dL_passes_12, ey_ok, nx_sipush_13] <;> rfl
theorem qL_passes_15 : ey F ini rt fin K0 K (decode cL_passes 15) 15 L ([.int x]) h cs ss = (rokI rt x ∧ fin (some (.int x)) h cs ss) := by
  rw [dL_passes_15, ey_ok, nx_ireturn_68]
theorem qL_three_0 : ey F ini rt fin K0 K (decode cL_three 0) 0 L (st) h cs ss = (lhas L 1 ∧ isI (lgt L 1) ∧ K 1 L (lgt L 1 :: st) h cs ss) := by
  rw [dL_three_0, ey_ok, nx_iload_n_1] <;> rfl
theorem qL_three_1 : ey F ini rt fin K0 K (decode cL_three 1) 1 L (.int x :: r) h cs ss = (if ¬ x = 0 then K 15 L r h cs ss else K 4 L r h cs ss) := by
  rw [dL_three_1, ey_ok, nx_ifond_31]
  exact and_l (by unfold jok; decide)
theorem qL_three_4 : ey F ini rt fin K0 K (decode cL_three 4) 4 L (st) h cs ss = (lhas L 0 ∧ isRf (lgt L 0) ∧ K 5 L (lgt L 0 :: st) h cs ss) := by
  rw [dL_three_4, ey_ok, nx_aload_n_3] <;> rfl
theorem qL_three_5 : ey F ini rt fin K0 K (decode cL_three 5) 5 L (st) h cs ss = (lhas L 2 ∧ isI (lgt L 2) ∧ K 6 L (lgt L 2 :: st) h cs ss) := by
  rw [dL_three_5, ey_ok, nx_iload_n_1] <;> rfl
theorem qL_three_6 : ey F ini rt fin K0 K (decode cL_three 6) 6 L (st) h cs ss = (lhas L 3 ∧ isI (lgt L 3) ∧ K 7 L (lgt L 3 :: st) h cs ss) := by
  rw [dL_three_6, ey_ok, nx_iload_n_1] <;> rfl
theorem qL_three_7 : ey F ini rt fin K0 K (decode cL_three 7) 7 L (st) h cs ss = (lhas L 4 ∧ isI (lgt L 4) ∧ K 9 L (lgt L 4 :: st) h cs ss) := by
  rw [dL_three_7, ey_ok, nx_iload_0] <;> rfl
theorem qL_three_9 : ey F ini rt fin K0 K (decode cL_three 9) 9 L (st) h cs ss = (K0 9 L st h cs ss) := by
  rw [dL_three_9, ey_ok, nx_invokevirtual_72]
theorem qL_three_12 : ey F ini rt fin K0 K (decode cL_three 12) 12 L (st) h cs ss = (K 39 L st h cs ss) := by
  rw [dL_three_12, ey_ok, nx_goto_29]
  exact and_l (by unfold jok; decide)
theorem qL_three_15 : ey F ini rt fin K0 K (decode cL_three 15) 15 L (st) h cs ss = (lhas L 1 ∧ isI (lgt L 1) ∧ K 16 L (lgt L 1 :: st) h cs ss) := by
  rw [dL_three_15, ey_ok, nx_iload_n_1] <;> rfl
theorem qL_three_16 : ey F ini rt fin K0 K (decode cL_three 16) 16 L (st) h cs ss = (K 17 L (.int 1 :: st) h cs ss) := by
  rw [dL_three_16, ey_ok, nx_iconst_11] <;> rfl
theorem qL_three_17 : ey F ini rt fin K0 K (decode cL_three 17) 17 L (.int y :: .int x :: r) h cs ss = (if ¬ x = y then K 31 L r h cs ss else K 20 L r h cs ss) := by
  rw [dL_three_17, ey_ok, nx_if_icmp_37]
  exact and_l (by unfold jok; decide)
theorem qL_three_20 : ey F ini rt fin K0 K (decode cL_three 20) 20 L (st) h cs ss = (lhas L 0 ∧ isRf (lgt L 0) ∧ K 21 L (lgt L 0 :: st) h cs ss) := by
  rw [dL_three_20, ey_ok, nx_aload_n_3] <;> rfl
theorem qL_three_21 : ey F ini rt fin K0 K (decode cL_three 21) 21 L (st) h cs ss = (lhas L 2 ∧ isI (lgt L 2) ∧ K 22 L (lgt L 2 :: st) h cs ss) := by
  rw [dL_three_21, ey_ok, nx_iload_n_1] <;> rfl
theorem qL_three_22 : ey F ini rt fin K0 K (decode cL_three 22) 22 L (st) h cs ss = (lhas L 3 ∧ isI (lgt L 3) ∧ K 23 L (lgt L 3 :: st) h cs ss) := by
  rw [dL_three_22, ey_ok, nx_iload_n_1] <;> rfl
theorem qL_three_23 : ey F ini rt fin K0 K (decode cL_three 23) 23 L (st) h cs ss = (lhas L 4 ∧ isI (lgt L 4) ∧ K 25 L (lgt L 4 :: st) h cs ss) := by
  rw [dL_three_23, ey_ok, nx_iload_0] <;> rfl
theorem qL_three_25 : ey F ini rt fin K0 K (decode cL_three 25) 25 L (st) h cs ss = (K0 25 L st h cs ss) := by
  rw [dL_three_25, ey_ok, nx_invokevirtual_72]
theorem qL_three_28 : ey F ini rt fin K0 K (decode cL_three 28) 28 L (st) h cs ss = (K 39 L st h cs ss) := by
  rw [dL_three_28, ey_ok, nx_goto_29]
  exact and_l (by unfold jok; decide)
theorem qL_three_31 : ey F ini rt fin K0 K (decode cL_three 31) 31 L (st) h cs ss = (lhas L 0 ∧ isRf (lgt L 0) ∧ K 32 L (lgt L 0 :: st) h cs ss) := by
  rw [dL_three_31, ey_ok, nx_aload_n_3] <;> rfl
theorem qL_three_32 : ey F ini rt fin K0 K (decode cL_three 32) 32 L (st) h cs ss = (lhas L 2 ∧ isI (lgt L 2) ∧ K 33 L (lgt L 2 :: st) h cs ss) := by
  rw [dL_three_32, ey_ok, nx_iload_n_1] <;> rfl
theorem qL_three_33 : ey F ini rt fin K0 K (decode cL_three 33) 33 L (st) h cs ss = (lhas L 3 ∧ isI (lgt L 3) ∧ K 34 L (lgt L 3 :: st) h cs ss) := by
  rw [dL_three_33, ey_ok, nx_iload_n_1] <;> rfl
theorem qL_three_34 : ey F ini rt fin K0 K (decode cL_three 34) 34 L (st) h cs ss = (lhas L 4 ∧ isI (lgt L 4) ∧ K 36 L (lgt L 4 :: st) h cs ss) := by
  rw [dL_three_34, ey_ok, nx_iload_0] <;> rfl
theorem qL_three_36 : ey F ini rt fin K0 K (decode cL_three 36) 36 L (st) h cs ss = (K0 36 L st h cs ss) := by
  rw [dL_three_36, ey_ok, nx_invokevirtual_72]
theorem qL_three_39 : ey F ini rt fin K0 K (decode cL_three 39) 39 L ([.int x]) h cs ss = (rokI rt x ∧ fin (some (.int x)) h cs ss) := by
  rw [dL_three_39, ey_ok, nx_ireturn_68]
theorem qL_three_40r : ey F ini rt fin K0 K (decode cL_three 40) 40 L (.ref a :: r) h cs ss = (5 < L.length ∧ K 42 (L.set 5 (some (.ref a))) r h cs ss) := by
  rw [dL_three_40, ey_ok, nx_astore_6] <;> rfl
theorem qL_three_40n : ey F ini rt fin K0 K (decode cL_three 40) 40 L (.null :: r) h cs ss = (5 < L.length ∧ K 42 (L.set 5 (some .null)) r h cs ss) := by
  rw [dL_three_40, ey_ok, nx_astore_7] <;> rfl
theorem qL_three_42 : ey F ini rt fin K0 K (decode cL_three 42) 42 L (st) h cs ss = (K 45 L (.int (-1001) :: st) h cs ss) := by
  rw [dL_three_42, ey_ok, nx_sipush_13] <;> rfl
theorem qL_three_45 : ey F ini rt fin K0 K (decode cL_three 45) 45 L ([.int x]) h cs ss = (rokI rt x ∧ fin (some (.int x)) h cs ss) := by
  rw [dL_three_45, ey_ok, nx_ireturn_68]
theorem qL_three_46r : ey F ini rt fin K0 K (decode cL_three 46) 46 L (.ref a :: r) h cs ss = (5 < L.length ∧ K 48 (L.set 5 (some (.ref a))) r h cs ss) := by
  rw [dL_three_46, ey_ok, nx_astore_6] <;> rfl
theorem qL_three_46n : ey F ini rt fin K0 K (decode cL_three 46) 46 L (.null :: r) h cs ss = (5 < L.length ∧ K 48 (L.set 5 (some .null)) r h cs ss) := by
  rw [dL_three_46, ey_ok, nx_astore_7] <;> rfl
theorem qL_three_48 : ey F ini rt fin K0 K (decode cL_three 48) 48 L (st) h cs ss = (K 51 L (.int (-1002) :: st) h cs ss) := by
  rw [dL_three_48, ey_ok, nx_sipush_13] <;> rfl
theorem qL_three_51 : ey F ini rt fin K0 K (decode cL_three 51) 51 L ([.int x]) h cs ss = (rokI rt x ∧ fin (some (.int x)) h cs ss) := by
  rw [dL_three_51, ey_ok, nx_ireturn_68]
theorem qL_three_52r : ey F ini rt fin K0 K (decode cL_three 52) 52 L (.ref a :: r) h cs ss = (5 < L.length ∧ K 54 (L.set 5 (some (.ref a))) r h cs ss) := by
  rw [dL_three_52, ey_ok, nx_astore_6] <;> rfl
theorem qL_three_52n : ey F ini rt fin K0 K (decode cL_three 52) 52 L (.null :: r) h cs ss = (5 < L.length ∧ K 54 (L.set 5 (some .null)) r h cs ss) := by
  rw [dL_three_52, ey_ok, nx_astore_7] <;> rfl
theorem qL_three_54 : ey F ini rt fin K0 K (decode cL_three 54) 54 L (st) h cs ss = (K 57 L (.int (-1003) :: st) h cs ss) := by
  rw [dL_three_54, ey_ok, nx_sipush_13] <;> rfl
theorem qL_three_57 : ey F ini rt fin K0 K (decode cL_three 57) 57 L ([.int x]) h cs ss = (rokI rt x ∧ fin (some (.int x)) h cs ss) := by
  rw [dL_three_57, ey_ok, nx_ireturn_68]
theorem qL_two_0 : ey F ini rt fin K0 K (decode cL_two 0) 0 L (st) h cs ss = (lhas L 1 ∧ isI (lgt L 1) ∧ K 1 L (lgt L 1 :: st) h cs ss) := by
  rw [dL_two_0, ey_ok, nx_iload_n_1] <;> rfl
theorem qL_two_1 : ey F ini rt fin K0 K (decode cL_two 1) 1 L (.int x :: r) h cs ss = (if ¬ x = 0 then K 13 L r h cs ss else K 4 L r h cs ss) := by
  rw [dL_two_1, ey_ok, nx_ifond_31]
  exact and_l (by unfold jok; decide)
theorem qL_two_4 : ey F ini rt fin K0 K (decode cL_two 4) 4 L (st) h cs ss = (lhas L 0 ∧ isRf (lgt L 0) ∧ K 5 L (lgt L 0 :: st) h cs ss) := by
  rw [dL_two_4, ey_ok, nx_aload_n_3] <;> rfl
theorem qL_two_5 : ey F ini rt fin K0 K (decode cL_two 5) 5 L (st) h cs ss = (lhas L 2 ∧ isI (lgt L 2) ∧ K 6 L (lgt L 2 :: st) h cs ss) := by
  rw [dL_two_5, ey_ok, nx_iload_n_1] <;> rfl
theorem qL_two_6 : ey F ini rt fin K0 K (decode cL_two 6) 6 L (st) h cs ss = (lhas L 3 ∧ isI (lgt L 3) ∧ K 7 L (lgt L 3 :: st) h cs ss) := by
  rw [dL_two_6, ey_ok, nx_iload_n_1] <;> rfl
theorem qL_two_7 : ey F ini rt fin K0 K (decode cL_two 7) 7 L (st) h cs ss = (K0 7 L st h cs ss) := by
  rw [dL_two_7, ey_ok, nx_invokevirtual_72]
theorem qL_two_10 : ey F ini rt fin K0 K (decode cL_two 10) 10 L (st) h cs ss = (K 69 L st h cs ss) := by
  rw [dL_two_10, ey_ok, nx_goto_29]
  exact and_l (by unfold jok; decide)
theorem qL_two_13 : ey F ini rt fin K0 K (decode cL_two 13) 13 L (st) h cs ss = (lhas L 1 ∧ isI (lgt L 1) ∧ K 14 L (lgt L 1 :: st) h cs ss) := by
  rw [dL_two_13, ey_ok, nx_iload_n_1] <;> rfl
theorem qL_two_14 : ey F ini rt fin K0 K (decode cL_two 14) 14 L (st) h cs ss = (K 15 L (.int 1 :: st) h cs ss) := by
  rw [dL_two_14, ey_ok, nx_iconst_11] <;> rfl
theorem qL_two_15 : ey F ini rt fin K0 K (decode cL_two 15) 15 L (.int y :: .int x :: r) h cs ss = (if ¬ x = y then K 27 L r h cs ss else K 18 L r h cs ss) := by
  rw [dL_two_15, ey_ok, nx_if_icmp_37]
  exact and_l (by unfold jok; decide)
theorem qL_two_18 : ey F ini rt fin K0 K (decode cL_two 18) 18 L (st) h cs ss = (lhas L 0 ∧ isRf (lgt L 0) ∧ K 19 L (lgt L 0 :: st) h cs ss) := by
  rw [dL_two_18, ey_ok, nx_aload_n_3] <;> rfl
theorem qL_two_19 : ey F ini rt fin K0 K (decode cL_two 19) 19 L (st) h cs ss = (lhas L 2 ∧ isI (lgt L 2) ∧ K 20 L (lgt L 2 :: st) h cs ss) := by
  rw [dL_two_19, ey_ok, nx_iload_n_1] <;> rfl
theorem qL_two_20 : ey F ini rt fin K0 K (decode cL_two 20) 20 L (st) h cs ss = (lhas L 3 ∧ isI (lgt L 3) ∧ K 21 L (lgt L 3 :: st) h cs ss) := by
  rw [dL_two_20, ey_ok, nx_iload_n_1] <;> rfl
theorem qL_two_21 : ey F ini rt fin K0 K (decode cL_two 21) 21 L (st) h cs ss = (K0 21 L st h cs ss) := by
  rw [dL_two_21, ey_ok, nx_invokevirtual_72]
theorem qL_two_24 : ey F ini rt fin K0 K (decode cL_two 24) 24 L (st) h cs ss = (K 69 L st h cs ss) := by
  rw [dL_two_24, ey_ok, nx_goto_29]
  exact and_l (by unfold jok; decide)
theorem qL_two_27 : ey F ini rt fin K0 K (decode cL_two 27) 27 L (st) h cs ss = (lhas L 1 ∧ isI (lgt L 1) ∧ K 28 L (lgt L 1 :: st) h cs ss) := by
  rw [dL_two_27, ey_ok, nx_iload_n_1] <;> rfl
theorem qL_two_28 : ey F ini rt fin K0 K (decode cL_two 28) 28 L (st) h cs ss = (K 29 L (.int 2 :: st) h cs ss) := by
  rw [dL_two_28, ey_ok, nx_iconst_11] <;> rfl
theorem qL_two_29 : ey F ini rt fin K0 K (decode cL_two 29) 29 L (.int y :: .int x :: r) h cs ss = (if ¬ x = y then K 41 L r h cs ss else K 32 L r h cs ss) := by
  rw [dL_two_29, ey_ok, nx_if_icmp_37]
  exact and_l (by unfold jok; decide)
theorem qL_two_32 : ey F ini rt fin K0 K (decode cL_two 32) 32 L (st) h cs ss = (lhas L 0 ∧ isRf (lgt L 0) ∧ K 33 L (lgt L 0 :: st) h cs ss) := by
  rw [dL_two_32, ey_ok, nx_aload_n_3] <;> rfl
theorem qL_two_33 : ey F ini rt fin K0 K (decode cL_two 33) 33 L (st) h cs ss = (lhas L 2 ∧ isI (lgt L 2) ∧ K 34 L (lgt L 2 :: st) h cs ss) := by
  rw [dL_two_33, ey_ok, nx_iload_n_1] <;> rfl
theorem qL_two_34 : ey F ini rt fin K0 K (decode cL_two 34) 34 L (st) h cs ss = (lhas L 3 ∧ isI (lgt L 3) ∧ K 35 L (lgt L 3 :: st) h cs ss) := by
  rw [dL_two_34, ey_ok, nx_iload_n_1] <;> rfl
theorem qL_two_35 : ey F ini rt fin K0 K (decode cL_two 35) 35 L (st) h cs ss = (K0 35 L st h cs ss) := by
  rw [dL_two_35, ey_ok, nx_invokevirtual_72]
theorem qL_two_38 : ey F ini rt fin K0 K (decode cL_two 38) 38 L (st) h cs ss = (K 69 L st h cs ss) := by
  rw [dL_two_38, ey_ok, nx_goto_29]
  exact and_l (by unfold jok; decide)
theorem qL_two_41 : ey F ini rt fin K0 K (decode cL_two 41) 41 L (st) h cs ss = (lhas L 1 ∧ isI (lgt L 1) ∧ K 42 L (lgt L 1 :: st) h cs ss) := by
  rw [dL_two_41, ey_ok, nx_iload_n_1] <;> rfl
theorem qL_two_42 : ey F ini rt fin K0 K (decode cL_two 42) 42 L (st) h cs ss = (K 43 L (.int 3 :: st) h cs ss) := by
  rw [dL_two_42, ey_ok, nx_iconst_11] <;> rfl
theorem qL_two_43 : ey F ini rt fin K0 K (decode cL_two 43) 43 L (.int y :: .int x :: r) h cs ss = (if ¬ x = y then K 63 L r h cs ss else K 46 L r h cs ss) := by
  rw [dL_two_43, ey_ok, nx_if_icmp_37]
  exact and_l (by unfold jok; decide)
theorem qL_two_46 : ey F ini rt fin K0 K (decode cL_two 46) 46 L (st) h cs ss = (lhas L 0 ∧ isRf (lgt L 0) ∧ K 47 L (lgt L 0 :: st) h cs ss) := by
  rw [dL_two_46, ey_ok, nx_aload_n_3] <;> rfl
theorem qL_two_47 : ey F ini rt fin K0 K (decode cL_two 47) 47 L (st) h cs ss = (lhas L 2 ∧ isI (lgt L 2) ∧ K 48 L (lgt L 2 :: st) h cs ss) := by
  rw [dL_two_47, ey_ok, nx_iload_n_1] <;> rfl
theorem qL_two_48 : ey F ini rt fin K0 K (decode cL_two 48) 48 L (st) h cs ss = (lhas L 3 ∧ isI (lgt L 3) ∧ K 49 L (lgt L 3 :: st) h cs ss) := by
  rw [dL_two_48, ey_ok, nx_iload_n_1] <;> rfl
theorem qL_two_49 : ey F ini rt fin K0 K (decode cL_two 49) 49 L (st) h cs ss = (K0 49 L st h cs ss) := by
  rw [dL_two_49, ey_ok, nx_invokevirtual_72]
theorem qL_two_52 : ey F ini rt fin K0 K (decode cL_two 52) 52 L (.int x :: r) h cs ss = (if x = 0 then K 59 L r h cs ss else K 55 L r h cs ss) := by
  rw [dL_two_52, ey_ok, nx_ifond_30]
  exact and_l (by unfold jok; decide)
theorem qL_two_55 : ey F ini rt fin K0 K (decode cL_two 55) 55 L (st) h cs ss = (K 56 L (.int 1 :: st) h cs ss) := by
  rw [dL_two_55, ey_ok, nx_iconst_11] <;> rfl
theorem qL_two_56 : ey F ini rt fin K0 K (decode cL_two 56) 56 L (st) h cs ss = (K 69 L st h cs ss) := by
  rw [dL_two_56, ey_ok, nx_goto_29]
  exact and_l (by unfold jok; decide)
theorem qL_two_59 : ey F ini rt fin K0 K (decode cL_two 59) 59 L (st) h cs ss = (K 60 L (.int 0 :: st) h cs ss) := by
  rw [dL_two_59, ey_ok, nx_iconst_11] <;> rfl
theorem qL_two_60 : ey F ini rt fin K0 K (decode cL_two 60) 60 L (st) h cs ss = (K 69 L st h cs ss) := by
  rw [dL_two_60, ey_ok, nx_goto_29]
  exact and_l (by unfold jok; decide)
theorem qL_two_63 : ey F ini rt fin K0 K (decode cL_two 63) 63 L (st) h cs ss = (lhas L 0 ∧ isRf (lgt L 0) ∧ K 64 L (lgt L 0 :: st) h cs ss) := by
  rw [dL_two_63, ey_ok, nx_aload_n_3] <;> rfl
theorem qL_two_64 : ey F ini rt fin K0 K (decode cL_two 64) 64 L (st) h cs ss = (lhas L 2 ∧ isI (lgt L 2) ∧ K 65 L (lgt L 2 :: st) h cs ss) := by
  rw [dL_two_64, ey_ok, nx_iload_n_1] <;> rfl
theorem qL_two_65 : ey F ini rt fin K0 K (decode cL_two 65) 65 L (st) h cs ss = (lhas L 3 ∧ isI (lgt L 3) ∧ K 66 L (lgt L 3 :: st) h cs ss) := by
  rw [dL_two_65, ey_ok, nx_iload_n_1] <;> rfl
theorem qL_two_66 : ey F ini rt fin K0 K (decode cL_two 66) 66 L (st) h cs ss = (K0 66 L st h cs ss) := by
  rw [dL_two_66, ey_ok, nx_invokevirtual_72]
theorem qL_two_69 : ey F ini rt fin K0 K (decode cL_two 69) 69 L ([.int x]) h cs ss = (rokI rt x ∧ fin (some (.int x)) h cs ss) := by
  rw [dL_two_69, ey_ok, nx_ireturn_68]
theorem qL_two_70r : ey F ini rt fin K0 K (decode cL_two 70) 70 L (.ref a :: r) h cs ss = (4 < L.length ∧ K 72 (L.set 4 (some (.ref a))) r h cs ss) := by
  rw [dL_two_70, ey_ok, nx_astore_6] <;> rfl
theorem qL_two_70n : ey F ini rt fin K0 K (decode cL_two 70) 70 L (.null :: r) h cs ss = (4 < L.length ∧ K 72 (L.set 4 (some .null)) r h cs ss) := by
  rw [dL_two_70, ey_ok, nx_astore_7] <;> rfl
theorem qL_two_72 : ey F ini rt fin K0 K (decode cL_two 72) 72 L (st) h cs ss = (K 75 L (.int (-1001) :: st) h cs ss) := by
  rw [dL_two_72, ey_ok, nx_sipush_13] <;> rfl
theorem qL_two_75 : ey F ini rt fin K0 K (decode cL_two 75) 75 L ([.int x]) h cs ss = (rokI rt x ∧ fin (some (.int x)) h cs ss) := by
  rw [dL_two_75, ey_ok, nx_ireturn_68]
theorem qL_two_76r : ey F ini rt fin K0 K (decode cL_two 76) 76 L (.ref a :: r) h cs ss = (4 < L.length ∧ K 78 (L.set 4 (some (.ref a))) r h cs ss) := by
  rw [dL_two_76, ey_ok, nx_astore_6] <;> rfl
theorem qL_two_76n : ey F ini rt fin K0 K (decode cL_two 76) 76 L (.null :: r) h cs ss = (4 < L.length ∧ K 78 (L.set 4 (some .null)) r h cs ss) := by
  rw [dL_two_76, ey_ok, nx_astore_7] <;> rfl
theorem qL_two_78 : ey F ini rt fin K0 K (decode cL_two 78) 78 L (st) h cs ss = (K 81 L (.int (-1002) :: st) h cs ss) := by
  rw [dL_two_78, ey_ok, nx_sipush_13] <;> rfl
theorem qL_two_81 : ey F ini rt fin K0 K (decode cL_two 81) 81 L ([.int x]) h cs ss = (rokI rt x ∧ fin (some (.int x)) h cs ss) := by
  rw [dL_two_81, ey_ok, nx_ireturn_68]
theorem qL_two_82r : ey F ini rt fin K0 K (decode cL_two 82) 82 L (.ref a :: r) h cs ss = (4 < L.length ∧ K 84 (L.set 4 (some (.ref a))) r h cs ss) := by
  rw [dL_two_82, ey_ok, nx_astore_6] <;> rfl
theorem qL_two_82n : ey F ini rt fin K0 K (decode cL_two 82) 82 L (.null :: r) h cs ss = (4 < L.length ∧ K 84 (L.set 4 (some .null)) r h cs ss) := by
  rw [dL_two_82, ey_ok, nx_astore_7] <;> rfl
theorem qL_two_84 : ey F ini rt fin K0 K (decode cL_two 84) 84 L (st) h cs ss = (K 87 L (.int (-1003) :: st) h cs ss) := by
  rw [dL_two_84, ey_ok, nx_sipush_13] <;> rfl
theorem qL_two_87 : ey F ini rt fin K0 K (decode cL_two 87) 87 L ([.int x]) h cs ss = (rokI rt x ∧ fin (some (.int x)) h cs ss) := by
  rw [dL_two_87, ey_ok, nx_ireturn_68]
theorem qL_one_0 : ey F ini rt fin K0 K (decode cL_one 0) 0 L (st) h cs ss = (lhas L 1 ∧ isI (lgt L 1) ∧ K 1 L (lgt L 1 :: st) h cs ss) := by
  rw [dL_one_0, ey_ok, nx_iload_n_1] <;> rfl
theorem qL_one_1 : ey F ini rt fin K0 K (decode cL_one 1) 1 L (.int x :: r) h cs ss = (if ¬ x = 0 then K 12 L r h cs ss else K 4 L r h cs ss) := by
  rw [dL_one_1, ey_ok, nx_ifond_31]
  exact and_l (by unfold jok; decide)
theorem qL_one_4 : ey F ini rt fin K0 K (decode cL_one 4) 4 L (st) h cs ss = (lhas L 0 ∧ isRf (lgt L 0) ∧ K 5 L (lgt L 0 :: st) h cs ss) := by
  rw [dL_one_4, ey_ok, nx_aload_n_3] <;> rfl
theorem qL_one_5 : ey F ini rt fin K0 K (decode cL_one 5) 5 L (st) h cs ss = (lhas L 2 ∧ isI (lgt L 2) ∧ K 6 L (lgt L 2 :: st) h cs ss) := by
  rw [dL_one_5, ey_ok, nx_iload_n_1] <;> rfl
theorem qL_one_6 : ey F ini rt fin K0 K (decode cL_one 6) 6 L (st) h cs ss = (K0 6 L st h cs ss) := by
  rw [dL_one_6, ey_ok, nx_invokevirtual_72]
theorem qL_one_9 : ey F ini rt fin K0 K (decode cL_one 9) 9 L (st) h cs ss = (K 152 L st h cs ss) := by
  rw [dL_one_9, ey_ok, nx_goto_29]
  exact and_l (by unfold jok; decide)
theorem qL_one_12 : ey F ini rt fin K0 K (decode cL_one 12) 12 L (st) h cs ss = (lhas L 1 ∧ isI (lgt L 1) ∧ K 13 L (lgt L 1 :: st) h cs ss) := by
  rw [dL_one_12, ey_ok, nx_iload_n_1] <;> rfl
theorem qL_one_13 : ey F ini rt fin K0 K (decode cL_one 13) 13 L (st) h cs ss = (K 14 L (.int 1 :: st) h cs ss) := by
  rw [dL_one_13, ey_ok, nx_iconst_11] <;> rfl
theorem qL_one_14 : ey F ini rt fin K0 K (decode cL_one 14) 14 L (.int y :: .int x :: r) h cs ss = (if ¬ x = y then K 25 L r h cs ss else K 17 L r h cs ss) := by
  rw [dL_one_14, ey_ok, nx_if_icmp_37]
  exact and_l (by unfold jok; decide)
theorem qL_one_17 : ey F ini rt fin K0 K (decode cL_one 17) 17 L (st) h cs ss = (lhas L 0 ∧ isRf (lgt L 0) ∧ K 18 L (lgt L 0 :: st) h cs ss) := by
  rw [dL_one_17, ey_ok, nx_aload_n_3] <;> rfl
theorem qL_one_18 : ey F ini rt fin K0 K (decode cL_one 18) 18 L (st) h cs ss = (lhas L 2 ∧ isI (lgt L 2) ∧ K 19 L (lgt L 2 :: st) h cs ss) := by
  rw [dL_one_18, ey_ok, nx_iload_n_1] <;> rfl
theorem qL_one_19 : ey F ini rt fin K0 K (decode cL_one 19) 19 L (st) h cs ss = (K0 19 L st h cs ss) := by
  rw [dL_one_19, ey_ok, nx_invokevirtual_72]
theorem qL_one_22 : ey F ini rt fin K0 K (decode cL_one 22) 22 L (st) h cs ss = (K 152 L st h cs ss) := by
  rw [dL_one_22, ey_ok, nx_goto_29]
  exact and_l (by unfold jok; decide)
theorem qL_one_25 : ey F ini rt fin K0 K (decode cL_one 25) 25 L (st) h cs ss = (lhas L 1 ∧ isI (lgt L 1) ∧ K 26 L (lgt L 1 :: st) h cs ss) := by
  rw [dL_one_25, ey_ok, nx_iload_n_1] <;> rfl
theorem qL_one_26 : ey F ini rt fin K0 K (decode cL_one 26) 26 L (st) h cs ss = (K 27 L (.int 2 :: st) h cs ss) := by
  rw [dL_one_26, ey_ok, nx_iconst_11] <;> rfl
theorem qL_one_27 : ey F ini rt fin K0 K (decode cL_one 27) 27 L (.int y :: .int x :: r) h cs ss = (if ¬ x = y then K 38 L r h cs ss else K 30 L r h cs ss) := by
  rw [dL_one_27, ey_ok, nx_if_icmp_37]
  exact and_l (by unfold jok; decide)
theorem qL_one_30 : ey F ini rt fin K0 K (decode cL_one 30) 30 L (st) h cs ss = (lhas L 0 ∧ isRf (lgt L 0) ∧ K 31 L (lgt L 0 :: st) h cs ss) := by
  rw [dL_one_30, ey_ok, nx_aload_n_3] <;> rfl
theorem qL_one_31 : ey F ini rt fin K0 K (decode cL_one 31) 31 L (st) h cs ss = (lhas L 2 ∧ isI (lgt L 2) ∧ K 32 L (lgt L 2 :: st) h cs ss) := by
  rw [dL_one_31, ey_ok, nx_iload_n_1] <;> rfl
theorem qL_one_32 : ey F ini rt fin K0 K (decode cL_one 32) 32 L (st) h cs ss = (K0 32 L st h cs ss) := by
  rw [dL_one_32, ey_ok, nx_invokevirtual_72]
theorem qL_one_35 : ey F ini rt fin K0 K (decode cL_one 35) 35 L (st) h cs ss = (K 152 L st h cs ss) := by
  rw [dL_one_35, ey_ok, nx_goto_29]
  exact and_l (by unfold jok; decide)
theorem qL_one_38 : ey F ini rt fin K0 K (decode cL_one 38) 38 L (st) h cs ss = (lhas L 1 ∧ isI (lgt L 1) ∧ K 39 L (lgt L 1 :: st) h cs ss) := by
  rw [dL_one_38, ey_ok, nx_iload_n_1] <;> rfl
theorem qL_one_39 : ey F ini rt fin K0 K (decode cL_one 39) 39 L (st) h cs ss = (K 40 L (.int 3 :: st) h cs ss) := by
  rw [dL_one_39, ey_ok, nx_iconst_11] <;> rfl
theorem qL_one_40 : ey F ini rt fin K0 K (decode cL_one 40) 40 L (.int y :: .int x :: r) h cs ss = (if ¬ x = y then K 51 L r h cs ss else K 43 L r h cs ss) := by
  rw [dL_one_40, ey_ok, nx_if_icmp_37]
  exact and_l (by unfold jok; decide)
theorem qL_one_43 : ey F ini rt fin K0 K (decode cL_one 43) 43 L (st) h cs ss = (lhas L 0 ∧ isRf (lgt L 0) ∧ K 44 L (lgt L 0 :: st) h cs ss) := by
  rw [dL_one_43, ey_ok, nx_aload_n_3] <;> rfl
theorem qL_one_44 : ey F ini rt fin K0 K (decode cL_one 44) 44 L (st) h cs ss = (lhas L 2 ∧ isI (lgt L 2) ∧ K 45 L (lgt L 2 :: st) h cs ss) := by
  rw [dL_one_44, ey_ok, nx_iload_n_1] <;> rfl
theorem qL_one_45 : ey F ini rt fin K0 K (decode cL_one 45) 45 L (st) h cs ss = (K0 45 L st h cs ss) := by
  rw [dL_one_45, ey_ok, nx_invokevirtual_72]
theorem qL_one_48 : ey F ini rt fin K0 K (decode cL_one 48) 48 L (st) h cs ss = (K 152 L st h cs ss) := by
  rw [dL_one_48, ey_ok, nx_goto_29]
  exact and_l (by unfold jok; decide)
theorem qL_one_51 : ey F ini rt fin K0 K (decode cL_one 51) 51 L (st) h cs ss = (lhas L 1 ∧ isI (lgt L 1) ∧ K 52 L (lgt L 1 :: st) h cs ss) := by
  rw [dL_one_51, ey_ok, nx_iload_n_1] <;> rfl
theorem qL_one_52 : ey F ini rt fin K0 K (decode cL_one 52) 52 L (st) h cs ss = (K 53 L (.int 4 :: st) h cs ss) := by
  rw [dL_one_52, ey_ok, nx_iconst_11] <;> rfl
theorem qL_one_53 : ey F ini rt fin K0 K (decode cL_one 53) 53 L (.int y :: .int x :: r) h cs ss = (if ¬ x = y then K 64 L r h cs ss else K 56 L r h cs ss) := by
  rw [dL_one_53, ey_ok, nx_if_icmp_37]
  exact and_l (by unfold jok; decide)
theorem qL_one_56 : ey F ini rt fin K0 K (decode cL_one 56) 56 L (st) h cs ss = (lhas L 0 ∧ isRf (lgt L 0) ∧ K 57 L (lgt L 0 :: st) h cs ss) := by
  rw [dL_one_56, ey_ok, nx_aload_n_3] <;> rfl
theorem qL_one_57 : ey F ini rt fin K0 K (decode cL_one 57) 57 L (st) h cs ss = (lhas L 2 ∧ isI (lgt L 2) ∧ K 58 L (lgt L 2 :: st) h cs ss) := by
  rw [dL_one_57, ey_ok, nx_iload_n_1] <;> rfl
theorem qL_one_58 : ey F ini rt fin K0 K (decode cL_one 58) 58 L (st) h cs ss = (K0 58 L st h cs ss) := by
  rw [dL_one_58, ey_ok, nx_invokevirtual_72]
theorem qL_one_61 : ey F ini rt fin K0 K (decode cL_one 61) 61 L (st) h cs ss = (K 152 L st h cs ss) := by
  rw [dL_one_61, ey_ok, nx_goto_29]
  exact and_l (by unfold jok; decide)
theorem qL_one_64 : ey F ini rt fin K0 K (decode cL_one 64) 64 L (st) h cs ss = (lhas L 1 ∧ isI (lgt L 1) ∧ K 65 L (lgt L 1 :: st) h cs ss) := by
  rw [dL_one_64, ey_ok, nx_iload_n_1] <;> rfl
theorem qL_one_65 : ey F ini rt fin K0 K (decode cL_one 65) 65 L (st) h cs ss = (K 66 L (.int 5 :: st) h cs ss) := by
  rw [dL_one_65, ey_ok, nx_iconst_11] <;> rfl
theorem qL_one_66 : ey F ini rt fin K0 K (decode cL_one 66) 66 L (.int y :: .int x :: r) h cs ss = (if ¬ x = y then K 77 L r h cs ss else K 69 L r h cs ss) := by
  rw [dL_one_66, ey_ok, nx_if_icmp_37]
  exact and_l (by unfold jok; decide)
theorem qL_one_69 : ey F ini rt fin K0 K (decode cL_one 69) 69 L (st) h cs ss = (lhas L 0 ∧ isRf (lgt L 0) ∧ K 70 L (lgt L 0 :: st) h cs ss) := by
  rw [dL_one_69, ey_ok, nx_aload_n_3] <;> rfl
theorem qL_one_70 : ey F ini rt fin K0 K (decode cL_one 70) 70 L (st) h cs ss = (lhas L 2 ∧ isI (lgt L 2) ∧ K 71 L (lgt L 2 :: st) h cs ss) := by
  rw [dL_one_70, ey_ok, nx_iload_n_1] <;> rfl
theorem qL_one_71 : ey F ini rt fin K0 K (decode cL_one 71) 71 L (st) h cs ss = (K0 71 L st h cs ss) := by
  rw [dL_one_71, ey_ok, nx_invokevirtual_72]
theorem qL_one_74 : ey F ini rt fin K0 K (decode cL_one 74) 74 L (st) h cs ss = (K 152 L st h cs ss) := by
  rw [dL_one_74, ey_ok, nx_goto_29]
  exact and_l (by unfold jok; decide)
theorem qL_one_77 : ey F ini rt fin K0 K (decode cL_one 77) 77 L (st) h cs ss = (lhas L 1 ∧ isI (lgt L 1) ∧ K 78 L (lgt L 1 :: st) h cs ss) := by
  rw [dL_one_77, ey_ok, nx_iload_n_1] <;> rfl
theorem qL_one_78 : ey F ini rt fin K0 K (decode cL_one 78) 78 L (st) h cs ss = (K 80 L (.int 6 :: st) h cs ss) := by
  rw [dL_one_78, ey_ok, nx_bipush_12] <;> rfl
theorem qL_one_80 : ey F ini rt fin K0 K (decode cL_one 80) 80 L (.int y :: .int x :: r) h cs ss = (if ¬ x = y then K 91 L r h cs ss else K 83 L r h cs ss) := by
  rw [dL_one_80, ey_ok, nx_if_icmp_37]
  exact and_l (by unfold jok; decide)
theorem qL_one_83 : ey F ini rt fin K0 K (decode cL_one 83) 83 L (st) h cs ss = (lhas L 0 ∧ isRf (lgt L 0) ∧ K 84 L (lgt L 0 :: st) h cs ss) := by
  rw [dL_one_83, ey_ok, nx_aload_n_3] <;> rfl
theorem qL_one_84 : ey F ini rt fin K0 K (decode cL_one 84) 84 L (st) h cs ss = (lhas L 2 ∧ isI (lgt L 2) ∧ K 85 L (lgt L 2 :: st) h cs ss) := by
  rw [dL_one_84, ey_ok, nx_iload_n_1] <;> rfl
theorem qL_one_85 : ey F ini rt fin K0 K (decode cL_one 85) 85 L (st) h cs ss = (K0 85 L st h cs ss) := by
  rw [dL_one_85, ey_ok, nx_invokevirtual_72]
theorem qL_one_88 : ey F ini rt fin K0 K (decode cL_one 88) 88 L (st) h cs ss = (K 152 L st h cs ss) := by
  rw [dL_one_88, ey_ok, nx_goto_29]
  exact and_l (by unfold jok; decide)
theorem qL_one_91 : ey F ini rt fin K0 K (decode cL_one 91) 91 L (st) h cs ss = (lhas L 1 ∧ isI (lgt L 1) ∧ K 92 L (lgt L 1 :: st) h cs ss) := by
  rw [dL_one_91, ey_ok, nx_iload_n_1] <;> rfl
theorem qL_one_92 : ey F ini rt fin K0 K (decode cL_one 92) 92 L (st) h cs ss = (K 94 L (.int 7 :: st) h cs ss) := by
  rw [dL_one_92, ey_ok, nx_bipush_12] <;> rfl
theorem qL_one_94 : ey F ini rt fin K0 K (decode cL_one 94) 94 L (.int y :: .int x :: r) h cs ss = (if ¬ x = y then K 105 L r h cs ss else K 97 L r h cs ss) := by
  rw [dL_one_94, ey_ok, nx_if_icmp_37]
  exact and_l (by unfold jok; decide)
theorem qL_one_97 : ey F ini rt fin K0 K (decode cL_one 97) 97 L (st) h cs ss = (lhas L 0 ∧ isRf (lgt L 0) ∧ K 98 L (lgt L 0 :: st) h cs ss) := by
  rw [dL_one_97, ey_ok, nx_aload_n_3] <;> rfl
theorem qL_one_98 : ey F ini rt fin K0 K (decode cL_one 98) 98 L (st) h cs ss = (lhas L 2 ∧ isI (lgt L 2) ∧ K 99 L (lgt L 2 :: st) h cs ss) := by
  rw [dL_one_98, ey_ok, nx_iload_n_1] <;> rfl
theorem qL_one_99 : ey F ini rt fin K0 K (decode cL_one 99) 99 L (st) h cs ss = (K0 99 L st h cs ss) := by
  rw [dL_one_99, ey_ok, nx_invokevirtual_72]
theorem qL_one_102 : ey F ini rt fin K0 K (decode cL_one 102) 102 L (st) h cs ss = (K 152 L st h cs ss) := by
  rw [dL_one_102, ey_ok, nx_goto_29]
  exact and_l (by unfold jok; decide)
theorem qL_one_105 : ey F ini rt fin K0 K (decode cL_one 105) 105 L (st) h cs ss = (lhas L 1 ∧ isI (lgt L 1) ∧ K 106 L (lgt L 1 :: st) h cs ss) := by
  rw [dL_one_105, ey_ok, nx_iload_n_1] <;> rfl
theorem qL_one_106 : ey F ini rt fin K0 K (decode cL_one 106) 106 L (st) h cs ss = (K 108 L (.int 8 :: st) h cs ss) := by
  rw [dL_one_106, ey_ok, nx_bipush_12] <;> rfl
theorem qL_one_108 : ey F ini rt fin K0 K (decode cL_one 108) 108 L (.int y :: .int x :: r) h cs ss = (if ¬ x = y then K 119 L r h cs ss else K 111 L r h cs ss) := by
  rw [dL_one_108, ey_ok, nx_if_icmp_37]
  exact and_l (by unfold jok; decide)
theorem qL_one_111 : ey F ini rt fin K0 K (decode cL_one 111) 111 L (st) h cs ss = (lhas L 0 ∧ isRf (lgt L 0) ∧ K 112 L (lgt L 0 :: st) h cs ss) := by
  rw [dL_one_111, ey_ok, nx_aload_n_3] <;> rfl
theorem qL_one_112 : ey F ini rt fin K0 K (decode cL_one 112) 112 L (st) h cs ss = (lhas L 2 ∧ isI (lgt L 2) ∧ K 113 L (lgt L 2 :: st) h cs ss) := by
  rw [dL_one_112, ey_ok, nx_iload_n_1] <;> rfl
theorem qL_one_113 : ey F ini rt fin K0 K (decode cL_one 113) 113 L (st) h cs ss = (K0 113 L st h cs ss) := by
  rw [dL_one_113, ey_ok, nx_invokevirtual_72]
theorem qL_one_116 : ey F ini rt fin K0 K (decode cL_one 116) 116 L (st) h cs ss = (K 152 L st h cs ss) := by
  rw [dL_one_116, ey_ok, nx_goto_29]
  exact and_l (by unfold jok; decide)
theorem qL_one_119 : ey F ini rt fin K0 K (decode cL_one 119) 119 L (st) h cs ss = (lhas L 1 ∧ isI (lgt L 1) ∧ K 120 L (lgt L 1 :: st) h cs ss) := by
  rw [dL_one_119, ey_ok, nx_iload_n_1] <;> rfl
theorem qL_one_120 : ey F ini rt fin K0 K (decode cL_one 120) 120 L (st) h cs ss = (K 122 L (.int 9 :: st) h cs ss) := by
  rw [dL_one_120, ey_ok, nx_bipush_12] <;> rfl
theorem qL_one_122 : ey F ini rt fin K0 K (decode cL_one 122) 122 L (.int y :: .int x :: r) h cs ss = (if ¬ x = y then K 133 L r h cs ss else K 125 L r h cs ss) := by
  rw [dL_one_122, ey_ok, nx_if_icmp_37]
  exact and_l (by unfold jok; decide)
theorem qL_one_125 : ey F ini rt fin K0 K (decode cL_one 125) 125 L (st) h cs ss = (lhas L 0 ∧ isRf (lgt L 0) ∧ K 126 L (lgt L 0 :: st) h cs ss) := by
  rw [dL_one_125, ey_ok, nx_aload_n_3] <;> rfl
theorem qL_one_126 : ey F ini rt fin K0 K (decode cL_one 126) 126 L (st) h cs ss = (lhas L 2 ∧ isI (lgt L 2) ∧ K 127 L (lgt L 2 :: st) h cs ss) := by
  rw [dL_one_126, ey_ok, nx_iload_n_1] <;> rfl
theorem qL_one_127 : ey F ini rt fin K0 K (decode cL_one 127) 127 L (st) h cs ss = (K0 127 L st h cs ss) := by
  rw [dL_one_127, ey_ok, nx_invokevirtual_72]
theorem qL_one_130 : ey F ini rt fin K0 K (decode cL_one 130) 130 L (st) h cs ss = (K 152 L st h cs ss) := by
  rw [dL_one_130, ey_ok, nx_goto_29]
  exact and_l (by unfold jok; decide)
theorem qL_one_133 : ey F ini rt fin K0 K (decode cL_one 133) 133 L (st) h cs ss = (lhas L 1 ∧ isI (lgt L 1) ∧ K 134 L (lgt L 1 :: st) h cs ss) := by
  rw [dL_one_133, ey_ok, nx_iload_n_1] <;> rfl
theorem qL_one_134 : ey F ini rt fin K0 K (decode cL_one 134) 134 L (st) h cs ss = (K 136 L (.int 10 :: st) h cs ss) := by
  rw [dL_one_134, ey_ok, nx_bipush_12] <;> rfl
theorem qL_one_136 : ey F ini rt fin K0 K (decode cL_one 136) 136 L (.int y :: .int x :: r) h cs ss = (if ¬ x = y then K 147 L r h cs ss else K 139 L r h cs ss) := by
  rw [dL_one_136, ey_ok, nx_if_icmp_37]
  exact and_l (by unfold jok; decide)
theorem qL_one_139 : ey F ini rt fin K0 K (decode cL_one 139) 139 L (st) h cs ss = (lhas L 0 ∧ isRf (lgt L 0) ∧ K 140 L (lgt L 0 :: st) h cs ss) := by
  rw [dL_one_139, ey_ok, nx_aload_n_3] <;> rfl
theorem qL_one_140 : ey F ini rt fin K0 K (decode cL_one 140) 140 L (st) h cs ss = (lhas L 2 ∧ isI (lgt L 2) ∧ K 141 L (lgt L 2 :: st) h cs ss) := by
  rw [dL_one_140, ey_ok, nx_iload_n_1] <;> rfl
theorem qL_one_141 : ey F ini rt fin K0 K (decode cL_one 141) 141 L (st) h cs ss = (K0 141 L st h cs ss) := by
  rw [dL_one_141, ey_ok, nx_invokevirtual_72]
theorem qL_one_144 : ey F ini rt fin K0 K (decode cL_one 144) 144 L (st) h cs ss = (K 152 L st h cs ss) := by
  rw [dL_one_144, ey_ok, nx_goto_29]
  exact and_l (by unfold jok; decide)
theorem qL_one_147 : ey F ini rt fin K0 K (decode cL_one 147) 147 L (st) h cs ss = (lhas L 0 ∧ isRf (lgt L 0) ∧ K 148 L (lgt L 0 :: st) h cs ss) := by
  rw [dL_one_147, ey_ok, nx_aload_n_3] <;> rfl
theorem qL_one_148 : ey F ini rt fin K0 K (decode cL_one 148) 148 L (st) h cs ss = (lhas L 2 ∧ isI (lgt L 2) ∧ K 149 L (lgt L 2 :: st) h cs ss) := by
  rw [dL_one_148, ey_ok, nx_iload_n_1] <;> rfl
theorem qL_one_149 : ey F ini rt fin K0 K (decode cL_one 149) 149 L (st) h cs ss = (K0 149 L st h cs ss) := by
  rw [dL_one_149, ey_ok, nx_invokevirtual_72]
theorem qL_one_152 : ey F ini rt fin K0 K (decode cL_one 152) 152 L ([.int x]) h cs ss = (rokI rt x ∧ fin (some (.int x)) h cs ss) := by
  rw [dL_one_152, ey_ok, nx_ireturn_68]
theorem qL_one_153r : ey F ini rt fin K0 K (decode cL_one 153) 153 L (.ref a :: r) h cs ss = (3 < L.length ∧ K 154 (L.set 3 (some (.ref a))) r h cs ss) := by
  rw [dL_one_153, ey_ok, nx_astore_n_8] <;> rfl
theorem qL_one_153n : ey F ini rt fin K0 K (decode cL_one 153) 153 L (.null :: r) h cs ss = (3 < L.length ∧ K 154 (L.set 3 (some .null)) r h cs ss) := by
  rw [dL_one_153, ey_ok, nx_astore_n_9] <;> rfl
theorem qL_one_154 : ey F ini rt fin K0 K (decode cL_one 154) 154 L (st) h cs ss = (K 157 L (.int (-1001) :: st) h cs ss) := by
  rw [dL_one_154, ey_ok, nx_sipush_13] <;> rfl
theorem qL_one_157 : ey F ini rt fin K0 K (decode cL_one 157) 157 L ([.int x]) h cs ss = (rokI rt x ∧ fin (some (.int x)) h cs ss) := by
  rw [dL_one_157, ey_ok, nx_ireturn_68]
theorem qL_one_158r : ey F ini rt fin K0 K (decode cL_one 158) 158 L (.ref a :: r) h cs ss = (3 < L.length ∧ K 159 (L.set 3 (some (.ref a))) r h cs ss) := by
  rw [dL_one_158, ey_ok, nx_astore_n_8] <;> rfl
theorem qL_one_158n : ey F ini rt fin K0 K (decode cL_one 158) 158 L (.null :: r) h cs ss = (3 < L.length ∧ K 159 (L.set 3 (some .null)) r h cs ss) := by
  rw [dL_one_158, ey_ok, nx_astore_n_9] <;> rfl
theorem qL_one_159 : ey F ini rt fin K0 K (decode cL_one 159) 159 L (st) h cs ss = (K 162 L (.int (-1003) :: st) h cs ss) := by
  rw [dL_one_159, ey_ok, nx_sipush_13] <;> rfl
theorem qL_one_162 : ey F ini rt fin K0 K (decode cL_one 162) 162 L ([.int x]) h cs ss = (rokI rt x ∧ fin (some (.int x)) h cs ss) := by
  rw [dL_one_162, ey_ok, nx_ireturn_68]
theorem qL_puts_0 : ey F ini rt fin K0 K (decode cL_puts 0) 0 L (st) h cs ss = (lhas L 0 ∧ isRf (lgt L 0) ∧ K 1 L (lgt L 0 :: st) h cs ss) := by
  rw [dL_puts_0, ey_ok, nx_aload_n_3] <;> rfl
theorem qL_puts_1 : ey F ini rt fin K0 K (decode cL_puts 1) 1 L (st) h cs ss = (lhas L 1 ∧ isI (lgt L 1) ∧ K 2 L (lgt L 1 :: st) h cs ss) := by
  rw [dL_puts_1, ey_ok, nx_iload_n_1] <;> rfl
theorem qL_puts_2 : ey F ini rt fin K0 K (decode cL_puts 2) 2 L (.int x :: r) h cs ss = (K 3 L (.int (x.toUInt32 % 65536).toInt32 :: r) h cs ss) := by
  rw [dL_puts_2, ey_ok, nx_i2c_25]
theorem qL_puts_3 : ey F ini rt fin K0 K (decode cL_puts 3) 3 L (st) h cs ss = (K0 3 L st h cs ss) := by
  rw [dL_puts_3, ey_ok, nx_invokevirtual_72]
theorem qL_puts_6 : ey F ini rt fin K0 K (decode cL_puts 6) 6 L ([.int x]) h cs ss = (rokI rt x ∧ fin (some (.int x)) h cs ss) := by
  rw [dL_puts_6, ey_ok, nx_ireturn_68]
theorem qL_puts_7r : ey F ini rt fin K0 K (decode cL_puts 7) 7 L (.ref a :: r) h cs ss = (2 < L.length ∧ K 8 (L.set 2 (some (.ref a))) r h cs ss) := by
  rw [dL_puts_7, ey_ok, nx_astore_n_8] <;> rfl
theorem qL_puts_7n : ey F ini rt fin K0 K (decode cL_puts 7) 7 L (.null :: r) h cs ss = (2 < L.length ∧ K 8 (L.set 2 (some .null)) r h cs ss) := by
  rw [dL_puts_7, ey_ok, nx_astore_n_9] <;> rfl
theorem qL_puts_8 : ey F ini rt fin K0 K (decode cL_puts 8) 8 L (st) h cs ss = (K 11 L (.int (-1002) :: st) h cs ss) := by
  rw [dL_puts_8, ey_ok, nx_sipush_13] <;> rfl
theorem qL_puts_11 : ey F ini rt fin K0 K (decode cL_puts 11) 11 L ([.int x]) h cs ss = (rokI rt x ∧ fin (some (.int x)) h cs ss) := by
  rw [dL_puts_11, ey_ok, nx_ireturn_68]
theorem qL_puts_12r : ey F ini rt fin K0 K (decode cL_puts 12) 12 L (.ref a :: r) h cs ss = (2 < L.length ∧ K 13 (L.set 2 (some (.ref a))) r h cs ss) := by
  rw [dL_puts_12, ey_ok, nx_astore_n_8] <;> rfl
theorem qL_puts_12n : ey F ini rt fin K0 K (decode cL_puts 12) 12 L (.null :: r) h cs ss = (2 < L.length ∧ K 13 (L.set 2 (some .null)) r h cs ss) := by
  rw [dL_puts_12, ey_ok, nx_astore_n_9] <;> rfl
theorem qL_puts_13 : ey F ini rt fin K0 K (decode cL_puts 13) 13 L (st) h cs ss = (K 16 L (.int (-1003) :: st) h cs ss) := by
  rw [dL_puts_13, ey_ok, nx_sipush_13] <;> rfl
theorem qL_puts_16 : ey F ini rt fin K0 K (decode cL_puts 16) 16 L ([.int x]) h cs ss = (rokI rt x ∧ fin (some (.int x)) h cs ss) := by
  rw [dL_puts_16, ey_ok, nx_ireturn_68]
theorem qL_reads_0 : ey F ini rt fin K0 K (decode cL_reads 0) 0 L (st) h cs ss = (lhas L 0 ∧ isRf (lgt L 0) ∧ K 1 L (lgt L 0 :: st) h cs ss) := by
  rw [dL_reads_0, ey_ok, nx_aload_n_3] <;> rfl
theorem qL_reads_1 : ey F ini rt fin K0 K (decode cL_reads 1) 1 L (st) h cs ss = (K0 1 L st h cs ss) := by
  rw [dL_reads_1, ey_ok, nx_invokevirtual_72]
theorem qL_reads_4 : ey F ini rt fin K0 K (decode cL_reads 4) 4 L ([.int x]) h cs ss = (rokI rt x ∧ fin (some (.int x)) h cs ss) := by
  rw [dL_reads_4, ey_ok, nx_ireturn_68]
theorem qL_reads_5r : ey F ini rt fin K0 K (decode cL_reads 5) 5 L (.ref a :: r) h cs ss = (1 < L.length ∧ K 6 (L.set 1 (some (.ref a))) r h cs ss) := by
  rw [dL_reads_5, ey_ok, nx_astore_n_8] <;> rfl
theorem qL_reads_5n : ey F ini rt fin K0 K (decode cL_reads 5) 5 L (.null :: r) h cs ss = (1 < L.length ∧ K 6 (L.set 1 (some .null)) r h cs ss) := by
  rw [dL_reads_5, ey_ok, nx_astore_n_9] <;> rfl
theorem qL_reads_6 : ey F ini rt fin K0 K (decode cL_reads 6) 6 L (st) h cs ss = (K 9 L (.int (-1002) :: st) h cs ss) := by
  rw [dL_reads_6, ey_ok, nx_sipush_13] <;> rfl
theorem qL_reads_9 : ey F ini rt fin K0 K (decode cL_reads 9) 9 L ([.int x]) h cs ss = (rokI rt x ∧ fin (some (.int x)) h cs ss) := by
  rw [dL_reads_9, ey_ok, nx_ireturn_68]
theorem qL_reads_10r : ey F ini rt fin K0 K (decode cL_reads 10) 10 L (.ref a :: r) h cs ss = (1 < L.length ∧ K 11 (L.set 1 (some (.ref a))) r h cs ss) := by
  rw [dL_reads_10, ey_ok, nx_astore_n_8] <;> rfl
theorem qL_reads_10n : ey F ini rt fin K0 K (decode cL_reads 10) 10 L (.null :: r) h cs ss = (1 < L.length ∧ K 11 (L.set 1 (some .null)) r h cs ss) := by
  rw [dL_reads_10, ey_ok, nx_astore_n_9] <;> rfl
theorem qL_reads_11 : ey F ini rt fin K0 K (decode cL_reads 11) 11 L (st) h cs ss = (K 14 L (.int (-1003) :: st) h cs ss) := by
  rw [dL_reads_11, ey_ok, nx_sipush_13] <;> rfl
theorem qL_reads_14 : ey F ini rt fin K0 K (decode cL_reads 14) 14 L ([.int x]) h cs ss = (rokI rt x ∧ fin (some (.int x)) h cs ss) := by
  rw [dL_reads_14, ey_ok, nx_ireturn_68]
theorem qL_coded_0 : ey F ini rt fin K0 K (decode cL_coded 0) 0 L (st) h cs ss = (lhas L 0 ∧ isI (lgt L 0) ∧ K 1 L (lgt L 0 :: st) h cs ss) := by
  rw [dL_coded_0, ey_ok, nx_iload_n_1] <;> rfl
theorem qL_coded_1 : ey F ini rt fin K0 K (decode cL_coded 1) 1 L (st) h cs ss = (K 3 L (.int 64 :: st) h cs ss) := by
  rw [dL_coded_1, ey_ok, nx_bipush_12] <;> rfl
theorem qL_coded_3 : ey F ini rt fin K0 K (decode cL_coded 3) 3 L (.int y :: .int x :: r) h cs ss = (K 4 L (.int (x - y) :: r) h cs ss) := by
  rw [dL_coded_3, ey_ok, nx_isub_17]
theorem qL_coded_4 : ey F ini rt fin K0 K (decode cL_coded 4) 4 L (st) h cs ss = (K 6 L (.int 32 :: st) h cs ss) := by
  rw [dL_coded_4, ey_ok, nx_bipush_12] <;> rfl
theorem qL_coded_6 : ey F ini rt fin K0 K (decode cL_coded 6) 6 L (st) h cs ss = (lhas L 1 ∧ isI (lgt L 1) ∧ K 7 L (lgt L 1 :: st) h cs ss) := by
  rw [dL_coded_6, ey_ok, nx_iload_n_1] <;> rfl
theorem qL_coded_7 : ey F ini rt fin K0 K (decode cL_coded 7) 7 L (st) h cs ss = (K 9 L (.int 64 :: st) h cs ss) := by
  rw [dL_coded_7, ey_ok, nx_bipush_12] <;> rfl
theorem qL_coded_9 : ey F ini rt fin K0 K (decode cL_coded 9) 9 L (.int y :: .int x :: r) h cs ss = (K 10 L (.int (x - y) :: r) h cs ss) := by
  rw [dL_coded_9, ey_ok, nx_isub_17]
theorem qL_coded_10 : ey F ini rt fin K0 K (decode cL_coded 10) 10 L (.int y :: .int x :: r) h cs ss = (K 11 L (.int (x * y) :: r) h cs ss) := by
  rw [dL_coded_10, ey_ok, nx_imul_18]
theorem qL_coded_11 : ey F ini rt fin K0 K (decode cL_coded 11) 11 L (.int y :: .int x :: r) h cs ss = (K 12 L (.int (x + y) :: r) h cs ss) := by
  rw [dL_coded_11, ey_ok, nx_iadd_16]
theorem qL_coded_12 : ey F ini rt fin K0 K (decode cL_coded 12) 12 L (st) h cs ss = (K 15 L (.int 1024 :: st) h cs ss) := by
  rw [dL_coded_12, ey_ok, nx_sipush_13] <;> rfl
theorem qL_coded_15 : ey F ini rt fin K0 K (decode cL_coded 15) 15 L (st) h cs ss = (lhas L 2 ∧ isI (lgt L 2) ∧ K 16 L (lgt L 2 :: st) h cs ss) := by
  rw [dL_coded_15, ey_ok, nx_iload_n_1] <;> rfl
theorem qL_coded_16 : ey F ini rt fin K0 K (decode cL_coded 16) 16 L (st) h cs ss = (K 18 L (.int 64 :: st) h cs ss) := by
  rw [dL_coded_16, ey_ok, nx_bipush_12] <;> rfl
theorem qL_coded_18 : ey F ini rt fin K0 K (decode cL_coded 18) 18 L (.int y :: .int x :: r) h cs ss = (K 19 L (.int (x - y) :: r) h cs ss) := by
  rw [dL_coded_18, ey_ok, nx_isub_17]
theorem qL_coded_19 : ey F ini rt fin K0 K (decode cL_coded 19) 19 L (.int y :: .int x :: r) h cs ss = (K 20 L (.int (x * y) :: r) h cs ss) := by
  rw [dL_coded_19, ey_ok, nx_imul_18]
theorem qL_coded_20 : ey F ini rt fin K0 K (decode cL_coded 20) 20 L (.int y :: .int x :: r) h cs ss = (K 21 L (.int (x + y) :: r) h cs ss) := by
  rw [dL_coded_20, ey_ok, nx_iadd_16]
theorem qL_coded_21 : ey F ini rt fin K0 K (decode cL_coded 21) 21 L (st) h cs ss = (K0 21 L st h cs ss) := by
  rw [dL_coded_21, ey_ok, nx_ldc_79]
theorem qL_coded_23 : ey F ini rt fin K0 K (decode cL_coded 23) 23 L (st) h cs ss = (lhas L 3 ∧ isI (lgt L 3) ∧ K 24 L (lgt L 3 :: st) h cs ss) := by
  rw [dL_coded_23, ey_ok, nx_iload_n_1] <;> rfl
theorem qL_coded_24 : ey F ini rt fin K0 K (decode cL_coded 24) 24 L (st) h cs ss = (K 26 L (.int 64 :: st) h cs ss) := by
  rw [dL_coded_24, ey_ok, nx_bipush_12] <;> rfl
theorem qL_coded_26 : ey F ini rt fin K0 K (decode cL_coded 26) 26 L (.int y :: .int x :: r) h cs ss = (K 27 L (.int (x - y) :: r) h cs ss) := by
  rw [dL_coded_26, ey_ok, nx_isub_17]
theorem qL_coded_27 : ey F ini rt fin K0 K (decode cL_coded 27) 27 L (.int y :: .int x :: r) h cs ss = (K 28 L (.int (x * y) :: r) h cs ss) := by
  rw [dL_coded_27, ey_ok, nx_imul_18]
theorem qL_coded_28 : ey F ini rt fin K0 K (decode cL_coded 28) 28 L (.int y :: .int x :: r) h cs ss = (K 29 L (.int (x + y) :: r) h cs ss) := by
  rw [dL_coded_28, ey_ok, nx_iadd_16]
theorem qL_coded_29 : ey F ini rt fin K0 K (decode cL_coded 29) 29 L (st) h cs ss = (K0 29 L st h cs ss) := by
  rw [dL_coded_29, ey_ok, nx_ldc_79]
theorem qL_coded_31 : ey F ini rt fin K0 K (decode cL_coded 31) 31 L (st) h cs ss = (lhas L 4 ∧ isI (lgt L 4) ∧ K 33 L (lgt L 4 :: st) h cs ss) := by
  rw [dL_coded_31, ey_ok, nx_iload_0] <;> rfl
theorem qL_coded_33 : ey F ini rt fin K0 K (decode cL_coded 33) 33 L (st) h cs ss = (K 35 L (.int 64 :: st) h cs ss) := by
  rw [dL_coded_33, ey_ok, nx_bipush_12] <;> rfl
theorem qL_coded_35 : ey F ini rt fin K0 K (decode cL_coded 35) 35 L (.int y :: .int x :: r) h cs ss = (K 36 L (.int (x - y) :: r) h cs ss) := by
  rw [dL_coded_35, ey_ok, nx_isub_17]
theorem qL_coded_36 : ey F ini rt fin K0 K (decode cL_coded 36) 36 L (.int y :: .int x :: r) h cs ss = (K 37 L (.int (x * y) :: r) h cs ss) := by
  rw [dL_coded_36, ey_ok, nx_imul_18]
theorem qL_coded_37 : ey F ini rt fin K0 K (decode cL_coded 37) 37 L (.int y :: .int x :: r) h cs ss = (K 38 L (.int (x + y) :: r) h cs ss) := by
  rw [dL_coded_37, ey_ok, nx_iadd_16]
theorem qL_coded_38 : ey F ini rt fin K0 K (decode cL_coded 38) 38 L ([.int x]) h cs ss = (rokI rt x ∧ fin (some (.int x)) h cs ss) := by
  rw [dL_coded_38, ey_ok, nx_ireturn_68]
theorem qL_letters_0 : ey F ini rt fin K0 K (decode cL_letters 0) 0 L (st) h cs ss = (lhas L 0 ∧ isI (lgt L 0) ∧ K 1 L (lgt L 0 :: st) h cs ss) := by
  rw [dL_letters_0, ey_ok, nx_iload_n_1] <;> rfl
theorem qL_letters_1 : ey F ini rt fin K0 K (decode cL_letters 1) 1 L (.int x :: r) h cs ss = (if ¬ x = 0 then K 20 L r h cs ss else K 4 L r h cs ss) := by
  rw [dL_letters_1, ey_ok, nx_ifond_31]
  exact and_l (by unfold jok; decide)
theorem qL_letters_4 : ey F ini rt fin K0 K (decode cL_letters 4) 4 L (st) h cs ss = (K 6 L (.int 82 :: st) h cs ss) := by
  rw [dL_letters_4, ey_ok, nx_bipush_12] <;> rfl
theorem qL_letters_6 : ey F ini rt fin K0 K (decode cL_letters 6) 6 L (st) h cs ss = (K 8 L (.int 69 :: st) h cs ss) := by
  rw [dL_letters_6, ey_ok, nx_bipush_12] <;> rfl
theorem qL_letters_8 : ey F ini rt fin K0 K (decode cL_letters 8) 8 L (st) h cs ss = (K 10 L (.int 83 :: st) h cs ss) := by
  rw [dL_letters_8, ey_ok, nx_bipush_12] <;> rfl
theorem qL_letters_10 : ey F ini rt fin K0 K (decode cL_letters 10) 10 L (st) h cs ss = (K 12 L (.int 84 :: st) h cs ss) := by
  rw [dL_letters_10, ey_ok, nx_bipush_12] <;> rfl
theorem qL_letters_12 : ey F ini rt fin K0 K (decode cL_letters 12) 12 L (st) h cs ss = (K 14 L (.int 64 :: st) h cs ss) := by
  rw [dL_letters_12, ey_ok, nx_bipush_12] <;> rfl
theorem qL_letters_14 : ey F ini rt fin K0 K (decode cL_letters 14) 14 L (st) h cs ss = (K0 14 L st h cs ss) := by
  rw [dL_letters_14, ey_ok, nx_invokestatic_73]
theorem qL_letters_17 : ey F ini rt fin K0 K (decode cL_letters 17) 17 L (st) h cs ss = (K 117 L st h cs ss) := by
  rw [dL_letters_17, ey_ok, nx_goto_29]
  exact and_l (by unfold jok; decide)
theorem qL_letters_20 : ey F ini rt fin K0 K (decode cL_letters 20) 20 L (st) h cs ss = (lhas L 0 ∧ isI (lgt L 0) ∧ K 21 L (lgt L 0 :: st) h cs ss) := by
  rw [dL_letters_20, ey_ok, nx_iload_n_1] <;> rfl
theorem qL_letters_21 : ey F ini rt fin K0 K (decode cL_letters 21) 21 L (st) h cs ss = (K 22 L (.int 1 :: st) h cs ss) := by
  rw [dL_letters_21, ey_ok, nx_iconst_11] <;> rfl
theorem qL_letters_22 : ey F ini rt fin K0 K (decode cL_letters 22) 22 L (.int y :: .int x :: r) h cs ss = (if ¬ x = y then K 41 L r h cs ss else K 25 L r h cs ss) := by
  rw [dL_letters_22, ey_ok, nx_if_icmp_37]
  exact and_l (by unfold jok; decide)
theorem qL_letters_25 : ey F ini rt fin K0 K (decode cL_letters 25) 25 L (st) h cs ss = (K 27 L (.int 87 :: st) h cs ss) := by
  rw [dL_letters_25, ey_ok, nx_bipush_12] <;> rfl
theorem qL_letters_27 : ey F ini rt fin K0 K (decode cL_letters 27) 27 L (st) h cs ss = (K 29 L (.int 69 :: st) h cs ss) := by
  rw [dL_letters_27, ey_ok, nx_bipush_12] <;> rfl
theorem qL_letters_29 : ey F ini rt fin K0 K (decode cL_letters 29) 29 L (st) h cs ss = (K 31 L (.int 69 :: st) h cs ss) := by
  rw [dL_letters_29, ey_ok, nx_bipush_12] <;> rfl
theorem qL_letters_31 : ey F ini rt fin K0 K (decode cL_letters 31) 31 L (st) h cs ss = (K 33 L (.int 75 :: st) h cs ss) := by
  rw [dL_letters_31, ey_ok, nx_bipush_12] <;> rfl
theorem qL_letters_33 : ey F ini rt fin K0 K (decode cL_letters 33) 33 L (st) h cs ss = (K 35 L (.int 64 :: st) h cs ss) := by
  rw [dL_letters_33, ey_ok, nx_bipush_12] <;> rfl
theorem qL_letters_35 : ey F ini rt fin K0 K (decode cL_letters 35) 35 L (st) h cs ss = (K0 35 L st h cs ss) := by
  rw [dL_letters_35, ey_ok, nx_invokestatic_73]
theorem qL_letters_38 : ey F ini rt fin K0 K (decode cL_letters 38) 38 L (st) h cs ss = (K 117 L st h cs ss) := by
  rw [dL_letters_38, ey_ok, nx_goto_29]
  exact and_l (by unfold jok; decide)
theorem qL_letters_41 : ey F ini rt fin K0 K (decode cL_letters 41) 41 L (st) h cs ss = (lhas L 0 ∧ isI (lgt L 0) ∧ K 42 L (lgt L 0 :: st) h cs ss) := by
  rw [dL_letters_41, ey_ok, nx_iload_n_1] <;> rfl
theorem qL_letters_42 : ey F ini rt fin K0 K (decode cL_letters 42) 42 L (st) h cs ss = (K 43 L (.int 2 :: st) h cs ss) := by
  rw [dL_letters_42, ey_ok, nx_iconst_11] <;> rfl
theorem qL_letters_43 : ey F ini rt fin K0 K (decode cL_letters 43) 43 L (.int y :: .int x :: r) h cs ss = (if ¬ x = y then K 62 L r h cs ss else K 46 L r h cs ss) := by
  rw [dL_letters_43, ey_ok, nx_if_icmp_37]
  exact and_l (by unfold jok; decide)
theorem qL_letters_46 : ey F ini rt fin K0 K (decode cL_letters 46) 46 L (st) h cs ss = (K 48 L (.int 82 :: st) h cs ss) := by
  rw [dL_letters_46, ey_ok, nx_bipush_12] <;> rfl
theorem qL_letters_48 : ey F ini rt fin K0 K (decode cL_letters 48) 48 L (st) h cs ss = (K 50 L (.int 79 :: st) h cs ss) := by
  rw [dL_letters_48, ey_ok, nx_bipush_12] <;> rfl
theorem qL_letters_50 : ey F ini rt fin K0 K (decode cL_letters 50) 50 L (st) h cs ss = (K 52 L (.int 87 :: st) h cs ss) := by
  rw [dL_letters_50, ey_ok, nx_bipush_12] <;> rfl
theorem qL_letters_52 : ey F ini rt fin K0 K (decode cL_letters 52) 52 L (st) h cs ss = (K 54 L (.int 64 :: st) h cs ss) := by
  rw [dL_letters_52, ey_ok, nx_bipush_12] <;> rfl
theorem qL_letters_54 : ey F ini rt fin K0 K (decode cL_letters 54) 54 L (st) h cs ss = (K 56 L (.int 64 :: st) h cs ss) := by
  rw [dL_letters_54, ey_ok, nx_bipush_12] <;> rfl
theorem qL_letters_56 : ey F ini rt fin K0 K (decode cL_letters 56) 56 L (st) h cs ss = (K0 56 L st h cs ss) := by
  rw [dL_letters_56, ey_ok, nx_invokestatic_73]
theorem qL_letters_59 : ey F ini rt fin K0 K (decode cL_letters 59) 59 L (st) h cs ss = (K 117 L st h cs ss) := by
  rw [dL_letters_59, ey_ok, nx_goto_29]
  exact and_l (by unfold jok; decide)
theorem qL_letters_62 : ey F ini rt fin K0 K (decode cL_letters 62) 62 L (st) h cs ss = (lhas L 0 ∧ isI (lgt L 0) ∧ K 63 L (lgt L 0 :: st) h cs ss) := by
  rw [dL_letters_62, ey_ok, nx_iload_n_1] <;> rfl
theorem qL_letters_63 : ey F ini rt fin K0 K (decode cL_letters 63) 63 L (st) h cs ss = (K 64 L (.int 3 :: st) h cs ss) := by
  rw [dL_letters_63, ey_ok, nx_iconst_11] <;> rfl
theorem qL_letters_64 : ey F ini rt fin K0 K (decode cL_letters 64) 64 L (.int y :: .int x :: r) h cs ss = (if ¬ x = y then K 83 L r h cs ss else K 67 L r h cs ss) := by
  rw [dL_letters_64, ey_ok, nx_if_icmp_37]
  exact and_l (by unfold jok; decide)
theorem qL_letters_67 : ey F ini rt fin K0 K (decode cL_letters 67) 67 L (st) h cs ss = (K 69 L (.int 76 :: st) h cs ss) := by
  rw [dL_letters_67, ey_ok, nx_bipush_12] <;> rfl
theorem qL_letters_69 : ey F ini rt fin K0 K (decode cL_letters 69) 69 L (st) h cs ss = (K 71 L (.int 79 :: st) h cs ss) := by
  rw [dL_letters_69, ey_ok, nx_bipush_12] <;> rfl
theorem qL_letters_71 : ey F ini rt fin K0 K (decode cL_letters 71) 71 L (st) h cs ss = (K 73 L (.int 78 :: st) h cs ss) := by
  rw [dL_letters_71, ey_ok, nx_bipush_12] <;> rfl
theorem qL_letters_73 : ey F ini rt fin K0 K (decode cL_letters 73) 73 L (st) h cs ss = (K 75 L (.int 71 :: st) h cs ss) := by
  rw [dL_letters_73, ey_ok, nx_bipush_12] <;> rfl
theorem qL_letters_75 : ey F ini rt fin K0 K (decode cL_letters 75) 75 L (st) h cs ss = (K 77 L (.int 64 :: st) h cs ss) := by
  rw [dL_letters_75, ey_ok, nx_bipush_12] <;> rfl
theorem qL_letters_77 : ey F ini rt fin K0 K (decode cL_letters 77) 77 L (st) h cs ss = (K0 77 L st h cs ss) := by
  rw [dL_letters_77, ey_ok, nx_invokestatic_73]
theorem qL_letters_80 : ey F ini rt fin K0 K (decode cL_letters 80) 80 L (st) h cs ss = (K 117 L st h cs ss) := by
  rw [dL_letters_80, ey_ok, nx_goto_29]
  exact and_l (by unfold jok; decide)
theorem qL_letters_83 : ey F ini rt fin K0 K (decode cL_letters 83) 83 L (st) h cs ss = (lhas L 0 ∧ isI (lgt L 0) ∧ K 84 L (lgt L 0 :: st) h cs ss) := by
  rw [dL_letters_83, ey_ok, nx_iload_n_1] <;> rfl
theorem qL_letters_84 : ey F ini rt fin K0 K (decode cL_letters 84) 84 L (st) h cs ss = (K 85 L (.int 4 :: st) h cs ss) := by
  rw [dL_letters_84, ey_ok, nx_iconst_11] <;> rfl
theorem qL_letters_85 : ey F ini rt fin K0 K (decode cL_letters 85) 85 L (.int y :: .int x :: r) h cs ss = (if ¬ x = y then K 104 L r h cs ss else K 88 L r h cs ss) := by
  rw [dL_letters_85, ey_ok, nx_if_icmp_37]
  exact and_l (by unfold jok; decide)
theorem qL_letters_88 : ey F ini rt fin K0 K (decode cL_letters 88) 88 L (st) h cs ss = (K 90 L (.int 83 :: st) h cs ss) := by
  rw [dL_letters_88, ey_ok, nx_bipush_12] <;> rfl
theorem qL_letters_90 : ey F ini rt fin K0 K (decode cL_letters 90) 90 L (st) h cs ss = (K 92 L (.int 75 :: st) h cs ss) := by
  rw [dL_letters_90, ey_ok, nx_bipush_12] <;> rfl
theorem qL_letters_92 : ey F ini rt fin K0 K (decode cL_letters 92) 92 L (st) h cs ss = (K 94 L (.int 73 :: st) h cs ss) := by
  rw [dL_letters_92, ey_ok, nx_bipush_12] <;> rfl
theorem qL_letters_94 : ey F ini rt fin K0 K (decode cL_letters 94) 94 L (st) h cs ss = (K 96 L (.int 76 :: st) h cs ss) := by
  rw [dL_letters_94, ey_ok, nx_bipush_12] <;> rfl
theorem qL_letters_96 : ey F ini rt fin K0 K (decode cL_letters 96) 96 L (st) h cs ss = (K 98 L (.int 76 :: st) h cs ss) := by
  rw [dL_letters_96, ey_ok, nx_bipush_12] <;> rfl
theorem qL_letters_98 : ey F ini rt fin K0 K (decode cL_letters 98) 98 L (st) h cs ss = (K0 98 L st h cs ss) := by
  rw [dL_letters_98, ey_ok, nx_invokestatic_73]
theorem qL_letters_101 : ey F ini rt fin K0 K (decode cL_letters 101) 101 L (st) h cs ss = (K 117 L st h cs ss) := by
  rw [dL_letters_101, ey_ok, nx_goto_29]
  exact and_l (by unfold jok; decide)
theorem qL_letters_104 : ey F ini rt fin K0 K (decode cL_letters 104) 104 L (st) h cs ss = (K 106 L (.int 80 :: st) h cs ss) := by
  rw [dL_letters_104, ey_ok, nx_bipush_12] <;> rfl
theorem qL_letters_106 : ey F ini rt fin K0 K (decode cL_letters 106) 106 L (st) h cs ss = (K 108 L (.int 65 :: st) h cs ss) := by
  rw [dL_letters_106, ey_ok, nx_bipush_12] <;> rfl
theorem qL_letters_108 : ey F ini rt fin K0 K (decode cL_letters 108) 108 L (st) h cs ss = (K 110 L (.int 89 :: st) h cs ss) := by
  rw [dL_letters_108, ey_ok, nx_bipush_12] <;> rfl
theorem qL_letters_110 : ey F ini rt fin K0 K (decode cL_letters 110) 110 L (st) h cs ss = (K 112 L (.int 64 :: st) h cs ss) := by
  rw [dL_letters_110, ey_ok, nx_bipush_12] <;> rfl
theorem qL_letters_112 : ey F ini rt fin K0 K (decode cL_letters 112) 112 L (st) h cs ss = (K 114 L (.int 64 :: st) h cs ss) := by
  rw [dL_letters_112, ey_ok, nx_bipush_12] <;> rfl
theorem qL_letters_114 : ey F ini rt fin K0 K (decode cL_letters 114) 114 L (st) h cs ss = (K0 114 L st h cs ss) := by
  rw [dL_letters_114, ey_ok, nx_invokestatic_73]
theorem qL_letters_117 : ey F ini rt fin K0 K (decode cL_letters 117) 117 L ([.int x]) h cs ss = (rokI rt x ∧ fin (some (.int x)) h cs ss) := by
  rw [dL_letters_117, ey_ok, nx_ireturn_68]
theorem qL_word_0 : ey F ini rt fin K0 K (decode cL_word 0) 0 L (st) h cs ss = (lhas L 1 ∧ isI (lgt L 1) ∧ K 1 L (lgt L 1 :: st) h cs ss) := by
  rw [dL_word_0, ey_ok, nx_iload_n_1] <;> rfl
theorem qL_word_1 : ey F ini rt fin K0 K (decode cL_word 1) 1 L (st) h cs ss = (K 2 L (.int 1 :: st) h cs ss) := by
  rw [dL_word_1, ey_ok, nx_iconst_11] <;> rfl
theorem qL_word_2 : ey F ini rt fin K0 K (decode cL_word 2) 2 L (.int y :: .int x :: r) h cs ss = (K 3 L (.int (x + y) :: r) h cs ss) := by
  rw [dL_word_2, ey_ok, nx_iadd_16]
theorem qL_word_3 : ey F ini rt fin K0 K (decode cL_word 3) 3 L (.int x :: r) h cs ss = (5 < L.length ∧ K 5 (L.set 5 (some (.int x))) r h cs ss) := by
  rw [dL_word_3, ey_ok, nx_istore_4] <;> rfl
theorem qL_word_5 : ey F ini rt fin K0 K (decode cL_word 5) 5 L (st) h cs ss = (lhas L 0 ∧ isRf (lgt L 0) ∧ K 6 L (lgt L 0 :: st) h cs ss) := by
  rw [dL_word_5, ey_ok, nx_aload_n_3] <;> rfl
theorem qL_word_6 : ey F ini rt fin K0 K (decode cL_word 6) 6 L (st) h cs ss = (K 8 L (.int 32 :: st) h cs ss) := by
  rw [dL_word_6, ey_ok, nx_bipush_12] <;> rfl
theorem qL_word_8 : ey F ini rt fin K0 K (decode cL_word 8) 8 L (st) h cs ss = (K0 8 L st h cs ss) := by
  rw [dL_word_8, ey_ok, nx_invokestatic_73]
theorem qL_word_11 : ey F ini rt fin K0 K (decode cL_word 11) 11 L (st) h cs ss = (lhas L 5 ∧ isI (lgt L 5) ∧ K 13 L (lgt L 5 :: st) h cs ss) := by
  rw [dL_word_11, ey_ok, nx_iload_0] <;> rfl
theorem qL_word_13 : ey F ini rt fin K0 K (decode cL_word 13) 13 L (.int y :: .int x :: r) h cs ss = (if ¬ x = y then K 20 L r h cs ss else K 16 L r h cs ss) := by
  rw [dL_word_13, ey_ok, nx_if_icmp_37]
  exact and_l (by unfold jok; decide)
theorem qL_word_16 : ey F ini rt fin K0 K (decode cL_word 16) 16 L (st) h cs ss = (K 17 L (.int 1 :: st) h cs ss) := by
  rw [dL_word_16, ey_ok, nx_iconst_11] <;> rfl
theorem qL_word_17 : ey F ini rt fin K0 K (decode cL_word 17) 17 L (st) h cs ss = (K 21 L st h cs ss) := by
  rw [dL_word_17, ey_ok, nx_goto_29]
  exact and_l (by unfold jok; decide)
theorem qL_word_20 : ey F ini rt fin K0 K (decode cL_word 20) 20 L (st) h cs ss = (K 21 L (.int 0 :: st) h cs ss) := by
  rw [dL_word_20, ey_ok, nx_iconst_11] <;> rfl
theorem qL_word_21 : ey F ini rt fin K0 K (decode cL_word 21) 21 L (.int x :: r) h cs ss = (6 < L.length ∧ K 23 (L.set 6 (some (.int x))) r h cs ss) := by
  rw [dL_word_21, ey_ok, nx_istore_4] <;> rfl
theorem qL_word_23 : ey F ini rt fin K0 K (decode cL_word 23) 23 L (st) h cs ss = (lhas L 2 ∧ isI (lgt L 2) ∧ K 24 L (lgt L 2 :: st) h cs ss) := by
  rw [dL_word_23, ey_ok, nx_iload_n_1] <;> rfl
theorem qL_word_24 : ey F ini rt fin K0 K (decode cL_word 24) 24 L (.int x :: r) h cs ss = (7 < L.length ∧ K 26 (L.set 7 (some (.int x))) r h cs ss) := by
  rw [dL_word_24, ey_ok, nx_istore_4] <;> rfl
theorem qL_word_26 : ey F ini rt fin K0 K (decode cL_word 26) 26 L (st) h cs ss = (lhas L 7 ∧ isI (lgt L 7) ∧ K 28 L (lgt L 7 :: st) h cs ss) := by
  rw [dL_word_26, ey_ok, nx_iload_0] <;> rfl
theorem qL_word_28 : ey F ini rt fin K0 K (decode cL_word 28) 28 L (.int x :: r) h cs ss = (if x ≤ 0 then K 72 L r h cs ss else K 31 L r h cs ss) := by
  rw [dL_word_28, ey_ok, nx_ifond_35]
  exact and_l (by unfold jok; decide)
theorem qL_word_31 : ey F ini rt fin K0 K (decode cL_word 31) 31 L (st) h cs ss = (lhas L 5 ∧ isI (lgt L 5) ∧ K 34 (L.set 5 (some (inc (lgt L 5) 1))) st h cs ss) := by
  rw [dL_word_31, ey_ok, nx_iinc_10] <;> rfl
theorem qL_word_34 : ey F ini rt fin K0 K (decode cL_word 34) 34 L (st) h cs ss = (lhas L 6 ∧ isI (lgt L 6) ∧ K 36 L (lgt L 6 :: st) h cs ss) := by
  rw [dL_word_34, ey_ok, nx_iload_0] <;> rfl
theorem qL_word_36 : ey F ini rt fin K0 K (decode cL_word 36) 36 L (.int x :: r) h cs ss = (if x = 0 then K 60 L r h cs ss else K 39 L r h cs ss) := by
  rw [dL_word_36, ey_ok, nx_ifond_30]
  exact and_l (by unfold jok; decide)
theorem qL_word_39 : ey F ini rt fin K0 K (decode cL_word 39) 39 L (st) h cs ss = (lhas L 0 ∧ isRf (lgt L 0) ∧ K 40 L (lgt L 0 :: st) h cs ss) := by
  rw [dL_word_39, ey_ok, nx_aload_n_3] <;> rfl
theorem qL_word_40 : ey F ini rt fin K0 K (decode cL_word 40) 40 L (st) h cs ss = (K 42 L (.int 64 :: st) h cs ss) := by
  rw [dL_word_40, ey_ok, nx_bipush_12] <;> rfl
theorem qL_word_42 : ey F ini rt fin K0 K (decode cL_word 42) 42 L (st) h cs ss = (lhas L 7 ∧ isI (lgt L 7) ∧ K 44 L (lgt L 7 :: st) h cs ss) := by
  rw [dL_word_42, ey_ok, nx_iload_0] <;> rfl
theorem qL_word_44 : ey F ini rt fin K0 K (decode cL_word 44) 44 L (st) h cs ss = (K 46 L (.int 32 :: st) h cs ss) := by
  rw [dL_word_44, ey_ok, nx_bipush_12] <;> rfl
theorem qL_word_46 : ey F ini rt fin K0 K (decode cL_word 46) 46 L (.int y :: .int x :: r) h cs ss = (¬ y = 0 ∧ K 47 L (.int (x - x / y * y) :: r) h cs ss) := by
  rw [dL_word_46, ey_ok, nx_irem_81]
theorem qL_word_47 : ey F ini rt fin K0 K (decode cL_word 47) 47 L (.int y :: .int x :: r) h cs ss = (K 48 L (.int (x + y) :: r) h cs ss) := by
  rw [dL_word_47, ey_ok, nx_iadd_16]
theorem qL_word_48 : ey F ini rt fin K0 K (decode cL_word 48) 48 L (st) h cs ss = (K0 48 L st h cs ss) := by
  rw [dL_word_48, ey_ok, nx_invokestatic_73]
theorem qL_word_51 : ey F ini rt fin K0 K (decode cL_word 51) 51 L (st) h cs ss = (lhas L 5 ∧ isI (lgt L 5) ∧ K 53 L (lgt L 5 :: st) h cs ss) := by
  rw [dL_word_51, ey_ok, nx_iload_0] <;> rfl
theorem qL_word_53 : ey F ini rt fin K0 K (decode cL_word 53) 53 L (.int y :: .int x :: r) h cs ss = (if ¬ x = y then K 60 L r h cs ss else K 56 L r h cs ss) := by
  rw [dL_word_53, ey_ok, nx_if_icmp_37]
  exact and_l (by unfold jok; decide)
theorem qL_word_56 : ey F ini rt fin K0 K (decode cL_word 56) 56 L (st) h cs ss = (K 57 L (.int 1 :: st) h cs ss) := by
  rw [dL_word_56, ey_ok, nx_iconst_11] <;> rfl
theorem qL_word_57 : ey F ini rt fin K0 K (decode cL_word 57) 57 L (st) h cs ss = (K 61 L st h cs ss) := by
  rw [dL_word_57, ey_ok, nx_goto_29]
  exact and_l (by unfold jok; decide)
theorem qL_word_60 : ey F ini rt fin K0 K (decode cL_word 60) 60 L (st) h cs ss = (K 61 L (.int 0 :: st) h cs ss) := by
  rw [dL_word_60, ey_ok, nx_iconst_11] <;> rfl
theorem qL_word_61 : ey F ini rt fin K0 K (decode cL_word 61) 61 L (.int x :: r) h cs ss = (6 < L.length ∧ K 63 (L.set 6 (some (.int x))) r h cs ss) := by
  rw [dL_word_61, ey_ok, nx_istore_4] <;> rfl
theorem qL_word_63 : ey F ini rt fin K0 K (decode cL_word 63) 63 L (st) h cs ss = (lhas L 7 ∧ isI (lgt L 7) ∧ K 65 L (lgt L 7 :: st) h cs ss) := by
  rw [dL_word_63, ey_ok, nx_iload_0] <;> rfl
theorem qL_word_65 : ey F ini rt fin K0 K (decode cL_word 65) 65 L (st) h cs ss = (K 66 L (.int 5 :: st) h cs ss) := by
  rw [dL_word_65, ey_ok, nx_iconst_11] <;> rfl
theorem qL_word_66 : ey F ini rt fin K0 K (decode cL_word 66) 66 L (.int y :: .int x :: r) h cs ss = (K 67 L (.int (x >>> (y &&& 31)) :: r) h cs ss) := by
  rw [dL_word_66, ey_ok, nx_ishr_21]
theorem qL_word_67 : ey F ini rt fin K0 K (decode cL_word 67) 67 L (.int x :: r) h cs ss = (7 < L.length ∧ K 69 (L.set 7 (some (.int x))) r h cs ss) := by
  rw [dL_word_67, ey_ok, nx_istore_4] <;> rfl
theorem qL_word_69 : ey F ini rt fin K0 K (decode cL_word 69) 69 L (st) h cs ss = (K 26 L st h cs ss) := by
  rw [dL_word_69, ey_ok, nx_goto_29]
  exact and_l (by unfold jok; decide)
theorem qL_word_72 : ey F ini rt fin K0 K (decode cL_word 72) 72 L (st) h cs ss = (lhas L 4 ∧ isI (lgt L 4) ∧ K 74 L (lgt L 4 :: st) h cs ss) := by
  rw [dL_word_72, ey_ok, nx_iload_0] <;> rfl
theorem qL_word_74 : ey F ini rt fin K0 K (decode cL_word 74) 74 L (st) h cs ss = (K 75 L (.int 3 :: st) h cs ss) := by
  rw [dL_word_74, ey_ok, nx_iconst_11] <;> rfl
theorem qL_word_75 : ey F ini rt fin K0 K (decode cL_word 75) 75 L (.int y :: .int x :: r) h cs ss = (if ¬ x = y then K 83 L r h cs ss else K 78 L r h cs ss) := by
  rw [dL_word_75, ey_ok, nx_if_icmp_37]
  exact and_l (by unfold jok; decide)
theorem qL_word_78 : ey F ini rt fin K0 K (decode cL_word 78) 78 L (st) h cs ss = (K 80 L (.int 100 :: st) h cs ss) := by
  rw [dL_word_78, ey_ok, nx_bipush_12] <;> rfl
theorem qL_word_80 : ey F ini rt fin K0 K (decode cL_word 80) 80 L (st) h cs ss = (K 96 L st h cs ss) := by
  rw [dL_word_80, ey_ok, nx_goto_29]
  exact and_l (by unfold jok; decide)
theorem qL_word_83 : ey F ini rt fin K0 K (decode cL_word 83) 83 L (st) h cs ss = (lhas L 4 ∧ isI (lgt L 4) ∧ K 85 L (lgt L 4 :: st) h cs ss) := by
  rw [dL_word_83, ey_ok, nx_iload_0] <;> rfl
theorem qL_word_85 : ey F ini rt fin K0 K (decode cL_word 85) 85 L (st) h cs ss = (K 86 L (.int 2 :: st) h cs ss) := by
  rw [dL_word_85, ey_ok, nx_iconst_11] <;> rfl
theorem qL_word_86 : ey F ini rt fin K0 K (decode cL_word 86) 86 L (.int y :: .int x :: r) h cs ss = (if ¬ x = y then K 94 L r h cs ss else K 89 L r h cs ss) := by
  rw [dL_word_86, ey_ok, nx_if_icmp_37]
  exact and_l (by unfold jok; decide)
theorem qL_word_89 : ey F ini rt fin K0 K (decode cL_word 89) 89 L (st) h cs ss = (K 91 L (.int 10 :: st) h cs ss) := by
  rw [dL_word_89, ey_ok, nx_bipush_12] <;> rfl
theorem qL_word_91 : ey F ini rt fin K0 K (decode cL_word 91) 91 L (st) h cs ss = (K 96 L st h cs ss) := by
  rw [dL_word_91, ey_ok, nx_goto_29]
  exact and_l (by unfold jok; decide)
theorem qL_word_94 : ey F ini rt fin K0 K (decode cL_word 94) 94 L (st) h cs ss = (lhas L 4 ∧ isI (lgt L 4) ∧ K 96 L (lgt L 4 :: st) h cs ss) := by
  rw [dL_word_94, ey_ok, nx_iload_0] <;> rfl
theorem qL_word_96 : ey F ini rt fin K0 K (decode cL_word 96) 96 L (.int x :: r) h cs ss = (7 < L.length ∧ K 98 (L.set 7 (some (.int x))) r h cs ss) := by
  rw [dL_word_96, ey_ok, nx_istore_4] <;> rfl
theorem qL_word_98 : ey F ini rt fin K0 K (decode cL_word 98) 98 L (st) h cs ss = (lhas L 7 ∧ isI (lgt L 7) ∧ K 100 L (lgt L 7 :: st) h cs ss) := by
  rw [dL_word_98, ey_ok, nx_iload_0] <;> rfl
theorem qL_word_100 : ey F ini rt fin K0 K (decode cL_word 100) 100 L (.int x :: r) h cs ss = (if x ≤ 0 then K 147 L r h cs ss else K 103 L r h cs ss) := by
  rw [dL_word_100, ey_ok, nx_ifond_35]
  exact and_l (by unfold jok; decide)
theorem qL_word_103 : ey F ini rt fin K0 K (decode cL_word 103) 103 L (st) h cs ss = (lhas L 5 ∧ isI (lgt L 5) ∧ K 106 (L.set 5 (some (inc (lgt L 5) 1))) st h cs ss) := by
  rw [dL_word_103, ey_ok, nx_iinc_10] <;> rfl
theorem qL_word_106 : ey F ini rt fin K0 K (decode cL_word 106) 106 L (st) h cs ss = (lhas L 6 ∧ isI (lgt L 6) ∧ K 108 L (lgt L 6 :: st) h cs ss) := by
  rw [dL_word_106, ey_ok, nx_iload_0] <;> rfl
theorem qL_word_108 : ey F ini rt fin K0 K (decode cL_word 108) 108 L (.int x :: r) h cs ss = (if x = 0 then K 134 L r h cs ss else K 111 L r h cs ss) := by
  rw [dL_word_108, ey_ok, nx_ifond_30]
  exact and_l (by unfold jok; decide)
theorem qL_word_111 : ey F ini rt fin K0 K (decode cL_word 111) 111 L (st) h cs ss = (lhas L 0 ∧ isRf (lgt L 0) ∧ K 112 L (lgt L 0 :: st) h cs ss) := by
  rw [dL_word_111, ey_ok, nx_aload_n_3] <;> rfl
theorem qL_word_112 : ey F ini rt fin K0 K (decode cL_word 112) 112 L (st) h cs ss = (K 114 L (.int 48 :: st) h cs ss) := by
  rw [dL_word_112, ey_ok, nx_bipush_12] <;> rfl
theorem qL_word_114 : ey F ini rt fin K0 K (decode cL_word 114) 114 L (st) h cs ss = (lhas L 3 ∧ isI (lgt L 3) ∧ K 115 L (lgt L 3 :: st) h cs ss) := by
  rw [dL_word_114, ey_ok, nx_iload_n_1] <;> rfl
theorem qL_word_115 : ey F ini rt fin K0 K (decode cL_word 115) 115 L (st) h cs ss = (lhas L 7 ∧ isI (lgt L 7) ∧ K 117 L (lgt L 7 :: st) h cs ss) := by
  rw [dL_word_115, ey_ok, nx_iload_0] <;> rfl
theorem qL_word_117 : ey F ini rt fin K0 K (decode cL_word 117) 117 L (.int y :: .int x :: r) h cs ss = (¬ y = 0 ∧ K 118 L (.int (x / y) :: r) h cs ss) := by
  rw [dL_word_117, ey_ok, nx_idiv_23]
theorem qL_word_118 : ey F ini rt fin K0 K (decode cL_word 118) 118 L (st) h cs ss = (K 120 L (.int 10 :: st) h cs ss) := by
  rw [dL_word_118, ey_ok, nx_bipush_12] <;> rfl
theorem qL_word_120 : ey F ini rt fin K0 K (decode cL_word 120) 120 L (.int y :: .int x :: r) h cs ss = (¬ y = 0 ∧ K 121 L (.int (x - x / y * y) :: r) h cs ss) := by
  rw [dL_word_120, ey_ok, nx_irem_81]
theorem qL_word_121 : ey F ini rt fin K0 K (decode cL_word 121) 121 L (.int y :: .int x :: r) h cs ss = (K 122 L (.int (x + y) :: r) h cs ss) := by
  rw [dL_word_121, ey_ok, nx_iadd_16]
theorem qL_word_122 : ey F ini rt fin K0 K (decode cL_word 122) 122 L (st) h cs ss = (K0 122 L st h cs ss) := by
  rw [dL_word_122, ey_ok, nx_invokestatic_73]
theorem qL_word_125 : ey F ini rt fin K0 K (decode cL_word 125) 125 L (st) h cs ss = (lhas L 5 ∧ isI (lgt L 5) ∧ K 127 L (lgt L 5 :: st) h cs ss) := by
  rw [dL_word_125, ey_ok, nx_iload_0] <;> rfl
theorem qL_word_127 : ey F ini rt fin K0 K (decode cL_word 127) 127 L (.int y :: .int x :: r) h cs ss = (if ¬ x = y then K 134 L r h cs ss else K 130 L r h cs ss) := by
  rw [dL_word_127, ey_ok, nx_if_icmp_37]
  exact and_l (by unfold jok; decide)
theorem qL_word_130 : ey F ini rt fin K0 K (decode cL_word 130) 130 L (st) h cs ss = (K 131 L (.int 1 :: st) h cs ss) := by
  rw [dL_word_130, ey_ok, nx_iconst_11] <;> rfl
theorem qL_word_131 : ey F ini rt fin K0 K (decode cL_word 131) 131 L (st) h cs ss = (K 135 L st h cs ss) := by
  rw [dL_word_131, ey_ok, nx_goto_29]
  exact and_l (by unfold jok; decide)
theorem qL_word_134 : ey F ini rt fin K0 K (decode cL_word 134) 134 L (st) h cs ss = (K 135 L (.int 0 :: st) h cs ss) := by
  rw [dL_word_134, ey_ok, nx_iconst_11] <;> rfl
theorem qL_word_135 : ey F ini rt fin K0 K (decode cL_word 135) 135 L (.int x :: r) h cs ss = (6 < L.length ∧ K 137 (L.set 6 (some (.int x))) r h cs ss) := by
  rw [dL_word_135, ey_ok, nx_istore_4] <;> rfl
theorem qL_word_137 : ey F ini rt fin K0 K (decode cL_word 137) 137 L (st) h cs ss = (lhas L 7 ∧ isI (lgt L 7) ∧ K 139 L (lgt L 7 :: st) h cs ss) := by
  rw [dL_word_137, ey_ok, nx_iload_0] <;> rfl
theorem qL_word_139 : ey F ini rt fin K0 K (decode cL_word 139) 139 L (st) h cs ss = (K 141 L (.int 10 :: st) h cs ss) := by
  rw [dL_word_139, ey_ok, nx_bipush_12] <;> rfl
theorem qL_word_141 : ey F ini rt fin K0 K (decode cL_word 141) 141 L (.int y :: .int x :: r) h cs ss = (¬ y = 0 ∧ K 142 L (.int (x / y) :: r) h cs ss) := by
  rw [dL_word_141, ey_ok, nx_idiv_23]
theorem qL_word_142 : ey F ini rt fin K0 K (decode cL_word 142) 142 L (.int x :: r) h cs ss = (7 < L.length ∧ K 144 (L.set 7 (some (.int x))) r h cs ss) := by
  rw [dL_word_142, ey_ok, nx_istore_4] <;> rfl
theorem qL_word_144 : ey F ini rt fin K0 K (decode cL_word 144) 144 L (st) h cs ss = (K 98 L st h cs ss) := by
  rw [dL_word_144, ey_ok, nx_goto_29]
  exact and_l (by unfold jok; decide)
theorem qL_word_147 : ey F ini rt fin K0 K (decode cL_word 147) 147 L (st) h cs ss = (lhas L 6 ∧ isI (lgt L 6) ∧ K 149 L (lgt L 6 :: st) h cs ss) := by
  rw [dL_word_147, ey_ok, nx_iload_0] <;> rfl
theorem qL_word_149 : ey F ini rt fin K0 K (decode cL_word 149) 149 L (.int x :: r) h cs ss = (if x = 0 then K 157 L r h cs ss else K 152 L r h cs ss) := by
  rw [dL_word_149, ey_ok, nx_ifond_30]
  exact and_l (by unfold jok; decide)
theorem qL_word_152 : ey F ini rt fin K0 K (decode cL_word 152) 152 L (st) h cs ss = (lhas L 5 ∧ isI (lgt L 5) ∧ K 154 L (lgt L 5 :: st) h cs ss) := by
  rw [dL_word_152, ey_ok, nx_iload_0] <;> rfl
theorem qL_word_154 : ey F ini rt fin K0 K (decode cL_word 154) 154 L (st) h cs ss = (K 158 L st h cs ss) := by
  rw [dL_word_154, ey_ok, nx_goto_29]
  exact and_l (by unfold jok; decide)
theorem qL_word_157 : ey F ini rt fin K0 K (decode cL_word 157) 157 L (st) h cs ss = (K 158 L (.int (-1) :: st) h cs ss) := by
  rw [dL_word_157, ey_ok, nx_iconst_11] <;> rfl
theorem qL_word_158 : ey F ini rt fin K0 K (decode cL_word 158) 158 L ([.int x]) h cs ss = (rokI rt x ∧ fin (some (.int x)) h cs ss) := by
  rw [dL_word_158, ey_ok, nx_ireturn_68]
theorem qL_texts_0 : ey F ini rt fin K0 K (decode cL_texts 0) 0 L (st) h cs ss = (lhas L 1 ∧ isI (lgt L 1) ∧ K 1 L (lgt L 1 :: st) h cs ss) := by
  rw [dL_texts_0, ey_ok, nx_iload_n_1] <;> rfl
theorem qL_texts_1 : ey F ini rt fin K0 K (decode cL_texts 1) 1 L (st) h cs ss = (K 2 L (.int 4 :: st) h cs ss) := by
  rw [dL_texts_1, ey_ok, nx_iconst_11] <;> rfl
theorem qL_texts_2 : ey F ini rt fin K0 K (decode cL_texts 2) 2 L (st) h cs ss = (K0 2 L st h cs ss) := by
  rw [dL_texts_2, ey_ok, nx_invokestatic_73]
theorem qL_texts_5 : ey F ini rt fin K0 K (decode cL_texts 5) 5 L (.int x :: r) h cs ss = (7 < L.length ∧ K 7 (L.set 7 (some (.int x))) r h cs ss) := by
  rw [dL_texts_5, ey_ok, nx_istore_4] <;> rfl
theorem qL_texts_7 : ey F ini rt fin K0 K (decode cL_texts 7) 7 L (st) h cs ss = (lhas L 7 ∧ isI (lgt L 7) ∧ K 9 L (lgt L 7 :: st) h cs ss) := by
  rw [dL_texts_7, ey_ok, nx_iload_0] <;> rfl
theorem qL_texts_9 : ey F ini rt fin K0 K (decode cL_texts 9) 9 L (st) h cs ss = (K 10 L (.int 2 :: st) h cs ss) := by
  rw [dL_texts_9, ey_ok, nx_iconst_11] <;> rfl
theorem qL_texts_10 : ey F ini rt fin K0 K (decode cL_texts 10) 10 L (.int y :: .int x :: r) h cs ss = (if ¬ x = y then K 25 L r h cs ss else K 13 L r h cs ss) := by
  rw [dL_texts_10, ey_ok, nx_if_icmp_37]
  exact and_l (by unfold jok; decide)
theorem qL_texts_13 : ey F ini rt fin K0 K (decode cL_texts 13) 13 L (st) h cs ss = (K 14 L (.int 1 :: st) h cs ss) := by
  rw [dL_texts_13, ey_ok, nx_iconst_11] <;> rfl
theorem qL_texts_14 : ey F ini rt fin K0 K (decode cL_texts 14) 14 L (st) h cs ss = (lhas L 1 ∧ isI (lgt L 1) ∧ K 15 L (lgt L 1 :: st) h cs ss) := by
  rw [dL_texts_14, ey_ok, nx_iload_n_1] <;> rfl
theorem qL_texts_15 : ey F ini rt fin K0 K (decode cL_texts 15) 15 L (st) h cs ss = (K 16 L (.int 3 :: st) h cs ss) := by
  rw [dL_texts_15, ey_ok, nx_iconst_11] <;> rfl
theorem qL_texts_16 : ey F ini rt fin K0 K (decode cL_texts 16) 16 L (.int y :: .int x :: r) h cs ss = (K 17 L (.int (x >>> (y &&& 31)) :: r) h cs ss) := by
  rw [dL_texts_16, ey_ok, nx_ishr_21]
theorem qL_texts_17 : ey F ini rt fin K0 K (decode cL_texts 17) 17 L (st) h cs ss = (K 18 L (.int 3 :: st) h cs ss) := by
  rw [dL_texts_17, ey_ok, nx_iconst_11] <;> rfl
theorem qL_texts_18 : ey F ini rt fin K0 K (decode cL_texts 18) 18 L (st) h cs ss = (K0 18 L st h cs ss) := by
  rw [dL_texts_18, ey_ok, nx_invokestatic_73]
theorem qL_texts_21 : ey F ini rt fin K0 K (decode cL_texts 21) 21 L (.int y :: .int x :: r) h cs ss = (K 22 L (.int (x + y) :: r) h cs ss) := by
  rw [dL_texts_21, ey_ok, nx_iadd_16]
theorem qL_texts_22 : ey F ini rt fin K0 K (decode cL_texts 22) 22 L (st) h cs ss = (K 54 L st h cs ss) := by
  rw [dL_texts_22, ey_ok, nx_goto_29]
  exact and_l (by unfold jok; decide)
theorem qL_texts_25 : ey F ini rt fin K0 K (decode cL_texts 25) 25 L (st) h cs ss = (lhas L 7 ∧ isI (lgt L 7) ∧ K 27 L (lgt L 7 :: st) h cs ss) := by
  rw [dL_texts_25, ey_ok, nx_iload_0] <;> rfl
theorem qL_texts_27 : ey F ini rt fin K0 K (decode cL_texts 27) 27 L (st) h cs ss = (K 28 L (.int 1 :: st) h cs ss) := by
  rw [dL_texts_27, ey_ok, nx_iconst_11] <;> rfl
theorem qL_texts_28 : ey F ini rt fin K0 K (decode cL_texts 28) 28 L (.int y :: .int x :: r) h cs ss = (if ¬ x = y then K 44 L r h cs ss else K 31 L r h cs ss) := by
  rw [dL_texts_28, ey_ok, nx_if_icmp_37]
  exact and_l (by unfold jok; decide)
theorem qL_texts_31 : ey F ini rt fin K0 K (decode cL_texts 31) 31 L (st) h cs ss = (K 32 L (.int 5 :: st) h cs ss) := by
  rw [dL_texts_31, ey_ok, nx_iconst_11] <;> rfl
theorem qL_texts_32 : ey F ini rt fin K0 K (decode cL_texts 32) 32 L (st) h cs ss = (lhas L 1 ∧ isI (lgt L 1) ∧ K 33 L (lgt L 1 :: st) h cs ss) := by
  rw [dL_texts_32, ey_ok, nx_iload_n_1] <;> rfl
theorem qL_texts_33 : ey F ini rt fin K0 K (decode cL_texts 33) 33 L (st) h cs ss = (K 34 L (.int 3 :: st) h cs ss) := by
  rw [dL_texts_33, ey_ok, nx_iconst_11] <;> rfl
theorem qL_texts_34 : ey F ini rt fin K0 K (decode cL_texts 34) 34 L (.int y :: .int x :: r) h cs ss = (K 35 L (.int (x >>> (y &&& 31)) :: r) h cs ss) := by
  rw [dL_texts_34, ey_ok, nx_ishr_21]
theorem qL_texts_35 : ey F ini rt fin K0 K (decode cL_texts 35) 35 L (st) h cs ss = (K 37 L (.int 40 :: st) h cs ss) := by
  rw [dL_texts_35, ey_ok, nx_bipush_12] <;> rfl
theorem qL_texts_37 : ey F ini rt fin K0 K (decode cL_texts 37) 37 L (st) h cs ss = (K0 37 L st h cs ss) := by
  rw [dL_texts_37, ey_ok, nx_invokestatic_73]
theorem qL_texts_40 : ey F ini rt fin K0 K (decode cL_texts 40) 40 L (.int y :: .int x :: r) h cs ss = (K 41 L (.int (x + y) :: r) h cs ss) := by
  rw [dL_texts_40, ey_ok, nx_iadd_16]
theorem qL_texts_41 : ey F ini rt fin K0 K (decode cL_texts 41) 41 L (st) h cs ss = (K 54 L st h cs ss) := by
  rw [dL_texts_41, ey_ok, nx_goto_29]
  exact and_l (by unfold jok; decide)
theorem qL_texts_44 : ey F ini rt fin K0 K (decode cL_texts 44) 44 L (st) h cs ss = (K 45 L (.int 1 :: st) h cs ss) := by
  rw [dL_texts_44, ey_ok, nx_iconst_11] <;> rfl
theorem qL_texts_45 : ey F ini rt fin K0 K (decode cL_texts 45) 45 L (st) h cs ss = (lhas L 1 ∧ isI (lgt L 1) ∧ K 46 L (lgt L 1 :: st) h cs ss) := by
  rw [dL_texts_45, ey_ok, nx_iload_n_1] <;> rfl
theorem qL_texts_46 : ey F ini rt fin K0 K (decode cL_texts 46) 46 L (st) h cs ss = (K 47 L (.int 3 :: st) h cs ss) := by
  rw [dL_texts_46, ey_ok, nx_iconst_11] <;> rfl
theorem qL_texts_47 : ey F ini rt fin K0 K (decode cL_texts 47) 47 L (.int y :: .int x :: r) h cs ss = (K 48 L (.int (x >>> (y &&& 31)) :: r) h cs ss) := by
  rw [dL_texts_47, ey_ok, nx_ishr_21]
theorem qL_texts_48 : ey F ini rt fin K0 K (decode cL_texts 48) 48 L (st) h cs ss = (K 50 L (.int 20 :: st) h cs ss) := by
  rw [dL_texts_48, ey_ok, nx_bipush_12] <;> rfl
theorem qL_texts_50 : ey F ini rt fin K0 K (decode cL_texts 50) 50 L (st) h cs ss = (K0 50 L st h cs ss) := by
  rw [dL_texts_50, ey_ok, nx_invokestatic_73]
theorem qL_texts_53 : ey F ini rt fin K0 K (decode cL_texts 53) 53 L (.int y :: .int x :: r) h cs ss = (K 54 L (.int (x + y) :: r) h cs ss) := by
  rw [dL_texts_53, ey_ok, nx_iadd_16]
theorem qL_texts_54 : ey F ini rt fin K0 K (decode cL_texts 54) 54 L (.int x :: r) h cs ss = (8 < L.length ∧ K 56 (L.set 8 (some (.int x))) r h cs ss) := by
  rw [dL_texts_54, ey_ok, nx_istore_4] <;> rfl
theorem qL_texts_56 : ey F ini rt fin K0 K (decode cL_texts 56) 56 L (st) h cs ss = (lhas L 1 ∧ isI (lgt L 1) ∧ K 57 L (lgt L 1 :: st) h cs ss) := by
  rw [dL_texts_56, ey_ok, nx_iload_n_1] <;> rfl
theorem qL_texts_57 : ey F ini rt fin K0 K (decode cL_texts 57) 57 L (st) h cs ss = (K 58 L (.int 5 :: st) h cs ss) := by
  rw [dL_texts_57, ey_ok, nx_iconst_11] <;> rfl
theorem qL_texts_58 : ey F ini rt fin K0 K (decode cL_texts 58) 58 L (.int y :: .int x :: r) h cs ss = (K 59 L (.int (x >>> (y &&& 31)) :: r) h cs ss) := by
  rw [dL_texts_58, ey_ok, nx_ishr_21]
theorem qL_texts_59 : ey F ini rt fin K0 K (decode cL_texts 59) 59 L (st) h cs ss = (K 60 L (.int 3 :: st) h cs ss) := by
  rw [dL_texts_59, ey_ok, nx_iconst_11] <;> rfl
theorem qL_texts_60 : ey F ini rt fin K0 K (decode cL_texts 60) 60 L (st) h cs ss = (K0 60 L st h cs ss) := by
  rw [dL_texts_60, ey_ok, nx_invokestatic_73]
theorem qL_texts_63 : ey F ini rt fin K0 K (decode cL_texts 63) 63 L (.int x :: r) h cs ss = (if ¬ x = 0 then K 77 L r h cs ss else K 66 L r h cs ss) := by
  rw [dL_texts_63, ey_ok, nx_ifond_31]
  exact and_l (by unfold jok; decide)
theorem qL_texts_66 : ey F ini rt fin K0 K (decode cL_texts 66) 66 L (st) h cs ss = (lhas L 1 ∧ isI (lgt L 1) ∧ K 67 L (lgt L 1 :: st) h cs ss) := by
  rw [dL_texts_66, ey_ok, nx_iload_n_1] <;> rfl
theorem qL_texts_67 : ey F ini rt fin K0 K (decode cL_texts 67) 67 L (st) h cs ss = (K 69 L (.int 6 :: st) h cs ss) := by
  rw [dL_texts_67, ey_ok, nx_bipush_12] <;> rfl
theorem qL_texts_69 : ey F ini rt fin K0 K (decode cL_texts 69) 69 L (.int y :: .int x :: r) h cs ss = (K 70 L (.int (x >>> (y &&& 31)) :: r) h cs ss) := by
  rw [dL_texts_69, ey_ok, nx_ishr_21]
theorem qL_texts_70 : ey F ini rt fin K0 K (decode cL_texts 70) 70 L (st) h cs ss = (K 71 L (.int 4 :: st) h cs ss) := by
  rw [dL_texts_70, ey_ok, nx_iconst_11] <;> rfl
theorem qL_texts_71 : ey F ini rt fin K0 K (decode cL_texts 71) 71 L (st) h cs ss = (K0 71 L st h cs ss) := by
  rw [dL_texts_71, ey_ok, nx_invokestatic_73]
theorem qL_texts_74 : ey F ini rt fin K0 K (decode cL_texts 74) 74 L (st) h cs ss = (K 78 L st h cs ss) := by
  rw [dL_texts_74, ey_ok, nx_goto_29]
  exact and_l (by unfold jok; decide)
theorem qL_texts_77 : ey F ini rt fin K0 K (decode cL_texts 77) 77 L (st) h cs ss = (K 78 L (.int (-1) :: st) h cs ss) := by
  rw [dL_texts_77, ey_ok, nx_iconst_11] <;> rfl
theorem qL_texts_78 : ey F ini rt fin K0 K (decode cL_texts 78) 78 L (.int x :: r) h cs ss = (9 < L.length ∧ K 80 (L.set 9 (some (.int x))) r h cs ss) := by
  rw [dL_texts_78, ey_ok, nx_istore_4] <;> rfl
theorem qL_texts_80 : ey F ini rt fin K0 K (decode cL_texts 80) 80 L (st) h cs ss = (lhas L 1 ∧ isI (lgt L 1) ∧ K 81 L (lgt L 1 :: st) h cs ss) := by
  rw [dL_texts_80, ey_ok, nx_iload_n_1] <;> rfl
theorem qL_texts_81 : ey F ini rt fin K0 K (decode cL_texts 81) 81 L (st) h cs ss = (K 82 L (.int 4 :: st) h cs ss) := by
  rw [dL_texts_81, ey_ok, nx_iconst_11] <;> rfl
theorem qL_texts_82 : ey F ini rt fin K0 K (decode cL_texts 82) 82 L (.int y :: .int x :: r) h cs ss = (K 83 L (.int (x >>> (y &&& 31)) :: r) h cs ss) := by
  rw [dL_texts_82, ey_ok, nx_ishr_21]
theorem qL_texts_83 : ey F ini rt fin K0 K (decode cL_texts 83) 83 L (st) h cs ss = (K 86 L (.int 201 :: st) h cs ss) := by
  rw [dL_texts_83, ey_ok, nx_sipush_13] <;> rfl
theorem qL_texts_86 : ey F ini rt fin K0 K (decode cL_texts 86) 86 L (st) h cs ss = (K0 86 L st h cs ss) := by
  rw [dL_texts_86, ey_ok, nx_invokestatic_73]
theorem qL_texts_89 : ey F ini rt fin K0 K (decode cL_texts 89) 89 L (.int x :: r) h cs ss = (10 < L.length ∧ K 91 (L.set 10 (some (.int x))) r h cs ss) := by
  rw [dL_texts_89, ey_ok, nx_istore_4] <;> rfl
theorem qL_texts_91 : ey F ini rt fin K0 K (decode cL_texts 91) 91 L (st) h cs ss = (lhas L 1 ∧ isI (lgt L 1) ∧ K 92 L (lgt L 1 :: st) h cs ss) := by
  rw [dL_texts_91, ey_ok, nx_iload_n_1] <;> rfl
theorem qL_texts_92 : ey F ini rt fin K0 K (decode cL_texts 92) 92 L (st) h cs ss = (K 94 L (.int 7 :: st) h cs ss) := by
  rw [dL_texts_92, ey_ok, nx_bipush_12] <;> rfl
theorem qL_texts_94 : ey F ini rt fin K0 K (decode cL_texts 94) 94 L (.int y :: .int x :: r) h cs ss = (K 95 L (.int (x >>> (y &&& 31)) :: r) h cs ss) := by
  rw [dL_texts_94, ey_ok, nx_ishr_21]
theorem qL_texts_95 : ey F ini rt fin K0 K (decode cL_texts 95) 95 L (st) h cs ss = (K 96 L (.int 3 :: st) h cs ss) := by
  rw [dL_texts_95, ey_ok, nx_iconst_11] <;> rfl
theorem qL_texts_96 : ey F ini rt fin K0 K (decode cL_texts 96) 96 L (st) h cs ss = (K0 96 L st h cs ss) := by
  rw [dL_texts_96, ey_ok, nx_invokestatic_73]
theorem qL_texts_99 : ey F ini rt fin K0 K (decode cL_texts 99) 99 L (.int x :: r) h cs ss = (if x ≤ 0 then K 106 L r h cs ss else K 102 L r h cs ss) := by
  rw [dL_texts_99, ey_ok, nx_ifond_35]
  exact and_l (by unfold jok; decide)
theorem qL_texts_102 : ey F ini rt fin K0 K (decode cL_texts 102) 102 L (st) h cs ss = (K 103 L (.int 0 :: st) h cs ss) := by
  rw [dL_texts_102, ey_ok, nx_iconst_11] <;> rfl
theorem qL_texts_103 : ey F ini rt fin K0 K (decode cL_texts 103) 103 L (st) h cs ss = (K 117 L st h cs ss) := by
  rw [dL_texts_103, ey_ok, nx_goto_29]
  exact and_l (by unfold jok; decide)
theorem qL_texts_106 : ey F ini rt fin K0 K (decode cL_texts 106) 106 L (st) h cs ss = (K 107 L (.int 1 :: st) h cs ss) := by
  rw [dL_texts_106, ey_ok, nx_iconst_11] <;> rfl
theorem qL_texts_107 : ey F ini rt fin K0 K (decode cL_texts 107) 107 L (st) h cs ss = (lhas L 1 ∧ isI (lgt L 1) ∧ K 108 L (lgt L 1 :: st) h cs ss) := by
  rw [dL_texts_107, ey_ok, nx_iload_n_1] <;> rfl
theorem qL_texts_108 : ey F ini rt fin K0 K (decode cL_texts 108) 108 L (st) h cs ss = (K 110 L (.int 8 :: st) h cs ss) := by
  rw [dL_texts_108, ey_ok, nx_bipush_12] <;> rfl
theorem qL_texts_110 : ey F ini rt fin K0 K (decode cL_texts 110) 110 L (.int y :: .int x :: r) h cs ss = (K 111 L (.int (x >>> (y &&& 31)) :: r) h cs ss) := by
  rw [dL_texts_110, ey_ok, nx_ishr_21]
theorem qL_texts_111 : ey F ini rt fin K0 K (decode cL_texts 111) 111 L (st) h cs ss = (K 113 L (.int 6 :: st) h cs ss) := by
  rw [dL_texts_111, ey_ok, nx_bipush_12] <;> rfl
theorem qL_texts_113 : ey F ini rt fin K0 K (decode cL_texts 113) 113 L (st) h cs ss = (K0 113 L st h cs ss) := by
  rw [dL_texts_113, ey_ok, nx_invokestatic_73]
theorem qL_texts_116 : ey F ini rt fin K0 K (decode cL_texts 116) 116 L (.int y :: .int x :: r) h cs ss = (K 117 L (.int (x + y) :: r) h cs ss) := by
  rw [dL_texts_116, ey_ok, nx_iadd_16]
theorem qL_texts_117 : ey F ini rt fin K0 K (decode cL_texts 117) 117 L (.int x :: r) h cs ss = (11 < L.length ∧ K 119 (L.set 11 (some (.int x))) r h cs ss) := by
  rw [dL_texts_117, ey_ok, nx_istore_4] <;> rfl
theorem qL_texts_119 : ey F ini rt fin K0 K (decode cL_texts 119) 119 L (st) h cs ss = (K 120 L (.int (-1) :: st) h cs ss) := by
  rw [dL_texts_119, ey_ok, nx_iconst_11] <;> rfl
theorem qL_texts_120 : ey F ini rt fin K0 K (decode cL_texts 120) 120 L (.int x :: r) h cs ss = (12 < L.length ∧ K 122 (L.set 12 (some (.int x))) r h cs ss) := by
  rw [dL_texts_120, ey_ok, nx_istore_4] <;> rfl
theorem qL_texts_122 : ey F ini rt fin K0 K (decode cL_texts 122) 122 L (st) h cs ss = (lhas L 0 ∧ isRf (lgt L 0) ∧ K 123 L (lgt L 0 :: st) h cs ss) := by
  rw [dL_texts_122, ey_ok, nx_aload_n_3] <;> rfl
theorem qL_texts_123 : ey F ini rt fin K0 K (decode cL_texts 123) 123 L (st) h cs ss = (K 124 L (.int 0 :: st) h cs ss) := by
  rw [dL_texts_123, ey_ok, nx_iconst_11] <;> rfl
theorem qL_texts_124 : ey F ini rt fin K0 K (decode cL_texts 124) 124 L (st) h cs ss = (lhas L 11 ∧ isI (lgt L 11) ∧ K 126 L (lgt L 11 :: st) h cs ss) := by
  rw [dL_texts_124, ey_ok, nx_iload_0] <;> rfl
theorem qL_texts_126 : ey F ini rt fin K0 K (decode cL_texts 126) 126 L (st) h cs ss = (K 127 L (.int 1 :: st) h cs ss) := by
  rw [dL_texts_126, ey_ok, nx_iconst_11] <;> rfl
theorem qL_texts_127 : ey F ini rt fin K0 K (decode cL_texts 127) 127 L (.int y :: .int x :: r) h cs ss = (if ¬ x = y then K 134 L r h cs ss else K 130 L r h cs ss) := by
  rw [dL_texts_127, ey_ok, nx_if_icmp_37]
  exact and_l (by unfold jok; decide)
theorem qL_texts_130 : ey F ini rt fin K0 K (decode cL_texts 130) 130 L (st) h cs ss = (K 131 L (.int 5 :: st) h cs ss) := by
  rw [dL_texts_130, ey_ok, nx_iconst_11] <;> rfl
theorem qL_texts_131 : ey F ini rt fin K0 K (decode cL_texts 131) 131 L (st) h cs ss = (K 136 L st h cs ss) := by
  rw [dL_texts_131, ey_ok, nx_goto_29]
  exact and_l (by unfold jok; decide)
theorem qL_texts_134 : ey F ini rt fin K0 K (decode cL_texts 134) 134 L (st) h cs ss = (lhas L 7 ∧ isI (lgt L 7) ∧ K 136 L (lgt L 7 :: st) h cs ss) := by
  rw [dL_texts_134, ey_ok, nx_iload_0] <;> rfl
theorem qL_texts_136 : ey F ini rt fin K0 K (decode cL_texts 136) 136 L (st) h cs ss = (K0 136 L st h cs ss) := by
  rw [dL_texts_136, ey_ok, nx_invokestatic_73]
theorem qL_texts_139 : ey F ini rt fin K0 K (decode cL_texts 139) 139 L (st) h cs ss = (K 140 L (.int 0 :: st) h cs ss) := by
  rw [dL_texts_139, ey_ok, nx_iconst_11] <;> rfl
theorem qL_texts_140 : ey F ini rt fin K0 K (decode cL_texts 140) 140 L (st) h cs ss = (K 141 L (.int 0 :: st) h cs ss) := by
  rw [dL_texts_140, ey_ok, nx_iconst_11] <;> rfl
theorem qL_texts_141 : ey F ini rt fin K0 K (decode cL_texts 141) 141 L (st) h cs ss = (K0 141 L st h cs ss) := by
  rw [dL_texts_141, ey_ok, nx_invokestatic_73]
theorem qL_texts_144 : ey F ini rt fin K0 K (decode cL_texts 144) 144 L (.int x :: r) h cs ss = (13 < L.length ∧ K 146 (L.set 13 (some (.int x))) r h cs ss) := by
  rw [dL_texts_144, ey_ok, nx_istore_4] <;> rfl
theorem qL_texts_146 : ey F ini rt fin K0 K (decode cL_texts 146) 146 L (st) h cs ss = (lhas L 11 ∧ isI (lgt L 11) ∧ K 148 L (lgt L 11 :: st) h cs ss) := by
  rw [dL_texts_146, ey_ok, nx_iload_0] <;> rfl
theorem qL_texts_148 : ey F ini rt fin K0 K (decode cL_texts 148) 148 L (st) h cs ss = (K 149 L (.int 1 :: st) h cs ss) := by
  rw [dL_texts_148, ey_ok, nx_iconst_11] <;> rfl
theorem qL_texts_149 : ey F ini rt fin K0 K (decode cL_texts 149) 149 L (.int y :: .int x :: r) h cs ss = (if ¬ x = y then K 156 L r h cs ss else K 152 L r h cs ss) := by
  rw [dL_texts_149, ey_ok, nx_if_icmp_37]
  exact and_l (by unfold jok; decide)
theorem qL_texts_152 : ey F ini rt fin K0 K (decode cL_texts 152) 152 L (st) h cs ss = (K 153 L (.int 1 :: st) h cs ss) := by
  rw [dL_texts_152, ey_ok, nx_iconst_11] <;> rfl
theorem qL_texts_153 : ey F ini rt fin K0 K (decode cL_texts 153) 153 L (st) h cs ss = (K 157 L st h cs ss) := by
  rw [dL_texts_153, ey_ok, nx_goto_29]
  exact and_l (by unfold jok; decide)
theorem qL_texts_156 : ey F ini rt fin K0 K (decode cL_texts 156) 156 L (st) h cs ss = (K 157 L (.int (-1) :: st) h cs ss) := by
  rw [dL_texts_156, ey_ok, nx_iconst_11] <;> rfl
theorem qL_texts_157 : ey F ini rt fin K0 K (decode cL_texts 157) 157 L (.int x :: r) h cs ss = (12 < L.length ∧ K 159 (L.set 12 (some (.int x))) r h cs ss) := by
  rw [dL_texts_157, ey_ok, nx_istore_4] <;> rfl
theorem qL_texts_159 : ey F ini rt fin K0 K (decode cL_texts 159) 159 L (st) h cs ss = (lhas L 11 ∧ isI (lgt L 11) ∧ K 161 L (lgt L 11 :: st) h cs ss) := by
  rw [dL_texts_159, ey_ok, nx_iload_0] <;> rfl
theorem qL_texts_161 : ey F ini rt fin K0 K (decode cL_texts 161) 161 L (st) h cs ss = (K 162 L (.int 2 :: st) h cs ss) := by
  rw [dL_texts_161, ey_ok, nx_iconst_11] <;> rfl
theorem qL_texts_162 : ey F ini rt fin K0 K (decode cL_texts 162) 162 L (.int y :: .int x :: r) h cs ss = (if ¬ x = y then K 172 L r h cs ss else K 165 L r h cs ss) := by
  rw [dL_texts_162, ey_ok, nx_if_icmp_37]
  exact and_l (by unfold jok; decide)
theorem qL_texts_165 : ey F ini rt fin K0 K (decode cL_texts 165) 165 L (st) h cs ss = (lhas L 13 ∧ isI (lgt L 13) ∧ K 167 L (lgt L 13 :: st) h cs ss) := by
  rw [dL_texts_165, ey_ok, nx_iload_0] <;> rfl
theorem qL_texts_167 : ey F ini rt fin K0 K (decode cL_texts 167) 167 L (st) h cs ss = (K 168 L (.int 1 :: st) h cs ss) := by
  rw [dL_texts_167, ey_ok, nx_iconst_11] <;> rfl
theorem qL_texts_168 : ey F ini rt fin K0 K (decode cL_texts 168) 168 L (.int y :: .int x :: r) h cs ss = (K 169 L (.int (x + y) :: r) h cs ss) := by
  rw [dL_texts_168, ey_ok, nx_iadd_16]
theorem qL_texts_169 : ey F ini rt fin K0 K (decode cL_texts 169) 169 L (st) h cs ss = (K 174 L st h cs ss) := by
  rw [dL_texts_169, ey_ok, nx_goto_29]
  exact and_l (by unfold jok; decide)
theorem qL_texts_172 : ey F ini rt fin K0 K (decode cL_texts 172) 172 L (st) h cs ss = (lhas L 12 ∧ isI (lgt L 12) ∧ K 174 L (lgt L 12 :: st) h cs ss) := by
  rw [dL_texts_172, ey_ok, nx_iload_0] <;> rfl
theorem qL_texts_174 : ey F ini rt fin K0 K (decode cL_texts 174) 174 L (.int x :: r) h cs ss = (12 < L.length ∧ K 176 (L.set 12 (some (.int x))) r h cs ss) := by
  rw [dL_texts_174, ey_ok, nx_istore_4] <;> rfl
theorem qL_texts_176 : ey F ini rt fin K0 K (decode cL_texts 176) 176 L (st) h cs ss = (lhas L 0 ∧ isRf (lgt L 0) ∧ K 177 L (lgt L 0 :: st) h cs ss) := by
  rw [dL_texts_176, ey_ok, nx_aload_n_3] <;> rfl
theorem qL_texts_177 : ey F ini rt fin K0 K (decode cL_texts 177) 177 L (st) h cs ss = (lhas L 13 ∧ isI (lgt L 13) ∧ K 179 L (lgt L 13 :: st) h cs ss) := by
  rw [dL_texts_177, ey_ok, nx_iload_0] <;> rfl
theorem qL_texts_179 : ey F ini rt fin K0 K (decode cL_texts 179) 179 L (st) h cs ss = (K 180 L (.int 0 :: st) h cs ss) := by
  rw [dL_texts_179, ey_ok, nx_iconst_11] <;> rfl
theorem qL_texts_180 : ey F ini rt fin K0 K (decode cL_texts 180) 180 L (st) h cs ss = (lhas L 11 ∧ isI (lgt L 11) ∧ K 182 L (lgt L 11 :: st) h cs ss) := by
  rw [dL_texts_180, ey_ok, nx_iload_0] <;> rfl
theorem qL_texts_182 : ey F ini rt fin K0 K (decode cL_texts 182) 182 L (st) h cs ss = (K 183 L (.int 2 :: st) h cs ss) := by
  rw [dL_texts_182, ey_ok, nx_iconst_11] <;> rfl
theorem qL_texts_183 : ey F ini rt fin K0 K (decode cL_texts 183) 183 L (.int y :: .int x :: r) h cs ss = (if ¬ x = y then K 198 L r h cs ss else K 186 L r h cs ss) := by
  rw [dL_texts_183, ey_ok, nx_if_icmp_37]
  exact and_l (by unfold jok; decide)
theorem qL_texts_186 : ey F ini rt fin K0 K (decode cL_texts 186) 186 L (st) h cs ss = (K 189 L (.int 201 :: st) h cs ss) := by
  rw [dL_texts_186, ey_ok, nx_sipush_13] <;> rfl
theorem qL_texts_189 : ey F ini rt fin K0 K (decode cL_texts 189) 189 L (st) h cs ss = (lhas L 1 ∧ isI (lgt L 1) ∧ K 190 L (lgt L 1 :: st) h cs ss) := by
  rw [dL_texts_189, ey_ok, nx_iload_n_1] <;> rfl
theorem qL_texts_190 : ey F ini rt fin K0 K (decode cL_texts 190) 190 L (st) h cs ss = (K 191 L (.int 2 :: st) h cs ss) := by
  rw [dL_texts_190, ey_ok, nx_iconst_11] <;> rfl
theorem qL_texts_191 : ey F ini rt fin K0 K (decode cL_texts 191) 191 L (st) h cs ss = (K0 191 L st h cs ss) := by
  rw [dL_texts_191, ey_ok, nx_invokestatic_73]
theorem qL_texts_194 : ey F ini rt fin K0 K (decode cL_texts 194) 194 L (.int y :: .int x :: r) h cs ss = (K 195 L (.int (x * y) :: r) h cs ss) := by
  rw [dL_texts_194, ey_ok, nx_imul_18]
theorem qL_texts_195 : ey F ini rt fin K0 K (decode cL_texts 195) 195 L (st) h cs ss = (K 200 L st h cs ss) := by
  rw [dL_texts_195, ey_ok, nx_goto_29]
  exact and_l (by unfold jok; decide)
theorem qL_texts_198 : ey F ini rt fin K0 K (decode cL_texts 198) 198 L (st) h cs ss = (lhas L 8 ∧ isI (lgt L 8) ∧ K 200 L (lgt L 8 :: st) h cs ss) := by
  rw [dL_texts_198, ey_ok, nx_iload_0] <;> rfl
theorem qL_texts_200 : ey F ini rt fin K0 K (decode cL_texts 200) 200 L (st) h cs ss = (lhas L 11 ∧ isI (lgt L 11) ∧ K 202 L (lgt L 11 :: st) h cs ss) := by
  rw [dL_texts_200, ey_ok, nx_iload_0] <;> rfl
theorem qL_texts_202 : ey F ini rt fin K0 K (decode cL_texts 202) 202 L (st) h cs ss = (K 203 L (.int 2 :: st) h cs ss) := by
  rw [dL_texts_202, ey_ok, nx_iconst_11] <;> rfl
theorem qL_texts_203 : ey F ini rt fin K0 K (decode cL_texts 203) 203 L (.int y :: .int x :: r) h cs ss = (if ¬ x = y then K 210 L r h cs ss else K 206 L r h cs ss) := by
  rw [dL_texts_203, ey_ok, nx_if_icmp_37]
  exact and_l (by unfold jok; decide)
theorem qL_texts_206 : ey F ini rt fin K0 K (decode cL_texts 206) 206 L (st) h cs ss = (K 207 L (.int 3 :: st) h cs ss) := by
  rw [dL_texts_206, ey_ok, nx_iconst_11] <;> rfl
theorem qL_texts_207 : ey F ini rt fin K0 K (decode cL_texts 207) 207 L (st) h cs ss = (K 242 L st h cs ss) := by
  rw [dL_texts_207, ey_ok, nx_goto_29]
  exact and_l (by unfold jok; decide)
theorem qL_texts_210 : ey F ini rt fin K0 K (decode cL_texts 210) 210 L (st) h cs ss = (lhas L 8 ∧ isI (lgt L 8) ∧ K 212 L (lgt L 8 :: st) h cs ss) := by
  rw [dL_texts_210, ey_ok, nx_iload_0] <;> rfl
theorem qL_texts_212 : ey F ini rt fin K0 K (decode cL_texts 212) 212 L (st) h cs ss = (K 214 L (.int 99 :: st) h cs ss) := by
  rw [dL_texts_212, ey_ok, nx_bipush_12] <;> rfl
theorem qL_texts_214 : ey F ini rt fin K0 K (decode cL_texts 214) 214 L (.int y :: .int x :: r) h cs ss = (if x ≤ y then K 221 L r h cs ss else K 217 L r h cs ss) := by
  rw [dL_texts_214, ey_ok, nx_if_icmp_41]
  exact and_l (by unfold jok; decide)
theorem qL_texts_217 : ey F ini rt fin K0 K (decode cL_texts 217) 217 L (st) h cs ss = (K 218 L (.int 3 :: st) h cs ss) := by
  rw [dL_texts_217, ey_ok, nx_iconst_11] <;> rfl
theorem qL_texts_218 : ey F ini rt fin K0 K (decode cL_texts 218) 218 L (st) h cs ss = (K 242 L st h cs ss) := by
  rw [dL_texts_218, ey_ok, nx_goto_29]
  exact and_l (by unfold jok; decide)
theorem qL_texts_221 : ey F ini rt fin K0 K (decode cL_texts 221) 221 L (st) h cs ss = (lhas L 8 ∧ isI (lgt L 8) ∧ K 223 L (lgt L 8 :: st) h cs ss) := by
  rw [dL_texts_221, ey_ok, nx_iload_0] <;> rfl
theorem qL_texts_223 : ey F ini rt fin K0 K (decode cL_texts 223) 223 L (st) h cs ss = (K 225 L (.int 9 :: st) h cs ss) := by
  rw [dL_texts_223, ey_ok, nx_bipush_12] <;> rfl
theorem qL_texts_225 : ey F ini rt fin K0 K (decode cL_texts 225) 225 L (.int y :: .int x :: r) h cs ss = (if x ≤ y then K 232 L r h cs ss else K 228 L r h cs ss) := by
  rw [dL_texts_225, ey_ok, nx_if_icmp_41]
  exact and_l (by unfold jok; decide)
theorem qL_texts_228 : ey F ini rt fin K0 K (decode cL_texts 228) 228 L (st) h cs ss = (K 229 L (.int 2 :: st) h cs ss) := by
  rw [dL_texts_228, ey_ok, nx_iconst_11] <;> rfl
theorem qL_texts_229 : ey F ini rt fin K0 K (decode cL_texts 229) 229 L (st) h cs ss = (K 242 L st h cs ss) := by
  rw [dL_texts_229, ey_ok, nx_goto_29]
  exact and_l (by unfold jok; decide)
theorem qL_texts_232 : ey F ini rt fin K0 K (decode cL_texts 232) 232 L (st) h cs ss = (K 233 L (.int 1 :: st) h cs ss) := by
  rw [dL_texts_232, ey_ok, nx_iconst_11] <;> rfl
theorem qL_texts_233 : ey F ini rt fin K0 K (decode cL_texts 233) 233 L (st) h cs ss = (lhas L 1 ∧ isI (lgt L 1) ∧ K 234 L (lgt L 1 :: st) h cs ss) := by
  rw [dL_texts_233, ey_ok, nx_iload_n_1] <;> rfl
theorem qL_texts_234 : ey F ini rt fin K0 K (decode cL_texts 234) 234 L (st) h cs ss = (K 236 L (.int 9 :: st) h cs ss) := by
  rw [dL_texts_234, ey_ok, nx_bipush_12] <;> rfl
theorem qL_texts_236 : ey F ini rt fin K0 K (decode cL_texts 236) 236 L (.int y :: .int x :: r) h cs ss = (K 237 L (.int (x >>> (y &&& 31)) :: r) h cs ss) := by
  rw [dL_texts_236, ey_ok, nx_ishr_21]
theorem qL_texts_237 : ey F ini rt fin K0 K (decode cL_texts 237) 237 L (st) h cs ss = (K 238 L (.int 3 :: st) h cs ss) := by
  rw [dL_texts_237, ey_ok, nx_iconst_11] <;> rfl
theorem qL_texts_238 : ey F ini rt fin K0 K (decode cL_texts 238) 238 L (st) h cs ss = (K0 238 L st h cs ss) := by
  rw [dL_texts_238, ey_ok, nx_invokestatic_73]
theorem qL_texts_241 : ey F ini rt fin K0 K (decode cL_texts 241) 241 L (.int y :: .int x :: r) h cs ss = (K 242 L (.int (x + y) :: r) h cs ss) := by
  rw [dL_texts_241, ey_ok, nx_iadd_16]
theorem qL_texts_242 : ey F ini rt fin K0 K (decode cL_texts 242) 242 L (st) h cs ss = (K0 242 L st h cs ss) := by
  rw [dL_texts_242, ey_ok, nx_invokestatic_73]
theorem qL_texts_245 : ey F ini rt fin K0 K (decode cL_texts 245) 245 L (.int x :: r) h cs ss = (13 < L.length ∧ K 247 (L.set 13 (some (.int x))) r h cs ss) := by
  rw [dL_texts_245, ey_ok, nx_istore_4] <;> rfl
theorem qL_texts_247 : ey F ini rt fin K0 K (decode cL_texts 247) 247 L (st) h cs ss = (lhas L 9 ∧ isI (lgt L 9) ∧ K 249 L (lgt L 9 :: st) h cs ss) := by
  rw [dL_texts_247, ey_ok, nx_iload_0] <;> rfl
theorem qL_texts_249 : ey F ini rt fin K0 K (decode cL_texts 249) 249 L (.int x :: r) h cs ss = (if x < 0 then K 310 L r h cs ss else K 252 L r h cs ss) := by
  rw [dL_texts_249, ey_ok, nx_ifond_32]
  exact and_l (by unfold jok; decide)
theorem qL_texts_252 : ey F ini rt fin K0 K (decode cL_texts 252) 252 L (st) h cs ss = (lhas L 0 ∧ isRf (lgt L 0) ∧ K 253 L (lgt L 0 :: st) h cs ss) := by
  rw [dL_texts_252, ey_ok, nx_aload_n_3] <;> rfl
theorem qL_texts_253 : ey F ini rt fin K0 K (decode cL_texts 253) 253 L (st) h cs ss = (lhas L 13 ∧ isI (lgt L 13) ∧ K 255 L (lgt L 13 :: st) h cs ss) := by
  rw [dL_texts_253, ey_ok, nx_iload_0] <;> rfl
theorem qL_texts_255 : ey F ini rt fin K0 K (decode cL_texts 255) 255 L (st) h cs ss = (K 256 L (.int 4 :: st) h cs ss) := by
  rw [dL_texts_255, ey_ok, nx_iconst_11] <;> rfl
theorem qL_texts_256 : ey F ini rt fin K0 K (decode cL_texts 256) 256 L (st) h cs ss = (K0 256 L st h cs ss) := by
  rw [dL_texts_256, ey_ok, nx_invokestatic_73]
theorem qL_texts_259 : ey F ini rt fin K0 K (decode cL_texts 259) 259 L (st) h cs ss = (K 260 L (.int 0 :: st) h cs ss) := by
  rw [dL_texts_259, ey_ok, nx_iconst_11] <;> rfl
theorem qL_texts_260 : ey F ini rt fin K0 K (decode cL_texts 260) 260 L (st) h cs ss = (K 261 L (.int 0 :: st) h cs ss) := by
  rw [dL_texts_260, ey_ok, nx_iconst_11] <;> rfl
theorem qL_texts_261 : ey F ini rt fin K0 K (decode cL_texts 261) 261 L (st) h cs ss = (K0 261 L st h cs ss) := by
  rw [dL_texts_261, ey_ok, nx_invokestatic_73]
theorem qL_texts_264 : ey F ini rt fin K0 K (decode cL_texts 264) 264 L (.int x :: r) h cs ss = (13 < L.length ∧ K 266 (L.set 13 (some (.int x))) r h cs ss) := by
  rw [dL_texts_264, ey_ok, nx_istore_4] <;> rfl
theorem qL_texts_266 : ey F ini rt fin K0 K (decode cL_texts 266) 266 L (st) h cs ss = (lhas L 11 ∧ isI (lgt L 11) ∧ K 268 L (lgt L 11 :: st) h cs ss) := by
  rw [dL_texts_266, ey_ok, nx_iload_0] <;> rfl
theorem qL_texts_268 : ey F ini rt fin K0 K (decode cL_texts 268) 268 L (st) h cs ss = (K 269 L (.int 3 :: st) h cs ss) := by
  rw [dL_texts_268, ey_ok, nx_iconst_11] <;> rfl
theorem qL_texts_269 : ey F ini rt fin K0 K (decode cL_texts 269) 269 L (.int y :: .int x :: r) h cs ss = (if ¬ x = y then K 284 L r h cs ss else K 272 L r h cs ss) := by
  rw [dL_texts_269, ey_ok, nx_if_icmp_37]
  exact and_l (by unfold jok; decide)
theorem qL_texts_272 : ey F ini rt fin K0 K (decode cL_texts 272) 272 L (st) h cs ss = (lhas L 12 ∧ isI (lgt L 12) ∧ K 274 L (lgt L 12 :: st) h cs ss) := by
  rw [dL_texts_272, ey_ok, nx_iload_0] <;> rfl
theorem qL_texts_274 : ey F ini rt fin K0 K (decode cL_texts 274) 274 L (.int x :: r) h cs ss = (if 0 ≤ x then K 284 L r h cs ss else K 277 L r h cs ss) := by
  rw [dL_texts_274, ey_ok, nx_ifond_33]
  exact and_l (by unfold jok; decide)
theorem qL_texts_277 : ey F ini rt fin K0 K (decode cL_texts 277) 277 L (st) h cs ss = (lhas L 13 ∧ isI (lgt L 13) ∧ K 279 L (lgt L 13 :: st) h cs ss) := by
  rw [dL_texts_277, ey_ok, nx_iload_0] <;> rfl
theorem qL_texts_279 : ey F ini rt fin K0 K (decode cL_texts 279) 279 L (st) h cs ss = (K 280 L (.int 1 :: st) h cs ss) := by
  rw [dL_texts_279, ey_ok, nx_iconst_11] <;> rfl
theorem qL_texts_280 : ey F ini rt fin K0 K (decode cL_texts 280) 280 L (.int y :: .int x :: r) h cs ss = (K 281 L (.int (x + y) :: r) h cs ss) := by
  rw [dL_texts_280, ey_ok, nx_iadd_16]
theorem qL_texts_281 : ey F ini rt fin K0 K (decode cL_texts 281) 281 L (st) h cs ss = (K 286 L st h cs ss) := by
  rw [dL_texts_281, ey_ok, nx_goto_29]
  exact and_l (by unfold jok; decide)
theorem qL_texts_284 : ey F ini rt fin K0 K (decode cL_texts 284) 284 L (st) h cs ss = (lhas L 12 ∧ isI (lgt L 12) ∧ K 286 L (lgt L 12 :: st) h cs ss) := by
  rw [dL_texts_284, ey_ok, nx_iload_0] <;> rfl
theorem qL_texts_286 : ey F ini rt fin K0 K (decode cL_texts 286) 286 L (.int x :: r) h cs ss = (12 < L.length ∧ K 288 (L.set 12 (some (.int x))) r h cs ss) := by
  rw [dL_texts_286, ey_ok, nx_istore_4] <;> rfl
theorem qL_texts_288 : ey F ini rt fin K0 K (decode cL_texts 288) 288 L (st) h cs ss = (lhas L 0 ∧ isRf (lgt L 0) ∧ K 289 L (lgt L 0 :: st) h cs ss) := by
  rw [dL_texts_288, ey_ok, nx_aload_n_3] <;> rfl
theorem qL_texts_289 : ey F ini rt fin K0 K (decode cL_texts 289) 289 L (st) h cs ss = (lhas L 13 ∧ isI (lgt L 13) ∧ K 291 L (lgt L 13 :: st) h cs ss) := by
  rw [dL_texts_289, ey_ok, nx_iload_0] <;> rfl
theorem qL_texts_291 : ey F ini rt fin K0 K (decode cL_texts 291) 291 L (st) h cs ss = (K 292 L (.int 0 :: st) h cs ss) := by
  rw [dL_texts_291, ey_ok, nx_iconst_11] <;> rfl
theorem qL_texts_292 : ey F ini rt fin K0 K (decode cL_texts 292) 292 L (st) h cs ss = (lhas L 11 ∧ isI (lgt L 11) ∧ K 294 L (lgt L 11 :: st) h cs ss) := by
  rw [dL_texts_292, ey_ok, nx_iload_0] <;> rfl
theorem qL_texts_294 : ey F ini rt fin K0 K (decode cL_texts 294) 294 L (st) h cs ss = (K 295 L (.int 3 :: st) h cs ss) := by
  rw [dL_texts_294, ey_ok, nx_iconst_11] <;> rfl
theorem qL_texts_295 : ey F ini rt fin K0 K (decode cL_texts 295) 295 L (.int y :: .int x :: r) h cs ss = (if ¬ x = y then K 302 L r h cs ss else K 298 L r h cs ss) := by
  rw [dL_texts_295, ey_ok, nx_if_icmp_37]
  exact and_l (by unfold jok; decide)
theorem qL_texts_298 : ey F ini rt fin K0 K (decode cL_texts 298) 298 L (st) h cs ss = (K 299 L (.int 4 :: st) h cs ss) := by
  rw [dL_texts_298, ey_ok, nx_iconst_11] <;> rfl
theorem qL_texts_299 : ey F ini rt fin K0 K (decode cL_texts 299) 299 L (st) h cs ss = (K 304 L st h cs ss) := by
  rw [dL_texts_299, ey_ok, nx_goto_29]
  exact and_l (by unfold jok; decide)
theorem qL_texts_302 : ey F ini rt fin K0 K (decode cL_texts 302) 302 L (st) h cs ss = (lhas L 9 ∧ isI (lgt L 9) ∧ K 304 L (lgt L 9 :: st) h cs ss) := by
  rw [dL_texts_302, ey_ok, nx_iload_0] <;> rfl
theorem qL_texts_304 : ey F ini rt fin K0 K (decode cL_texts 304) 304 L (st) h cs ss = (K 305 L (.int 1 :: st) h cs ss) := by
  rw [dL_texts_304, ey_ok, nx_iconst_11] <;> rfl
theorem qL_texts_305 : ey F ini rt fin K0 K (decode cL_texts 305) 305 L (st) h cs ss = (K0 305 L st h cs ss) := by
  rw [dL_texts_305, ey_ok, nx_invokestatic_73]
theorem qL_texts_308 : ey F ini rt fin K0 K (decode cL_texts 308) 308 L (.int x :: r) h cs ss = (13 < L.length ∧ K 310 (L.set 13 (some (.int x))) r h cs ss) := by
  rw [dL_texts_308, ey_ok, nx_istore_4] <;> rfl
theorem qL_texts_310 : ey F ini rt fin K0 K (decode cL_texts 310) 310 L (st) h cs ss = (lhas L 11 ∧ isI (lgt L 11) ∧ K 312 L (lgt L 11 :: st) h cs ss) := by
  rw [dL_texts_310, ey_ok, nx_iload_0] <;> rfl
theorem qL_texts_312 : ey F ini rt fin K0 K (decode cL_texts 312) 312 L (st) h cs ss = (K 313 L (.int 4 :: st) h cs ss) := by
  rw [dL_texts_312, ey_ok, nx_iconst_11] <;> rfl
theorem qL_texts_313 : ey F ini rt fin K0 K (decode cL_texts 313) 313 L (.int y :: .int x :: r) h cs ss = (if ¬ x = y then K 323 L r h cs ss else K 316 L r h cs ss) := by
  rw [dL_texts_313, ey_ok, nx_if_icmp_37]
  exact and_l (by unfold jok; decide)
theorem qL_texts_316 : ey F ini rt fin K0 K (decode cL_texts 316) 316 L (st) h cs ss = (lhas L 13 ∧ isI (lgt L 13) ∧ K 318 L (lgt L 13 :: st) h cs ss) := by
  rw [dL_texts_316, ey_ok, nx_iload_0] <;> rfl
theorem qL_texts_318 : ey F ini rt fin K0 K (decode cL_texts 318) 318 L (.int x :: r) h cs ss = (12 < L.length ∧ K 320 (L.set 12 (some (.int x))) r h cs ss) := by
  rw [dL_texts_318, ey_ok, nx_istore_4] <;> rfl
theorem qL_texts_320 : ey F ini rt fin K0 K (decode cL_texts 320) 320 L (st) h cs ss = (K 422 L st h cs ss) := by
  rw [dL_texts_320, ey_ok, nx_goto_29]
  exact and_l (by unfold jok; decide)
theorem qL_texts_323 : ey F ini rt fin K0 K (decode cL_texts 323) 323 L (st) h cs ss = (lhas L 0 ∧ isRf (lgt L 0) ∧ K 324 L (lgt L 0 :: st) h cs ss) := by
  rw [dL_texts_323, ey_ok, nx_aload_n_3] <;> rfl
theorem qL_texts_324 : ey F ini rt fin K0 K (decode cL_texts 324) 324 L (st) h cs ss = (lhas L 13 ∧ isI (lgt L 13) ∧ K 326 L (lgt L 13 :: st) h cs ss) := by
  rw [dL_texts_324, ey_ok, nx_iload_0] <;> rfl
theorem qL_texts_326 : ey F ini rt fin K0 K (decode cL_texts 326) 326 L (st) h cs ss = (K 327 L (.int 5 :: st) h cs ss) := by
  rw [dL_texts_326, ey_ok, nx_iconst_11] <;> rfl
theorem qL_texts_327 : ey F ini rt fin K0 K (decode cL_texts 327) 327 L (st) h cs ss = (K0 327 L st h cs ss) := by
  rw [dL_texts_327, ey_ok, nx_invokestatic_73]
theorem qL_texts_330 : ey F ini rt fin K0 K (decode cL_texts 330) 330 L (st) h cs ss = (K 331 L (.int 0 :: st) h cs ss) := by
  rw [dL_texts_330, ey_ok, nx_iconst_11] <;> rfl
theorem qL_texts_331 : ey F ini rt fin K0 K (decode cL_texts 331) 331 L (st) h cs ss = (K 332 L (.int 0 :: st) h cs ss) := by
  rw [dL_texts_331, ey_ok, nx_iconst_11] <;> rfl
theorem qL_texts_332 : ey F ini rt fin K0 K (decode cL_texts 332) 332 L (st) h cs ss = (K0 332 L st h cs ss) := by
  rw [dL_texts_332, ey_ok, nx_invokestatic_73]
theorem qL_texts_335 : ey F ini rt fin K0 K (decode cL_texts 335) 335 L (.int x :: r) h cs ss = (13 < L.length ∧ K 337 (L.set 13 (some (.int x))) r h cs ss) := by
  rw [dL_texts_335, ey_ok, nx_istore_4] <;> rfl
theorem qL_texts_337 : ey F ini rt fin K0 K (decode cL_texts 337) 337 L (st) h cs ss = (lhas L 11 ∧ isI (lgt L 11) ∧ K 339 L (lgt L 11 :: st) h cs ss) := by
  rw [dL_texts_337, ey_ok, nx_iload_0] <;> rfl
theorem qL_texts_339 : ey F ini rt fin K0 K (decode cL_texts 339) 339 L (st) h cs ss = (K 340 L (.int 5 :: st) h cs ss) := by
  rw [dL_texts_339, ey_ok, nx_iconst_11] <;> rfl
theorem qL_texts_340 : ey F ini rt fin K0 K (decode cL_texts 340) 340 L (.int y :: .int x :: r) h cs ss = (if ¬ x = y then K 350 L r h cs ss else K 343 L r h cs ss) := by
  rw [dL_texts_340, ey_ok, nx_if_icmp_37]
  exact and_l (by unfold jok; decide)
theorem qL_texts_343 : ey F ini rt fin K0 K (decode cL_texts 343) 343 L (st) h cs ss = (lhas L 13 ∧ isI (lgt L 13) ∧ K 345 L (lgt L 13 :: st) h cs ss) := by
  rw [dL_texts_343, ey_ok, nx_iload_0] <;> rfl
theorem qL_texts_345 : ey F ini rt fin K0 K (decode cL_texts 345) 345 L (st) h cs ss = (K 346 L (.int 1 :: st) h cs ss) := by
  rw [dL_texts_345, ey_ok, nx_iconst_11] <;> rfl
theorem qL_texts_346 : ey F ini rt fin K0 K (decode cL_texts 346) 346 L (.int y :: .int x :: r) h cs ss = (K 347 L (.int (x + y) :: r) h cs ss) := by
  rw [dL_texts_346, ey_ok, nx_iadd_16]
theorem qL_texts_347 : ey F ini rt fin K0 K (decode cL_texts 347) 347 L (st) h cs ss = (K 352 L st h cs ss) := by
  rw [dL_texts_347, ey_ok, nx_goto_29]
  exact and_l (by unfold jok; decide)
theorem qL_texts_350 : ey F ini rt fin K0 K (decode cL_texts 350) 350 L (st) h cs ss = (lhas L 12 ∧ isI (lgt L 12) ∧ K 352 L (lgt L 12 :: st) h cs ss) := by
  rw [dL_texts_350, ey_ok, nx_iload_0] <;> rfl
theorem qL_texts_352 : ey F ini rt fin K0 K (decode cL_texts 352) 352 L (.int x :: r) h cs ss = (12 < L.length ∧ K 354 (L.set 12 (some (.int x))) r h cs ss) := by
  rw [dL_texts_352, ey_ok, nx_istore_4] <;> rfl
theorem qL_texts_354 : ey F ini rt fin K0 K (decode cL_texts 354) 354 L (st) h cs ss = (lhas L 0 ∧ isRf (lgt L 0) ∧ K 355 L (lgt L 0 :: st) h cs ss) := by
  rw [dL_texts_354, ey_ok, nx_aload_n_3] <;> rfl
theorem qL_texts_355 : ey F ini rt fin K0 K (decode cL_texts 355) 355 L (st) h cs ss = (lhas L 13 ∧ isI (lgt L 13) ∧ K 357 L (lgt L 13 :: st) h cs ss) := by
  rw [dL_texts_355, ey_ok, nx_iload_0] <;> rfl
theorem qL_texts_357 : ey F ini rt fin K0 K (decode cL_texts 357) 357 L (st) h cs ss = (K 358 L (.int 0 :: st) h cs ss) := by
  rw [dL_texts_357, ey_ok, nx_iconst_11] <;> rfl
theorem qL_texts_358 : ey F ini rt fin K0 K (decode cL_texts 358) 358 L (st) h cs ss = (lhas L 11 ∧ isI (lgt L 11) ∧ K 360 L (lgt L 11 :: st) h cs ss) := by
  rw [dL_texts_358, ey_ok, nx_iload_0] <;> rfl
theorem qL_texts_360 : ey F ini rt fin K0 K (decode cL_texts 360) 360 L (st) h cs ss = (K 361 L (.int 5 :: st) h cs ss) := by
  rw [dL_texts_360, ey_ok, nx_iconst_11] <;> rfl
theorem qL_texts_361 : ey F ini rt fin K0 K (decode cL_texts 361) 361 L (.int y :: .int x :: r) h cs ss = (if ¬ x = y then K 370 L r h cs ss else K 364 L r h cs ss) := by
  rw [dL_texts_361, ey_ok, nx_if_icmp_37]
  exact and_l (by unfold jok; decide)
theorem qL_texts_364 : ey F ini rt fin K0 K (decode cL_texts 364) 364 L (st) h cs ss = (K 367 L (.int 999 :: st) h cs ss) := by
  rw [dL_texts_364, ey_ok, nx_sipush_13] <;> rfl
theorem qL_texts_367 : ey F ini rt fin K0 K (decode cL_texts 367) 367 L (st) h cs ss = (K 372 L st h cs ss) := by
  rw [dL_texts_367, ey_ok, nx_goto_29]
  exact and_l (by unfold jok; decide)
theorem qL_texts_370 : ey F ini rt fin K0 K (decode cL_texts 370) 370 L (st) h cs ss = (lhas L 10 ∧ isI (lgt L 10) ∧ K 372 L (lgt L 10 :: st) h cs ss) := by
  rw [dL_texts_370, ey_ok, nx_iload_0] <;> rfl
theorem qL_texts_372 : ey F ini rt fin K0 K (decode cL_texts 372) 372 L (st) h cs ss = (K 373 L (.int 3 :: st) h cs ss) := by
  rw [dL_texts_372, ey_ok, nx_iconst_11] <;> rfl
theorem qL_texts_373 : ey F ini rt fin K0 K (decode cL_texts 373) 373 L (st) h cs ss = (K0 373 L st h cs ss) := by
  rw [dL_texts_373, ey_ok, nx_invokestatic_73]
theorem qL_texts_376 : ey F ini rt fin K0 K (decode cL_texts 376) 376 L (.int x :: r) h cs ss = (13 < L.length ∧ K 378 (L.set 13 (some (.int x))) r h cs ss) := by
  rw [dL_texts_376, ey_ok, nx_istore_4] <;> rfl
theorem qL_texts_378 : ey F ini rt fin K0 K (decode cL_texts 378) 378 L (st) h cs ss = (lhas L 11 ∧ isI (lgt L 11) ∧ K 380 L (lgt L 11 :: st) h cs ss) := by
  rw [dL_texts_378, ey_ok, nx_iload_0] <;> rfl
theorem qL_texts_380 : ey F ini rt fin K0 K (decode cL_texts 380) 380 L (st) h cs ss = (K 382 L (.int 6 :: st) h cs ss) := by
  rw [dL_texts_380, ey_ok, nx_bipush_12] <;> rfl
theorem qL_texts_382 : ey F ini rt fin K0 K (decode cL_texts 382) 382 L (.int y :: .int x :: r) h cs ss = (if ¬ x = y then K 392 L r h cs ss else K 385 L r h cs ss) := by
  rw [dL_texts_382, ey_ok, nx_if_icmp_37]
  exact and_l (by unfold jok; decide)
theorem qL_texts_385 : ey F ini rt fin K0 K (decode cL_texts 385) 385 L (st) h cs ss = (lhas L 13 ∧ isI (lgt L 13) ∧ K 387 L (lgt L 13 :: st) h cs ss) := by
  rw [dL_texts_385, ey_ok, nx_iload_0] <;> rfl
theorem qL_texts_387 : ey F ini rt fin K0 K (decode cL_texts 387) 387 L (st) h cs ss = (K 388 L (.int 1 :: st) h cs ss) := by
  rw [dL_texts_387, ey_ok, nx_iconst_11] <;> rfl
theorem qL_texts_388 : ey F ini rt fin K0 K (decode cL_texts 388) 388 L (.int y :: .int x :: r) h cs ss = (K 389 L (.int (x + y) :: r) h cs ss) := by
  rw [dL_texts_388, ey_ok, nx_iadd_16]
theorem qL_texts_389 : ey F ini rt fin K0 K (decode cL_texts 389) 389 L (st) h cs ss = (K 394 L st h cs ss) := by
  rw [dL_texts_389, ey_ok, nx_goto_29]
  exact and_l (by unfold jok; decide)
theorem qL_texts_392 : ey F ini rt fin K0 K (decode cL_texts 392) 392 L (st) h cs ss = (lhas L 12 ∧ isI (lgt L 12) ∧ K 394 L (lgt L 12 :: st) h cs ss) := by
  rw [dL_texts_392, ey_ok, nx_iload_0] <;> rfl
theorem qL_texts_394 : ey F ini rt fin K0 K (decode cL_texts 394) 394 L (.int x :: r) h cs ss = (12 < L.length ∧ K 396 (L.set 12 (some (.int x))) r h cs ss) := by
  rw [dL_texts_394, ey_ok, nx_istore_4] <;> rfl
theorem qL_texts_396 : ey F ini rt fin K0 K (decode cL_texts 396) 396 L (st) h cs ss = (lhas L 11 ∧ isI (lgt L 11) ∧ K 398 L (lgt L 11 :: st) h cs ss) := by
  rw [dL_texts_396, ey_ok, nx_iload_0] <;> rfl
theorem qL_texts_398 : ey F ini rt fin K0 K (decode cL_texts 398) 398 L (st) h cs ss = (K 400 L (.int 6 :: st) h cs ss) := by
  rw [dL_texts_398, ey_ok, nx_bipush_12] <;> rfl
theorem qL_texts_400 : ey F ini rt fin K0 K (decode cL_texts 400) 400 L (.int y :: .int x :: r) h cs ss = (if ¬ x = y then K 418 L r h cs ss else K 403 L r h cs ss) := by
  rw [dL_texts_400, ey_ok, nx_if_icmp_37]
  exact and_l (by unfold jok; decide)
theorem qL_texts_403 : ey F ini rt fin K0 K (decode cL_texts 403) 403 L (st) h cs ss = (lhas L 0 ∧ isRf (lgt L 0) ∧ K 404 L (lgt L 0 :: st) h cs ss) := by
  rw [dL_texts_403, ey_ok, nx_aload_n_3] <;> rfl
theorem qL_texts_404 : ey F ini rt fin K0 K (decode cL_texts 404) 404 L (st) h cs ss = (lhas L 13 ∧ isI (lgt L 13) ∧ K 406 L (lgt L 13 :: st) h cs ss) := by
  rw [dL_texts_404, ey_ok, nx_iload_0] <;> rfl
theorem qL_texts_406 : ey F ini rt fin K0 K (decode cL_texts 406) 406 L (st) h cs ss = (K 407 L (.int 2 :: st) h cs ss) := by
  rw [dL_texts_406, ey_ok, nx_iconst_11] <;> rfl
theorem qL_texts_407 : ey F ini rt fin K0 K (decode cL_texts 407) 407 L (st) h cs ss = (K0 407 L st h cs ss) := by
  rw [dL_texts_407, ey_ok, nx_invokestatic_73]
theorem qL_texts_410 : ey F ini rt fin K0 K (decode cL_texts 410) 410 L (st) h cs ss = (K 411 L (.int 0 :: st) h cs ss) := by
  rw [dL_texts_410, ey_ok, nx_iconst_11] <;> rfl
theorem qL_texts_411 : ey F ini rt fin K0 K (decode cL_texts 411) 411 L (st) h cs ss = (K 412 L (.int 0 :: st) h cs ss) := by
  rw [dL_texts_411, ey_ok, nx_iconst_11] <;> rfl
theorem qL_texts_412 : ey F ini rt fin K0 K (decode cL_texts 412) 412 L (st) h cs ss = (K0 412 L st h cs ss) := by
  rw [dL_texts_412, ey_ok, nx_invokestatic_73]
theorem qL_texts_415 : ey F ini rt fin K0 K (decode cL_texts 415) 415 L (st) h cs ss = (K 420 L st h cs ss) := by
  rw [dL_texts_415, ey_ok, nx_goto_29]
  exact and_l (by unfold jok; decide)
theorem qL_texts_418 : ey F ini rt fin K0 K (decode cL_texts 418) 418 L (st) h cs ss = (lhas L 13 ∧ isI (lgt L 13) ∧ K 420 L (lgt L 13 :: st) h cs ss) := by
  rw [dL_texts_418, ey_ok, nx_iload_0] <;> rfl
theorem qL_texts_420 : ey F ini rt fin K0 K (decode cL_texts 420) 420 L (.int x :: r) h cs ss = (13 < L.length ∧ K 422 (L.set 13 (some (.int x))) r h cs ss) := by
  rw [dL_texts_420, ey_ok, nx_istore_4] <;> rfl
theorem qL_texts_422 : ey F ini rt fin K0 K (decode cL_texts 422) 422 L (st) h cs ss = (lhas L 13 ∧ isI (lgt L 13) ∧ K 424 L (lgt L 13 :: st) h cs ss) := by
  rw [dL_texts_422, ey_ok, nx_iload_0] <;> rfl
theorem qL_texts_424 : ey F ini rt fin K0 K (decode cL_texts 424) 424 L (.int x :: r) h cs ss = (if x < 0 then K 443 L r h cs ss else K 427 L r h cs ss) := by
  rw [dL_texts_424, ey_ok, nx_ifond_32]
  exact and_l (by unfold jok; decide)
theorem qL_texts_427 : ey F ini rt fin K0 K (decode cL_texts 427) 427 L (st) h cs ss = (lhas L 13 ∧ isI (lgt L 13) ∧ K 429 L (lgt L 13 :: st) h cs ss) := by
  rw [dL_texts_427, ey_ok, nx_iload_0] <;> rfl
theorem qL_texts_429 : ey F ini rt fin K0 K (decode cL_texts 429) 429 L (st) h cs ss = (K 431 L (.int 40 :: st) h cs ss) := by
  rw [dL_texts_429, ey_ok, nx_bipush_12] <;> rfl
theorem qL_texts_431 : ey F ini rt fin K0 K (decode cL_texts 431) 431 L (.int y :: .int x :: r) h cs ss = (if y < x then K 443 L r h cs ss else K 434 L r h cs ss) := by
  rw [dL_texts_431, ey_ok, nx_if_icmp_40]
  exact and_l (by unfold jok; decide)
theorem qL_texts_434 : ey F ini rt fin K0 K (decode cL_texts 434) 434 L (st) h cs ss = (lhas L 0 ∧ isRf (lgt L 0) ∧ K 435 L (lgt L 0 :: st) h cs ss) := by
  rw [dL_texts_434, ey_ok, nx_aload_n_3] <;> rfl
theorem qL_texts_435 : ey F ini rt fin K0 K (decode cL_texts 435) 435 L (st) h cs ss = (K0 435 L st h cs ss) := by
  rw [dL_texts_435, ey_ok, nx_invokevirtual_72]
theorem qL_texts_438 : ey F ini rt fin K0 K (decode cL_texts 438) 438 L (st) h cs ss = (lhas L 12 ∧ isI (lgt L 12) ∧ K 440 L (lgt L 12 :: st) h cs ss) := by
  rw [dL_texts_438, ey_ok, nx_iload_0] <;> rfl
theorem qL_texts_440 : ey F ini rt fin K0 K (decode cL_texts 440) 440 L (.int y :: .int x :: r) h cs ss = (if x = y then K 445 L r h cs ss else K 443 L r h cs ss) := by
  rw [dL_texts_440, ey_ok, nx_if_icmp_36]
  exact and_l (by unfold jok; decide)
theorem qL_texts_443 : ey F ini rt fin K0 K (decode cL_texts 443) 443 L (st) h cs ss = (K 444 L (.int 0 :: st) h cs ss) := by
  rw [dL_texts_443, ey_ok, nx_iconst_11] <;> rfl
theorem qL_texts_444 : ey F ini rt fin K0 K (decode cL_texts 444) 444 L ([.int x]) h cs ss = (rokI rt x ∧ fin (some (.int x)) h cs ss) := by
  rw [dL_texts_444, ey_ok, nx_ireturn_68]
theorem qL_texts_445 : ey F ini rt fin K0 K (decode cL_texts 445) 445 L (st) h cs ss = (lhas L 12 ∧ isI (lgt L 12) ∧ K 447 L (lgt L 12 :: st) h cs ss) := by
  rw [dL_texts_445, ey_ok, nx_iload_0] <;> rfl
theorem qL_texts_447 : ey F ini rt fin K0 K (decode cL_texts 447) 447 L (.int x :: r) h cs ss = (if 0 ≤ x then K 457 L r h cs ss else K 450 L r h cs ss) := by
  rw [dL_texts_447, ey_ok, nx_ifond_33]
  exact and_l (by unfold jok; decide)
theorem qL_texts_450 : ey F ini rt fin K0 K (decode cL_texts 450) 450 L (st) h cs ss = (lhas L 2 ∧ isRf (lgt L 2) ∧ K 451 L (lgt L 2 :: st) h cs ss) := by
  rw [dL_texts_450, ey_ok, nx_aload_n_3] <;> rfl
theorem qL_texts_451 : ey F ini rt fin K0 K (decode cL_texts 451) 451 L (st) h cs ss = (K 452 L (.int 2 :: st) h cs ss) := by
  rw [dL_texts_451, ey_ok, nx_iconst_11] <;> rfl
theorem qL_texts_452 : ey F ini rt fin K0 K (decode cL_texts 452) 452 L (.int i :: .ref a :: r) h cs ss = (isA (h.1 a) (fun k m => k = 0 ∧ vp_in i m) ∧ K 453 L (h.2 a i.toNatClampNeg :: r) h cs ss) := by
  rw [dL_texts_452, ey_ok, nx_iaload_57]
theorem qL_texts_453 : ey F ini rt fin K0 K (decode cL_texts 453) 453 L (st) h cs ss = (K 454 L (.int 4 :: st) h cs ss) := by
  rw [dL_texts_453, ey_ok, nx_iconst_11] <;> rfl
theorem qL_texts_454 : ey F ini rt fin K0 K (decode cL_texts 454) 454 L (.int y :: .int x :: r) h cs ss = (if ¬ x = y then K 487 L r h cs ss else K 457 L r h cs ss) := by
  rw [dL_texts_454, ey_ok, nx_if_icmp_37]
  exact and_l (by unfold jok; decide)
theorem qL_texts_457 : ey F ini rt fin K0 K (decode cL_texts 457) 457 L (st) h cs ss = (lhas L 12 ∧ isI (lgt L 12) ∧ K 459 L (lgt L 12 :: st) h cs ss) := by
  rw [dL_texts_457, ey_ok, nx_iload_0] <;> rfl
theorem qL_texts_459 : ey F ini rt fin K0 K (decode cL_texts 459) 459 L (.int x :: r) h cs ss = (if x < 0 then K 472 L r h cs ss else K 462 L r h cs ss) := by
  rw [dL_texts_459, ey_ok, nx_ifond_32]
  exact and_l (by unfold jok; decide)
theorem qL_texts_462 : ey F ini rt fin K0 K (decode cL_texts 462) 462 L (st) h cs ss = (lhas L 0 ∧ isRf (lgt L 0) ∧ K 463 L (lgt L 0 :: st) h cs ss) := by
  rw [dL_texts_462, ey_ok, nx_aload_n_3] <;> rfl
theorem qL_texts_463 : ey F ini rt fin K0 K (decode cL_texts 463) 463 L (st) h cs ss = (K0 463 L st h cs ss) := by
  rw [dL_texts_463, ey_ok, nx_invokestatic_73]
theorem qL_texts_466 : ey F ini rt fin K0 K (decode cL_texts 466) 466 L (st) h cs ss = (K 469 L (.int (-1002) :: st) h cs ss) := by
  rw [dL_texts_466, ey_ok, nx_sipush_13] <;> rfl
theorem qL_texts_469 : ey F ini rt fin K0 K (decode cL_texts 469) 469 L (.int y :: .int x :: r) h cs ss = (if ¬ x = y then K 485 L r h cs ss else K 472 L r h cs ss) := by
  rw [dL_texts_469, ey_ok, nx_if_icmp_37]
  exact and_l (by unfold jok; decide)
theorem qL_texts_472 : ey F ini rt fin K0 K (decode cL_texts 472) 472 L (st) h cs ss = (lhas L 0 ∧ isRf (lgt L 0) ∧ K 473 L (lgt L 0 :: st) h cs ss) := by
  rw [dL_texts_472, ey_ok, nx_aload_n_3] <;> rfl
theorem qL_texts_473 : ey F ini rt fin K0 K (decode cL_texts 473) 473 L (st) h cs ss = (K0 473 L st h cs ss) := by
  rw [dL_texts_473, ey_ok, nx_invokevirtual_72]
theorem qL_texts_476 : ey F ini rt fin K0 K (decode cL_texts 476) 476 L (st) h cs ss = (lhas L 13 ∧ isI (lgt L 13) ∧ K 478 L (lgt L 13 :: st) h cs ss) := by
  rw [dL_texts_476, ey_ok, nx_iload_0] <;> rfl
theorem qL_texts_478 : ey F ini rt fin K0 K (decode cL_texts 478) 478 L (.int y :: .int x :: r) h cs ss = (if ¬ x = y then K 485 L r h cs ss else K 481 L r h cs ss) := by
  rw [dL_texts_478, ey_ok, nx_if_icmp_37]
  exact and_l (by unfold jok; decide)
theorem qL_texts_481 : ey F ini rt fin K0 K (decode cL_texts 481) 481 L (st) h cs ss = (K 482 L (.int 1 :: st) h cs ss) := by
  rw [dL_texts_481, ey_ok, nx_iconst_11] <;> rfl
theorem qL_texts_482 : ey F ini rt fin K0 K (decode cL_texts 482) 482 L (st) h cs ss = (K 486 L st h cs ss) := by
  rw [dL_texts_482, ey_ok, nx_goto_29]
  exact and_l (by unfold jok; decide)
theorem qL_texts_485 : ey F ini rt fin K0 K (decode cL_texts 485) 485 L (st) h cs ss = (K 486 L (.int 0 :: st) h cs ss) := by
  rw [dL_texts_485, ey_ok, nx_iconst_11] <;> rfl
theorem qL_texts_486 : ey F ini rt fin K0 K (decode cL_texts 486) 486 L ([.int x]) h cs ss = (rokI rt x ∧ fin (some (.int x)) h cs ss) := by
  rw [dL_texts_486, ey_ok, nx_ireturn_68]
theorem qL_texts_487 : ey F ini rt fin K0 K (decode cL_texts 487) 487 L (st) h cs ss = (lhas L 4 ∧ isRf (lgt L 4) ∧ K 489 L (lgt L 4 :: st) h cs ss) := by
  rw [dL_texts_487, ey_ok, nx_aload_2] <;> rfl
theorem qL_texts_489 : ey F ini rt fin K0 K (decode cL_texts 489) 489 L (st) h cs ss = (lhas L 2 ∧ isRf (lgt L 2) ∧ K 490 L (lgt L 2 :: st) h cs ss) := by
  rw [dL_texts_489, ey_ok, nx_aload_n_3] <;> rfl
theorem qL_texts_490 : ey F ini rt fin K0 K (decode cL_texts 490) 490 L (st) h cs ss = (K 491 L (.int 2 :: st) h cs ss) := by
  rw [dL_texts_490, ey_ok, nx_iconst_11] <;> rfl
theorem qL_texts_491 : ey F ini rt fin K0 K (decode cL_texts 491) 491 L (.int i :: .ref a :: r) h cs ss = (isA (h.1 a) (fun k m => k = 0 ∧ vp_in i m) ∧ K 492 L (h.2 a i.toNatClampNeg :: r) h cs ss) := by
  rw [dL_texts_491, ey_ok, nx_iaload_57]
theorem qL_texts_492 : ey F ini rt fin K0 K (decode cL_texts 492) 492 L (st) h cs ss = (lhas L 7 ∧ isI (lgt L 7) ∧ K 494 L (lgt L 7 :: st) h cs ss) := by
  rw [dL_texts_492, ey_ok, nx_iload_0] <;> rfl
theorem qL_texts_494 : ey F ini rt fin K0 K (decode cL_texts 494) 494 L (.int x :: .int i :: .ref a :: r) h cs ss = (isA (h.1 a) (fun k m => k = 0 ∧ vp_in i m) ∧ K 495 L r (h.1, hup h.2 a i.toNatClampNeg (.int x)) cs ss) := by
  rw [dL_texts_494, ey_ok, nx_iastore_62]
theorem qL_texts_495 : ey F ini rt fin K0 K (decode cL_texts 495) 495 L (st) h cs ss = (lhas L 4 ∧ isRf (lgt L 4) ∧ K 497 L (lgt L 4 :: st) h cs ss) := by
  rw [dL_texts_495, ey_ok, nx_aload_2] <;> rfl
theorem qL_texts_497 : ey F ini rt fin K0 K (decode cL_texts 497) 497 L (st) h cs ss = (K 498 L (.int 4 :: st) h cs ss) := by
  rw [dL_texts_497, ey_ok, nx_iconst_11] <;> rfl
theorem qL_texts_498 : ey F ini rt fin K0 K (decode cL_texts 498) 498 L (st) h cs ss = (lhas L 2 ∧ isRf (lgt L 2) ∧ K 499 L (lgt L 2 :: st) h cs ss) := by
  rw [dL_texts_498, ey_ok, nx_aload_n_3] <;> rfl
theorem qL_texts_499 : ey F ini rt fin K0 K (decode cL_texts 499) 499 L (st) h cs ss = (K 500 L (.int 2 :: st) h cs ss) := by
  rw [dL_texts_499, ey_ok, nx_iconst_11] <;> rfl
theorem qL_texts_500 : ey F ini rt fin K0 K (decode cL_texts 500) 500 L (.int i :: .ref a :: r) h cs ss = (isA (h.1 a) (fun k m => k = 0 ∧ vp_in i m) ∧ K 501 L (h.2 a i.toNatClampNeg :: r) h cs ss) := by
  rw [dL_texts_500, ey_ok, nx_iaload_57]
theorem qL_texts_501 : ey F ini rt fin K0 K (decode cL_texts 501) 501 L (.int y :: .int x :: r) h cs ss = (K 502 L (.int (x + y) :: r) h cs ss) := by
  rw [dL_texts_501, ey_ok, nx_iadd_16]
theorem qL_texts_502 : ey F ini rt fin K0 K (decode cL_texts 502) 502 L (st) h cs ss = (lhas L 8 ∧ isI (lgt L 8) ∧ K 504 L (lgt L 8 :: st) h cs ss) := by
  rw [dL_texts_502, ey_ok, nx_iload_0] <;> rfl
theorem qL_texts_504 : ey F ini rt fin K0 K (decode cL_texts 504) 504 L (.int x :: .int i :: .ref a :: r) h cs ss = (isA (h.1 a) (fun k m => k = 0 ∧ vp_in i m) ∧ K 505 L r (h.1, hup h.2 a i.toNatClampNeg (.int x)) cs ss) := by
  rw [dL_texts_504, ey_ok, nx_iastore_62]
theorem qL_texts_505 : ey F ini rt fin K0 K (decode cL_texts 505) 505 L (st) h cs ss = (lhas L 4 ∧ isRf (lgt L 4) ∧ K 507 L (lgt L 4 :: st) h cs ss) := by
  rw [dL_texts_505, ey_ok, nx_aload_2] <;> rfl
theorem qL_texts_507 : ey F ini rt fin K0 K (decode cL_texts 507) 507 L (st) h cs ss = (K 509 L (.int 8 :: st) h cs ss) := by
  rw [dL_texts_507, ey_ok, nx_bipush_12] <;> rfl
theorem qL_texts_509 : ey F ini rt fin K0 K (decode cL_texts 509) 509 L (st) h cs ss = (lhas L 2 ∧ isRf (lgt L 2) ∧ K 510 L (lgt L 2 :: st) h cs ss) := by
  rw [dL_texts_509, ey_ok, nx_aload_n_3] <;> rfl
theorem qL_texts_510 : ey F ini rt fin K0 K (decode cL_texts 510) 510 L (st) h cs ss = (K 511 L (.int 2 :: st) h cs ss) := by
  rw [dL_texts_510, ey_ok, nx_iconst_11] <;> rfl
theorem qL_texts_511 : ey F ini rt fin K0 K (decode cL_texts 511) 511 L (.int i :: .ref a :: r) h cs ss = (isA (h.1 a) (fun k m => k = 0 ∧ vp_in i m) ∧ K 512 L (h.2 a i.toNatClampNeg :: r) h cs ss) := by
  rw [dL_texts_511, ey_ok, nx_iaload_57]
theorem qL_texts_512 : ey F ini rt fin K0 K (decode cL_texts 512) 512 L (.int y :: .int x :: r) h cs ss = (K 513 L (.int (x + y) :: r) h cs ss) := by
  rw [dL_texts_512, ey_ok, nx_iadd_16]
theorem qL_texts_513 : ey F ini rt fin K0 K (decode cL_texts 513) 513 L (st) h cs ss = (lhas L 9 ∧ isI (lgt L 9) ∧ K 515 L (lgt L 9 :: st) h cs ss) := by
  rw [dL_texts_513, ey_ok, nx_iload_0] <;> rfl
theorem qL_texts_515 : ey F ini rt fin K0 K (decode cL_texts 515) 515 L (.int x :: .int i :: .ref a :: r) h cs ss = (isA (h.1 a) (fun k m => k = 0 ∧ vp_in i m) ∧ K 516 L r (h.1, hup h.2 a i.toNatClampNeg (.int x)) cs ss) := by
  rw [dL_texts_515, ey_ok, nx_iastore_62]
theorem qL_texts_516 : ey F ini rt fin K0 K (decode cL_texts 516) 516 L (st) h cs ss = (lhas L 4 ∧ isRf (lgt L 4) ∧ K 518 L (lgt L 4 :: st) h cs ss) := by
  rw [dL_texts_516, ey_ok, nx_aload_2] <;> rfl
theorem qL_texts_518 : ey F ini rt fin K0 K (decode cL_texts 518) 518 L (st) h cs ss = (K 520 L (.int 12 :: st) h cs ss) := by
  rw [dL_texts_518, ey_ok, nx_bipush_12] <;> rfl
theorem qL_texts_520 : ey F ini rt fin K0 K (decode cL_texts 520) 520 L (st) h cs ss = (lhas L 2 ∧ isRf (lgt L 2) ∧ K 521 L (lgt L 2 :: st) h cs ss) := by
  rw [dL_texts_520, ey_ok, nx_aload_n_3] <;> rfl
theorem qL_texts_521 : ey F ini rt fin K0 K (decode cL_texts 521) 521 L (st) h cs ss = (K 522 L (.int 2 :: st) h cs ss) := by
  rw [dL_texts_521, ey_ok, nx_iconst_11] <;> rfl
theorem qL_texts_522 : ey F ini rt fin K0 K (decode cL_texts 522) 522 L (.int i :: .ref a :: r) h cs ss = (isA (h.1 a) (fun k m => k = 0 ∧ vp_in i m) ∧ K 523 L (h.2 a i.toNatClampNeg :: r) h cs ss) := by
  rw [dL_texts_522, ey_ok, nx_iaload_57]
theorem qL_texts_523 : ey F ini rt fin K0 K (decode cL_texts 523) 523 L (.int y :: .int x :: r) h cs ss = (K 524 L (.int (x + y) :: r) h cs ss) := by
  rw [dL_texts_523, ey_ok, nx_iadd_16]
theorem qL_texts_524 : ey F ini rt fin K0 K (decode cL_texts 524) 524 L (st) h cs ss = (lhas L 10 ∧ isI (lgt L 10) ∧ K 526 L (lgt L 10 :: st) h cs ss) := by
  rw [dL_texts_524, ey_ok, nx_iload_0] <;> rfl
theorem qL_texts_526 : ey F ini rt fin K0 K (decode cL_texts 526) 526 L (.int x :: .int i :: .ref a :: r) h cs ss = (isA (h.1 a) (fun k m => k = 0 ∧ vp_in i m) ∧ K 527 L r (h.1, hup h.2 a i.toNatClampNeg (.int x)) cs ss) := by
  rw [dL_texts_526, ey_ok, nx_iastore_62]
theorem qL_texts_527 : ey F ini rt fin K0 K (decode cL_texts 527) 527 L (st) h cs ss = (lhas L 4 ∧ isRf (lgt L 4) ∧ K 529 L (lgt L 4 :: st) h cs ss) := by
  rw [dL_texts_527, ey_ok, nx_aload_2] <;> rfl
theorem qL_texts_529 : ey F ini rt fin K0 K (decode cL_texts 529) 529 L (st) h cs ss = (K 531 L (.int 16 :: st) h cs ss) := by
  rw [dL_texts_529, ey_ok, nx_bipush_12] <;> rfl
theorem qL_texts_531 : ey F ini rt fin K0 K (decode cL_texts 531) 531 L (st) h cs ss = (lhas L 2 ∧ isRf (lgt L 2) ∧ K 532 L (lgt L 2 :: st) h cs ss) := by
  rw [dL_texts_531, ey_ok, nx_aload_n_3] <;> rfl
theorem qL_texts_532 : ey F ini rt fin K0 K (decode cL_texts 532) 532 L (st) h cs ss = (K 533 L (.int 2 :: st) h cs ss) := by
  rw [dL_texts_532, ey_ok, nx_iconst_11] <;> rfl
theorem qL_texts_533 : ey F ini rt fin K0 K (decode cL_texts 533) 533 L (.int i :: .ref a :: r) h cs ss = (isA (h.1 a) (fun k m => k = 0 ∧ vp_in i m) ∧ K 534 L (h.2 a i.toNatClampNeg :: r) h cs ss) := by
  rw [dL_texts_533, ey_ok, nx_iaload_57]
theorem qL_texts_534 : ey F ini rt fin K0 K (decode cL_texts 534) 534 L (.int y :: .int x :: r) h cs ss = (K 535 L (.int (x + y) :: r) h cs ss) := by
  rw [dL_texts_534, ey_ok, nx_iadd_16]
theorem qL_texts_535 : ey F ini rt fin K0 K (decode cL_texts 535) 535 L (st) h cs ss = (K 536 L (.int 0 :: st) h cs ss) := by
  rw [dL_texts_535, ey_ok, nx_iconst_11] <;> rfl
theorem qL_texts_536 : ey F ini rt fin K0 K (decode cL_texts 536) 536 L (.int x :: .int i :: .ref a :: r) h cs ss = (isA (h.1 a) (fun k m => k = 0 ∧ vp_in i m) ∧ K 537 L r (h.1, hup h.2 a i.toNatClampNeg (.int x)) cs ss) := by
  rw [dL_texts_536, ey_ok, nx_iastore_62]
theorem qL_texts_537 : ey F ini rt fin K0 K (decode cL_texts 537) 537 L (st) h cs ss = (lhas L 2 ∧ isRf (lgt L 2) ∧ K 538 L (lgt L 2 :: st) h cs ss) := by
  rw [dL_texts_537, ey_ok, nx_aload_n_3] <;> rfl
theorem qL_texts_538 : ey F ini rt fin K0 K (decode cL_texts 538) 538 L (st) h cs ss = (K 539 L (.int 2 :: st) h cs ss) := by
  rw [dL_texts_538, ey_ok, nx_iconst_11] <;> rfl
theorem qL_texts_539 : ey F ini rt fin K0 K (decode cL_texts 539) 539 L (v :: v2 :: r) h cs ss = (v.category = 1 ∧ v2.category = 1 ∧ K 540 L (v :: v2 :: v :: v2 :: r) h cs ss) := by
  rw [dL_texts_539, ey_ok, nx_dup2_84]
theorem qL_texts_540 : ey F ini rt fin K0 K (decode cL_texts 540) 540 L (.int i :: .ref a :: r) h cs ss = (isA (h.1 a) (fun k m => k = 0 ∧ vp_in i m) ∧ K 541 L (h.2 a i.toNatClampNeg :: r) h cs ss) := by
  rw [dL_texts_540, ey_ok, nx_iaload_57]
theorem qL_texts_541 : ey F ini rt fin K0 K (decode cL_texts 541) 541 L (st) h cs ss = (K 542 L (.int 1 :: st) h cs ss) := by
  rw [dL_texts_541, ey_ok, nx_iconst_11] <;> rfl
theorem qL_texts_542 : ey F ini rt fin K0 K (decode cL_texts 542) 542 L (.int y :: .int x :: r) h cs ss = (K 543 L (.int (x + y) :: r) h cs ss) := by
  rw [dL_texts_542, ey_ok, nx_iadd_16]
theorem qL_texts_543 : ey F ini rt fin K0 K (decode cL_texts 543) 543 L (.int x :: .int i :: .ref a :: r) h cs ss = (isA (h.1 a) (fun k m => k = 0 ∧ vp_in i m) ∧ K 544 L r (h.1, hup h.2 a i.toNatClampNeg (.int x)) cs ss) := by
  rw [dL_texts_543, ey_ok, nx_iastore_62]
theorem qL_texts_544 : ey F ini rt fin K0 K (decode cL_texts 544) 544 L (st) h cs ss = (lhas L 2 ∧ isRf (lgt L 2) ∧ K 545 L (lgt L 2 :: st) h cs ss) := by
  rw [dL_texts_544, ey_ok, nx_aload_n_3] <;> rfl
theorem qL_texts_545 : ey F ini rt fin K0 K (decode cL_texts 545) 545 L (st) h cs ss = (lhas L 3 ∧ isRf (lgt L 3) ∧ K 546 L (lgt L 3 :: st) h cs ss) := by
  rw [dL_texts_545, ey_ok, nx_aload_n_3] <;> rfl
theorem qL_texts_546 : ey F ini rt fin K0 K (decode cL_texts 546) 546 L (st) h cs ss = (lhas L 4 ∧ isRf (lgt L 4) ∧ K 548 L (lgt L 4 :: st) h cs ss) := by
  rw [dL_texts_546, ey_ok, nx_aload_2] <;> rfl
theorem qL_texts_548 : ey F ini rt fin K0 K (decode cL_texts 548) 548 L (st) h cs ss = (lhas L 5 ∧ isRf (lgt L 5) ∧ K 550 L (lgt L 5 :: st) h cs ss) := by
  rw [dL_texts_548, ey_ok, nx_aload_2] <;> rfl
theorem qL_texts_550 : ey F ini rt fin K0 K (decode cL_texts 550) 550 L (st) h cs ss = (lhas L 6 ∧ isRf (lgt L 6) ∧ K 552 L (lgt L 6 :: st) h cs ss) := by
  rw [dL_texts_550, ey_ok, nx_aload_2] <;> rfl
theorem qL_texts_552 : ey F ini rt fin K0 K (decode cL_texts 552) 552 L (st) h cs ss = (K0 552 L st h cs ss) := by
  rw [dL_texts_552, ey_ok, nx_invokestatic_73]
theorem qL_texts_555 : ey F ini rt fin K0 K (decode cL_texts 555) 555 L (v :: r) h cs ss = (v.category = 1 ∧ K 556 L r h cs ss) := by
  rw [dL_texts_555, ey_ok, nx_pop_28]
theorem qL_texts_556 : ey F ini rt fin K0 K (decode cL_texts 556) 556 L (st) h cs ss = (lhas L 0 ∧ isRf (lgt L 0) ∧ K 557 L (lgt L 0 :: st) h cs ss) := by
  rw [dL_texts_556, ey_ok, nx_aload_n_3] <;> rfl
theorem qL_texts_557 : ey F ini rt fin K0 K (decode cL_texts 557) 557 L (st) h cs ss = (K0 557 L st h cs ss) := by
  rw [dL_texts_557, ey_ok, nx_invokestatic_73]
theorem qL_texts_560 : ey F ini rt fin K0 K (decode cL_texts 560) 560 L (st) h cs ss = (lhas L 2 ∧ isRf (lgt L 2) ∧ K 561 L (lgt L 2 :: st) h cs ss) := by
  rw [dL_texts_560, ey_ok, nx_aload_n_3] <;> rfl
theorem qL_texts_561 : ey F ini rt fin K0 K (decode cL_texts 561) 561 L (st) h cs ss = (K 562 L (.int 2 :: st) h cs ss) := by
  rw [dL_texts_561, ey_ok, nx_iconst_11] <;> rfl
theorem qL_texts_562 : ey F ini rt fin K0 K (decode cL_texts 562) 562 L (.int i :: .ref a :: r) h cs ss = (isA (h.1 a) (fun k m => k = 0 ∧ vp_in i m) ∧ K 563 L (h.2 a i.toNatClampNeg :: r) h cs ss) := by
  rw [dL_texts_562, ey_ok, nx_iaload_57]
theorem qL_texts_563 : ey F ini rt fin K0 K (decode cL_texts 563) 563 L (st) h cs ss = (K 564 L (.int 1 :: st) h cs ss) := by
  rw [dL_texts_563, ey_ok, nx_iconst_11] <;> rfl
theorem qL_texts_564 : ey F ini rt fin K0 K (decode cL_texts 564) 564 L (.int y :: .int x :: r) h cs ss = (K 565 L (.int (x - y) :: r) h cs ss) := by
  rw [dL_texts_564, ey_ok, nx_isub_17]
theorem qL_texts_565 : ey F ini rt fin K0 K (decode cL_texts 565) 565 L (.int y :: .int x :: r) h cs ss = (if ¬ x = y then K 579 L r h cs ss else K 568 L r h cs ss) := by
  rw [dL_texts_565, ey_ok, nx_if_icmp_37]
  exact and_l (by unfold jok; decide)
theorem qL_texts_568 : ey F ini rt fin K0 K (decode cL_texts 568) 568 L (st) h cs ss = (lhas L 0 ∧ isRf (lgt L 0) ∧ K 569 L (lgt L 0 :: st) h cs ss) := by
  rw [dL_texts_568, ey_ok, nx_aload_n_3] <;> rfl
theorem qL_texts_569 : ey F ini rt fin K0 K (decode cL_texts 569) 569 L (st) h cs ss = (K0 569 L st h cs ss) := by
  rw [dL_texts_569, ey_ok, nx_invokevirtual_72]
theorem qL_texts_572 : ey F ini rt fin K0 K (decode cL_texts 572) 572 L (.int x :: r) h cs ss = (if ¬ x = 0 then K 579 L r h cs ss else K 575 L r h cs ss) := by
  rw [dL_texts_572, ey_ok, nx_ifond_31]
  exact and_l (by unfold jok; decide)
theorem qL_texts_575 : ey F ini rt fin K0 K (decode cL_texts 575) 575 L (st) h cs ss = (K 576 L (.int 1 :: st) h cs ss) := by
  rw [dL_texts_575, ey_ok, nx_iconst_11] <;> rfl
theorem qL_texts_576 : ey F ini rt fin K0 K (decode cL_texts 576) 576 L (st) h cs ss = (K 580 L st h cs ss) := by
  rw [dL_texts_576, ey_ok, nx_goto_29]
  exact and_l (by unfold jok; decide)
theorem qL_texts_579 : ey F ini rt fin K0 K (decode cL_texts 579) 579 L (st) h cs ss = (K 580 L (.int 0 :: st) h cs ss) := by
  rw [dL_texts_579, ey_ok, nx_iconst_11] <;> rfl
theorem qL_texts_580 : ey F ini rt fin K0 K (decode cL_texts 580) 580 L ([.int x]) h cs ss = (rokI rt x ∧ fin (some (.int x)) h cs ss) := by
  rw [dL_texts_580, ey_ok, nx_ireturn_68]
theorem qL_shifts_0 : ey F ini rt fin K0 K (decode cL_shifts 0) 0 L (st) h cs ss = (lhas L 2 ∧ isI (lgt L 2) ∧ K 1 L (lgt L 2 :: st) h cs ss) := by
  rw [dL_shifts_0, ey_ok, nx_iload_n_1] <;> rfl
theorem qL_shifts_1 : ey F ini rt fin K0 K (decode cL_shifts 1) 1 L (st) h cs ss = (lhas L 3 ∧ isRf (lgt L 3) ∧ K 2 L (lgt L 3 :: st) h cs ss) := by
  rw [dL_shifts_1, ey_ok, nx_aload_n_3] <;> rfl
theorem qL_shifts_2 : ey F ini rt fin K0 K (decode cL_shifts 2) 2 L (st) h cs ss = (K 3 L (.int 1 :: st) h cs ss) := by
  rw [dL_shifts_2, ey_ok, nx_iconst_11] <;> rfl
theorem qL_shifts_3 : ey F ini rt fin K0 K (decode cL_shifts 3) 3 L (.int i :: .ref a :: r) h cs ss = (isA (h.1 a) (fun k m => k = 0 ∧ vp_in i m) ∧ K 4 L (h.2 a i.toNatClampNeg :: r) h cs ss) := by
  rw [dL_shifts_3, ey_ok, nx_iaload_57]
theorem qL_shifts_4 : ey F ini rt fin K0 K (decode cL_shifts 4) 4 L (st) h cs ss = (K 5 L (.int 1 :: st) h cs ss) := by
  rw [dL_shifts_4, ey_ok, nx_iconst_11] <;> rfl
theorem qL_shifts_5 : ey F ini rt fin K0 K (decode cL_shifts 5) 5 L (.int y :: .int x :: r) h cs ss = (K 6 L (.int (x + y) :: r) h cs ss) := by
  rw [dL_shifts_5, ey_ok, nx_iadd_16]
theorem qL_shifts_6 : ey F ini rt fin K0 K (decode cL_shifts 6) 6 L (st) h cs ss = (K0 6 L st h cs ss) := by
  rw [dL_shifts_6, ey_ok, nx_invokestatic_73]
theorem qL_shifts_9 : ey F ini rt fin K0 K (decode cL_shifts 9) 9 L (st) h cs ss = (lhas L 2 ∧ isI (lgt L 2) ∧ K 10 L (lgt L 2 :: st) h cs ss) := by
  rw [dL_shifts_9, ey_ok, nx_iload_n_1] <;> rfl
theorem qL_shifts_10 : ey F ini rt fin K0 K (decode cL_shifts 10) 10 L (st) h cs ss = (K 12 L (.int 11 :: st) h cs ss) := by
  rw [dL_shifts_10, ey_ok, nx_bipush_12] <;> rfl
theorem qL_shifts_12 : ey F ini rt fin K0 K (decode cL_shifts 12) 12 L (.int y :: .int x :: r) h cs ss = (K 13 L (.int (x >>> (y &&& 31)) :: r) h cs ss) := by
  rw [dL_shifts_12, ey_ok, nx_ishr_21]
theorem qL_shifts_13 : ey F ini rt fin K0 K (decode cL_shifts 13) 13 L (st) h cs ss = (K 15 L (.int 23 :: st) h cs ss) := by
  rw [dL_shifts_13, ey_ok, nx_bipush_12] <;> rfl
theorem qL_shifts_15 : ey F ini rt fin K0 K (decode cL_shifts 15) 15 L (st) h cs ss = (K0 15 L st h cs ss) := by
  rw [dL_shifts_15, ey_ok, nx_invokestatic_73]
theorem qL_shifts_18 : ey F ini rt fin K0 K (decode cL_shifts 18) 18 L (.int x :: r) h cs ss = (if ¬ x = 0 then K 25 L r h cs ss else K 21 L r h cs ss) := by
  rw [dL_shifts_18, ey_ok, nx_ifond_31]
  exact and_l (by unfold jok; decide)
theorem qL_shifts_21 : ey F ini rt fin K0 K (decode cL_shifts 21) 21 L (st) h cs ss = (K 22 L (.int 1 :: st) h cs ss) := by
  rw [dL_shifts_21, ey_ok, nx_iconst_11] <;> rfl
theorem qL_shifts_22 : ey F ini rt fin K0 K (decode cL_shifts 22) 22 L (st) h cs ss = (K 26 L st h cs ss) := by
  rw [dL_shifts_22, ey_ok, nx_goto_29]
  exact and_l (by unfold jok; decide)
theorem qL_shifts_25 : ey F ini rt fin K0 K (decode cL_shifts 25) 25 L (st) h cs ss = (K 26 L (.int 0 :: st) h cs ss) := by
  rw [dL_shifts_25, ey_ok, nx_iconst_11] <;> rfl
theorem qL_shifts_26 : ey F ini rt fin K0 K (decode cL_shifts 26) 26 L (.int y :: .int x :: r) h cs ss = (K 27 L (.int (x - y) :: r) h cs ss) := by
  rw [dL_shifts_26, ey_ok, nx_isub_17]
theorem qL_shifts_27 : ey F ini rt fin K0 K (decode cL_shifts 27) 27 L (.int x :: r) h cs ss = (10 < L.length ∧ K 29 (L.set 10 (some (.int x))) r h cs ss) := by
  rw [dL_shifts_27, ey_ok, nx_istore_4] <;> rfl
theorem qL_shifts_29 : ey F ini rt fin K0 K (decode cL_shifts 29) 29 L (st) h cs ss = (lhas L 10 ∧ isI (lgt L 10) ∧ K 31 L (lgt L 10 :: st) h cs ss) := by
  rw [dL_shifts_29, ey_ok, nx_iload_0] <;> rfl
theorem qL_shifts_31 : ey F ini rt fin K0 K (decode cL_shifts 31) 31 L (.int x :: r) h cs ss = (if x < 0 then K 46 L r h cs ss else K 34 L r h cs ss) := by
  rw [dL_shifts_31, ey_ok, nx_ifond_32]
  exact and_l (by unfold jok; decide)
theorem qL_shifts_34 : ey F ini rt fin K0 K (decode cL_shifts 34) 34 L (st) h cs ss = (lhas L 10 ∧ isI (lgt L 10) ∧ K 36 L (lgt L 10 :: st) h cs ss) := by
  rw [dL_shifts_34, ey_ok, nx_iload_0] <;> rfl
theorem qL_shifts_36 : ey F ini rt fin K0 K (decode cL_shifts 36) 36 L (st) h cs ss = (lhas L 3 ∧ isRf (lgt L 3) ∧ K 37 L (lgt L 3 :: st) h cs ss) := by
  rw [dL_shifts_36, ey_ok, nx_aload_n_3] <;> rfl
theorem qL_shifts_37 : ey F ini rt fin K0 K (decode cL_shifts 37) 37 L (st) h cs ss = (K 38 L (.int 1 :: st) h cs ss) := by
  rw [dL_shifts_37, ey_ok, nx_iconst_11] <;> rfl
theorem qL_shifts_38 : ey F ini rt fin K0 K (decode cL_shifts 38) 38 L (.int i :: .ref a :: r) h cs ss = (isA (h.1 a) (fun k m => k = 0 ∧ vp_in i m) ∧ K 39 L (h.2 a i.toNatClampNeg :: r) h cs ss) := by
  rw [dL_shifts_38, ey_ok, nx_iaload_57]
theorem qL_shifts_39 : ey F ini rt fin K0 K (decode cL_shifts 39) 39 L (.int y :: .int x :: r) h cs ss = (if y ≤ x then K 46 L r h cs ss else K 42 L r h cs ss) := by
  rw [dL_shifts_39, ey_ok, nx_if_icmp_39]
  exact and_l (by unfold jok; decide)
theorem qL_shifts_42 : ey F ini rt fin K0 K (decode cL_shifts 42) 42 L (st) h cs ss = (K 43 L (.int 1 :: st) h cs ss) := by
  rw [dL_shifts_42, ey_ok, nx_iconst_11] <;> rfl
theorem qL_shifts_43 : ey F ini rt fin K0 K (decode cL_shifts 43) 43 L (st) h cs ss = (K 47 L st h cs ss) := by
  rw [dL_shifts_43, ey_ok, nx_goto_29]
  exact and_l (by unfold jok; decide)
theorem qL_shifts_46 : ey F ini rt fin K0 K (decode cL_shifts 46) 46 L (st) h cs ss = (K 47 L (.int 0 :: st) h cs ss) := by
  rw [dL_shifts_46, ey_ok, nx_iconst_11] <;> rfl
theorem qL_shifts_47 : ey F ini rt fin K0 K (decode cL_shifts 47) 47 L (.int x :: r) h cs ss = (11 < L.length ∧ K 49 (L.set 11 (some (.int x))) r h cs ss) := by
  rw [dL_shifts_47, ey_ok, nx_istore_4] <;> rfl
theorem qL_shifts_49 : ey F ini rt fin K0 K (decode cL_shifts 49) 49 L (st) h cs ss = (lhas L 1 ∧ isI (lgt L 1) ∧ K 50 L (lgt L 1 :: st) h cs ss) := by
  rw [dL_shifts_49, ey_ok, nx_iload_n_1] <;> rfl
theorem qL_shifts_50 : ey F ini rt fin K0 K (decode cL_shifts 50) 50 L (.int x :: r) h cs ss = (if ¬ x = 0 then K 228 L r h cs ss else K 53 L r h cs ss) := by
  rw [dL_shifts_50, ey_ok, nx_ifond_31]
  exact and_l (by unfold jok; decide)
theorem qL_shifts_53 : ey F ini rt fin K0 K (decode cL_shifts 53) 53 L (st) h cs ss = (lhas L 2 ∧ isI (lgt L 2) ∧ K 54 L (lgt L 2 :: st) h cs ss) := by
  rw [dL_shifts_53, ey_ok, nx_iload_n_1] <;> rfl
theorem qL_shifts_54 : ey F ini rt fin K0 K (decode cL_shifts 54) 54 L (st) h cs ss = (K 56 L (.int 60 :: st) h cs ss) := by
  rw [dL_shifts_54, ey_ok, nx_bipush_12] <;> rfl
theorem qL_shifts_56 : ey F ini rt fin K0 K (decode cL_shifts 56) 56 L (st) h cs ss = (K0 56 L st h cs ss) := by
  rw [dL_shifts_56, ey_ok, nx_invokestatic_73]
theorem qL_shifts_59 : ey F ini rt fin K0 K (decode cL_shifts 59) 59 L (.int x :: r) h cs ss = (if ¬ x = 0 then K 67 L r h cs ss else K 62 L r h cs ss) := by
  rw [dL_shifts_59, ey_ok, nx_ifond_31]
  exact and_l (by unfold jok; decide)
theorem qL_shifts_62 : ey F ini rt fin K0 K (decode cL_shifts 62) 62 L (st) h cs ss = (K 64 L (.int 8 :: st) h cs ss) := by
  rw [dL_shifts_62, ey_ok, nx_bipush_12] <;> rfl
theorem qL_shifts_64 : ey F ini rt fin K0 K (decode cL_shifts 64) 64 L (st) h cs ss = (K 72 L st h cs ss) := by
  rw [dL_shifts_64, ey_ok, nx_goto_29]
  exact and_l (by unfold jok; decide)
theorem qL_shifts_67 : ey F ini rt fin K0 K (decode cL_shifts 67) 67 L (st) h cs ss = (lhas L 2 ∧ isI (lgt L 2) ∧ K 68 L (lgt L 2 :: st) h cs ss) := by
  rw [dL_shifts_67, ey_ok, nx_iload_n_1] <;> rfl
theorem qL_shifts_68 : ey F ini rt fin K0 K (decode cL_shifts 68) 68 L (st) h cs ss = (K 69 L (.int 4 :: st) h cs ss) := by
  rw [dL_shifts_68, ey_ok, nx_iconst_11] <;> rfl
theorem qL_shifts_69 : ey F ini rt fin K0 K (decode cL_shifts 69) 69 L (st) h cs ss = (K0 69 L st h cs ss) := by
  rw [dL_shifts_69, ey_ok, nx_invokestatic_73]
theorem qL_shifts_72 : ey F ini rt fin K0 K (decode cL_shifts 72) 72 L (.int x :: r) h cs ss = (12 < L.length ∧ K 74 (L.set 12 (some (.int x))) r h cs ss) := by
  rw [dL_shifts_72, ey_ok, nx_istore_4] <;> rfl
theorem qL_shifts_74 : ey F ini rt fin K0 K (decode cL_shifts 74) 74 L (st) h cs ss = (lhas L 2 ∧ isI (lgt L 2) ∧ K 75 L (lgt L 2 :: st) h cs ss) := by
  rw [dL_shifts_74, ey_ok, nx_iload_n_1] <;> rfl
theorem qL_shifts_75 : ey F ini rt fin K0 K (decode cL_shifts 75) 75 L (st) h cs ss = (K 76 L (.int 3 :: st) h cs ss) := by
  rw [dL_shifts_75, ey_ok, nx_iconst_11] <;> rfl
theorem qL_shifts_76 : ey F ini rt fin K0 K (decode cL_shifts 76) 76 L (.int y :: .int x :: r) h cs ss = (K 77 L (.int (x >>> (y &&& 31)) :: r) h cs ss) := by
  rw [dL_shifts_76, ey_ok, nx_ishr_21]
theorem qL_shifts_77 : ey F ini rt fin K0 K (decode cL_shifts 77) 77 L (st) h cs ss = (K 79 L (.int 30 :: st) h cs ss) := by
  rw [dL_shifts_77, ey_ok, nx_bipush_12] <;> rfl
theorem qL_shifts_79 : ey F ini rt fin K0 K (decode cL_shifts 79) 79 L (st) h cs ss = (K0 79 L st h cs ss) := by
  rw [dL_shifts_79, ey_ok, nx_invokestatic_73]
theorem qL_shifts_82 : ey F ini rt fin K0 K (decode cL_shifts 82) 82 L (.int x :: r) h cs ss = (if ¬ x = 0 then K 90 L r h cs ss else K 85 L r h cs ss) := by
  rw [dL_shifts_82, ey_ok, nx_ifond_31]
  exact and_l (by unfold jok; decide)
theorem qL_shifts_85 : ey F ini rt fin K0 K (decode cL_shifts 85) 85 L (st) h cs ss = (K 87 L (.int 16 :: st) h cs ss) := by
  rw [dL_shifts_85, ey_ok, nx_bipush_12] <;> rfl
theorem qL_shifts_87 : ey F ini rt fin K0 K (decode cL_shifts 87) 87 L (st) h cs ss = (K 113 L st h cs ss) := by
  rw [dL_shifts_87, ey_ok, nx_goto_29]
  exact and_l (by unfold jok; decide)
theorem qL_shifts_90 : ey F ini rt fin K0 K (decode cL_shifts 90) 90 L (st) h cs ss = (lhas L 2 ∧ isI (lgt L 2) ∧ K 91 L (lgt L 2 :: st) h cs ss) := by
  rw [dL_shifts_90, ey_ok, nx_iload_n_1] <;> rfl
theorem qL_shifts_91 : ey F ini rt fin K0 K (decode cL_shifts 91) 91 L (st) h cs ss = (K 92 L (.int 3 :: st) h cs ss) := by
  rw [dL_shifts_91, ey_ok, nx_iconst_11] <;> rfl
theorem qL_shifts_92 : ey F ini rt fin K0 K (decode cL_shifts 92) 92 L (.int y :: .int x :: r) h cs ss = (K 93 L (.int (x >>> (y &&& 31)) :: r) h cs ss) := by
  rw [dL_shifts_92, ey_ok, nx_ishr_21]
theorem qL_shifts_93 : ey F ini rt fin K0 K (decode cL_shifts 93) 93 L (st) h cs ss = (K 94 L (.int 3 :: st) h cs ss) := by
  rw [dL_shifts_93, ey_ok, nx_iconst_11] <;> rfl
theorem qL_shifts_94 : ey F ini rt fin K0 K (decode cL_shifts 94) 94 L (st) h cs ss = (K0 94 L st h cs ss) := by
  rw [dL_shifts_94, ey_ok, nx_invokestatic_73]
theorem qL_shifts_97 : ey F ini rt fin K0 K (decode cL_shifts 97) 97 L (.int x :: r) h cs ss = (if ¬ x = 0 then K 111 L r h cs ss else K 100 L r h cs ss) := by
  rw [dL_shifts_97, ey_ok, nx_ifond_31]
  exact and_l (by unfold jok; decide)
theorem qL_shifts_100 : ey F ini rt fin K0 K (decode cL_shifts 100) 100 L (st) h cs ss = (lhas L 2 ∧ isI (lgt L 2) ∧ K 101 L (lgt L 2 :: st) h cs ss) := by
  rw [dL_shifts_100, ey_ok, nx_iload_n_1] <;> rfl
theorem qL_shifts_101 : ey F ini rt fin K0 K (decode cL_shifts 101) 101 L (st) h cs ss = (K 102 L (.int 4 :: st) h cs ss) := by
  rw [dL_shifts_101, ey_ok, nx_iconst_11] <;> rfl
theorem qL_shifts_102 : ey F ini rt fin K0 K (decode cL_shifts 102) 102 L (.int y :: .int x :: r) h cs ss = (K 103 L (.int (x >>> (y &&& 31)) :: r) h cs ss) := by
  rw [dL_shifts_102, ey_ok, nx_ishr_21]
theorem qL_shifts_103 : ey F ini rt fin K0 K (decode cL_shifts 103) 103 L (st) h cs ss = (K 105 L (.int 16 :: st) h cs ss) := by
  rw [dL_shifts_103, ey_ok, nx_bipush_12] <;> rfl
theorem qL_shifts_105 : ey F ini rt fin K0 K (decode cL_shifts 105) 105 L (st) h cs ss = (K0 105 L st h cs ss) := by
  rw [dL_shifts_105, ey_ok, nx_invokestatic_73]
theorem qL_shifts_108 : ey F ini rt fin K0 K (decode cL_shifts 108) 108 L (st) h cs ss = (K 113 L st h cs ss) := by
  rw [dL_shifts_108, ey_ok, nx_goto_29]
  exact and_l (by unfold jok; decide)
theorem qL_shifts_111 : ey F ini rt fin K0 K (decode cL_shifts 111) 111 L (st) h cs ss = (K 113 L (.int 15 :: st) h cs ss) := by
  rw [dL_shifts_111, ey_ok, nx_bipush_12] <;> rfl
theorem qL_shifts_113 : ey F ini rt fin K0 K (decode cL_shifts 113) 113 L (.int x :: r) h cs ss = (13 < L.length ∧ K 115 (L.set 13 (some (.int x))) r h cs ss) := by
  rw [dL_shifts_113, ey_ok, nx_istore_4] <;> rfl
theorem qL_shifts_115 : ey F ini rt fin K0 K (decode cL_shifts 115) 115 L (st) h cs ss = (lhas L 2 ∧ isI (lgt L 2) ∧ K 116 L (lgt L 2 :: st) h cs ss) := by
  rw [dL_shifts_115, ey_ok, nx_iload_n_1] <;> rfl
theorem qL_shifts_116 : ey F ini rt fin K0 K (decode cL_shifts 116) 116 L (st) h cs ss = (K 117 L (.int 5 :: st) h cs ss) := by
  rw [dL_shifts_116, ey_ok, nx_iconst_11] <;> rfl
theorem qL_shifts_117 : ey F ini rt fin K0 K (decode cL_shifts 117) 117 L (.int y :: .int x :: r) h cs ss = (K 118 L (.int (x >>> (y &&& 31)) :: r) h cs ss) := by
  rw [dL_shifts_117, ey_ok, nx_ishr_21]
theorem qL_shifts_118 : ey F ini rt fin K0 K (decode cL_shifts 118) 118 L (st) h cs ss = (K 120 L (.int 60 :: st) h cs ss) := by
  rw [dL_shifts_118, ey_ok, nx_bipush_12] <;> rfl
theorem qL_shifts_120 : ey F ini rt fin K0 K (decode cL_shifts 120) 120 L (st) h cs ss = (K0 120 L st h cs ss) := by
  rw [dL_shifts_120, ey_ok, nx_invokestatic_73]
theorem qL_shifts_123 : ey F ini rt fin K0 K (decode cL_shifts 123) 123 L (.int x :: r) h cs ss = (if ¬ x = 0 then K 132 L r h cs ss else K 126 L r h cs ss) := by
  rw [dL_shifts_123, ey_ok, nx_ifond_31]
  exact and_l (by unfold jok; decide)
theorem qL_shifts_126 : ey F ini rt fin K0 K (decode cL_shifts 126) 126 L (st) h cs ss = (K 129 L (.int 1001 :: st) h cs ss) := by
  rw [dL_shifts_126, ey_ok, nx_sipush_13] <;> rfl
theorem qL_shifts_129 : ey F ini rt fin K0 K (decode cL_shifts 129) 129 L (st) h cs ss = (K 140 L st h cs ss) := by
  rw [dL_shifts_129, ey_ok, nx_goto_29]
  exact and_l (by unfold jok; decide)
theorem qL_shifts_132 : ey F ini rt fin K0 K (decode cL_shifts 132) 132 L (st) h cs ss = (lhas L 2 ∧ isI (lgt L 2) ∧ K 133 L (lgt L 2 :: st) h cs ss) := by
  rw [dL_shifts_132, ey_ok, nx_iload_n_1] <;> rfl
theorem qL_shifts_133 : ey F ini rt fin K0 K (decode cL_shifts 133) 133 L (st) h cs ss = (K 134 L (.int 5 :: st) h cs ss) := by
  rw [dL_shifts_133, ey_ok, nx_iconst_11] <;> rfl
theorem qL_shifts_134 : ey F ini rt fin K0 K (decode cL_shifts 134) 134 L (.int y :: .int x :: r) h cs ss = (K 135 L (.int (x >>> (y &&& 31)) :: r) h cs ss) := by
  rw [dL_shifts_134, ey_ok, nx_ishr_21]
theorem qL_shifts_135 : ey F ini rt fin K0 K (decode cL_shifts 135) 135 L (st) h cs ss = (K 137 L (.int 100 :: st) h cs ss) := by
  rw [dL_shifts_135, ey_ok, nx_bipush_12] <;> rfl
theorem qL_shifts_137 : ey F ini rt fin K0 K (decode cL_shifts 137) 137 L (st) h cs ss = (K0 137 L st h cs ss) := by
  rw [dL_shifts_137, ey_ok, nx_invokestatic_73]
theorem qL_shifts_140 : ey F ini rt fin K0 K (decode cL_shifts 140) 140 L (.int x :: r) h cs ss = (14 < L.length ∧ K 142 (L.set 14 (some (.int x))) r h cs ss) := by
  rw [dL_shifts_140, ey_ok, nx_istore_4] <;> rfl
theorem qL_shifts_142 : ey F ini rt fin K0 K (decode cL_shifts 142) 142 L (st) h cs ss = (lhas L 12 ∧ isI (lgt L 12) ∧ K 144 L (lgt L 12 :: st) h cs ss) := by
  rw [dL_shifts_142, ey_ok, nx_iload_0] <;> rfl
theorem qL_shifts_144 : ey F ini rt fin K0 K (decode cL_shifts 144) 144 L (st) h cs ss = (K 146 L (.int 7 :: st) h cs ss) := by
  rw [dL_shifts_144, ey_ok, nx_bipush_12] <;> rfl
theorem qL_shifts_146 : ey F ini rt fin K0 K (decode cL_shifts 146) 146 L (.int y :: .int x :: r) h cs ss = (if x ≤ y then K 155 L r h cs ss else K 149 L r h cs ss) := by
  rw [dL_shifts_146, ey_ok, nx_if_icmp_41]
  exact and_l (by unfold jok; decide)
theorem qL_shifts_149 : ey F ini rt fin K0 K (decode cL_shifts 149) 149 L (st) h cs ss = (K 152 L (.int (-1001) :: st) h cs ss) := by
  rw [dL_shifts_149, ey_ok, nx_sipush_13] <;> rfl
theorem qL_shifts_152 : ey F ini rt fin K0 K (decode cL_shifts 152) 152 L (st) h cs ss = (K 183 L st h cs ss) := by
  rw [dL_shifts_152, ey_ok, nx_goto_29]
  exact and_l (by unfold jok; decide)
theorem qL_shifts_155 : ey F ini rt fin K0 K (decode cL_shifts 155) 155 L (st) h cs ss = (lhas L 13 ∧ isI (lgt L 13) ∧ K 157 L (lgt L 13 :: st) h cs ss) := by
  rw [dL_shifts_155, ey_ok, nx_iload_0] <;> rfl
theorem qL_shifts_157 : ey F ini rt fin K0 K (decode cL_shifts 157) 157 L (st) h cs ss = (K 159 L (.int 15 :: st) h cs ss) := by
  rw [dL_shifts_157, ey_ok, nx_bipush_12] <;> rfl
theorem qL_shifts_159 : ey F ini rt fin K0 K (decode cL_shifts 159) 159 L (.int y :: .int x :: r) h cs ss = (if y < x then K 170 L r h cs ss else K 162 L r h cs ss) := by
  rw [dL_shifts_159, ey_ok, nx_if_icmp_40]
  exact and_l (by unfold jok; decide)
theorem qL_shifts_162 : ey F ini rt fin K0 K (decode cL_shifts 162) 162 L (st) h cs ss = (lhas L 14 ∧ isI (lgt L 14) ∧ K 164 L (lgt L 14 :: st) h cs ss) := by
  rw [dL_shifts_162, ey_ok, nx_iload_0] <;> rfl
theorem qL_shifts_164 : ey F ini rt fin K0 K (decode cL_shifts 164) 164 L (st) h cs ss = (K 167 L (.int 1000 :: st) h cs ss) := by
  rw [dL_shifts_164, ey_ok, nx_sipush_13] <;> rfl
theorem qL_shifts_167 : ey F ini rt fin K0 K (decode cL_shifts 167) 167 L (.int y :: .int x :: r) h cs ss = (if x ≤ y then K 176 L r h cs ss else K 170 L r h cs ss) := by
  rw [dL_shifts_167, ey_ok, nx_if_icmp_41]
  exact and_l (by unfold jok; decide)
theorem qL_shifts_170 : ey F ini rt fin K0 K (decode cL_shifts 170) 170 L (st) h cs ss = (K 173 L (.int (-1002) :: st) h cs ss) := by
  rw [dL_shifts_170, ey_ok, nx_sipush_13] <;> rfl
theorem qL_shifts_173 : ey F ini rt fin K0 K (decode cL_shifts 173) 173 L (st) h cs ss = (K 183 L st h cs ss) := by
  rw [dL_shifts_173, ey_ok, nx_goto_29]
  exact and_l (by unfold jok; decide)
theorem qL_shifts_176 : ey F ini rt fin K0 K (decode cL_shifts 176) 176 L (st) h cs ss = (lhas L 4 ∧ isRf (lgt L 4) ∧ K 178 L (lgt L 4 :: st) h cs ss) := by
  rw [dL_shifts_176, ey_ok, nx_aload_2] <;> rfl
theorem qL_shifts_178 : ey F ini rt fin K0 K (decode cL_shifts 178) 178 L (st) h cs ss = (K 179 L (.int 4 :: st) h cs ss) := by
  rw [dL_shifts_178, ey_ok, nx_iconst_11] <;> rfl
theorem qL_shifts_179 : ey F ini rt fin K0 K (decode cL_shifts 179) 179 L (st) h cs ss = (lhas L 12 ∧ isI (lgt L 12) ∧ K 181 L (lgt L 12 :: st) h cs ss) := by
  rw [dL_shifts_179, ey_ok, nx_iload_0] <;> rfl
theorem qL_shifts_181 : ey F ini rt fin K0 K (decode cL_shifts 181) 181 L (.int y :: .int x :: r) h cs ss = (K 182 L (.int (x + y) :: r) h cs ss) := by
  rw [dL_shifts_181, ey_ok, nx_iadd_16]
theorem qL_shifts_182 : ey F ini rt fin K0 K (decode cL_shifts 182) 182 L (.int i :: .ref a :: r) h cs ss = (isA (h.1 a) (fun k m => k = 0 ∧ vp_in i m) ∧ K 183 L (h.2 a i.toNatClampNeg :: r) h cs ss) := by
  rw [dL_shifts_182, ey_ok, nx_iaload_57]
theorem qL_shifts_183 : ey F ini rt fin K0 K (decode cL_shifts 183) 183 L (.int x :: r) h cs ss = (15 < L.length ∧ K 185 (L.set 15 (some (.int x))) r h cs ss) := by
  rw [dL_shifts_183, ey_ok, nx_istore_4] <;> rfl
theorem qL_shifts_185 : ey F ini rt fin K0 K (decode cL_shifts 185) 185 L (st) h cs ss = (lhas L 15 ∧ isI (lgt L 15) ∧ K 187 L (lgt L 15 :: st) h cs ss) := by
  rw [dL_shifts_185, ey_ok, nx_iload_0] <;> rfl
theorem qL_shifts_187 : ey F ini rt fin K0 K (decode cL_shifts 187) 187 L (.int x :: r) h cs ss = (if x < 0 then K 206 L r h cs ss else K 190 L r h cs ss) := by
  rw [dL_shifts_187, ey_ok, nx_ifond_32]
  exact and_l (by unfold jok; decide)
theorem qL_shifts_190 : ey F ini rt fin K0 K (decode cL_shifts 190) 190 L (st) h cs ss = (lhas L 4 ∧ isRf (lgt L 4) ∧ K 192 L (lgt L 4 :: st) h cs ss) := by
  rw [dL_shifts_190, ey_ok, nx_aload_2] <;> rfl
theorem qL_shifts_192 : ey F ini rt fin K0 K (decode cL_shifts 192) 192 L (st) h cs ss = (lhas L 12 ∧ isI (lgt L 12) ∧ K 194 L (lgt L 12 :: st) h cs ss) := by
  rw [dL_shifts_192, ey_ok, nx_iload_0] <;> rfl
theorem qL_shifts_194 : ey F ini rt fin K0 K (decode cL_shifts 194) 194 L (st) h cs ss = (lhas L 13 ∧ isI (lgt L 13) ∧ K 196 L (lgt L 13 :: st) h cs ss) := by
  rw [dL_shifts_194, ey_ok, nx_iload_0] <;> rfl
theorem qL_shifts_196 : ey F ini rt fin K0 K (decode cL_shifts 196) 196 L (.int x :: .int i :: .ref a :: r) h cs ss = (isA (h.1 a) (fun k m => k = 0 ∧ vp_in i m) ∧ K 197 L r (h.1, hup h.2 a i.toNatClampNeg (.int x)) cs ss) := by
  rw [dL_shifts_196, ey_ok, nx_iastore_62]
theorem qL_shifts_197 : ey F ini rt fin K0 K (decode cL_shifts 197) 197 L (st) h cs ss = (lhas L 4 ∧ isRf (lgt L 4) ∧ K 199 L (lgt L 4 :: st) h cs ss) := by
  rw [dL_shifts_197, ey_ok, nx_aload_2] <;> rfl
theorem qL_shifts_199 : ey F ini rt fin K0 K (decode cL_shifts 199) 199 L (st) h cs ss = (K 200 L (.int 4 :: st) h cs ss) := by
  rw [dL_shifts_199, ey_ok, nx_iconst_11] <;> rfl
theorem qL_shifts_200 : ey F ini rt fin K0 K (decode cL_shifts 200) 200 L (st) h cs ss = (lhas L 12 ∧ isI (lgt L 12) ∧ K 202 L (lgt L 12 :: st) h cs ss) := by
  rw [dL_shifts_200, ey_ok, nx_iload_0] <;> rfl
theorem qL_shifts_202 : ey F ini rt fin K0 K (decode cL_shifts 202) 202 L (.int y :: .int x :: r) h cs ss = (K 203 L (.int (x + y) :: r) h cs ss) := by
  rw [dL_shifts_202, ey_ok, nx_iadd_16]
theorem qL_shifts_203 : ey F ini rt fin K0 K (decode cL_shifts 203) 203 L (st) h cs ss = (lhas L 14 ∧ isI (lgt L 14) ∧ K 205 L (lgt L 14 :: st) h cs ss) := by
  rw [dL_shifts_203, ey_ok, nx_iload_0] <;> rfl
theorem qL_shifts_205 : ey F ini rt fin K0 K (decode cL_shifts 205) 205 L (.int x :: .int i :: .ref a :: r) h cs ss = (isA (h.1 a) (fun k m => k = 0 ∧ vp_in i m) ∧ K 206 L r (h.1, hup h.2 a i.toNatClampNeg (.int x)) cs ss) := by
  rw [dL_shifts_205, ey_ok, nx_iastore_62]
theorem qL_shifts_206 : ey F ini rt fin K0 K (decode cL_shifts 206) 206 L (st) h cs ss = (lhas L 0 ∧ isRf (lgt L 0) ∧ K 207 L (lgt L 0 :: st) h cs ss) := by
  rw [dL_shifts_206, ey_ok, nx_aload_n_3] <;> rfl
theorem qL_shifts_207 : ey F ini rt fin K0 K (decode cL_shifts 207) 207 L (st) h cs ss = (K 208 L (.int 0 :: st) h cs ss) := by
  rw [dL_shifts_207, ey_ok, nx_iconst_11] <;> rfl
theorem qL_shifts_208 : ey F ini rt fin K0 K (decode cL_shifts 208) 208 L (st) h cs ss = (lhas L 12 ∧ isI (lgt L 12) ∧ K 210 L (lgt L 12 :: st) h cs ss) := by
  rw [dL_shifts_208, ey_ok, nx_iload_0] <;> rfl
theorem qL_shifts_210 : ey F ini rt fin K0 K (decode cL_shifts 210) 210 L (st) h cs ss = (lhas L 13 ∧ isI (lgt L 13) ∧ K 212 L (lgt L 13 :: st) h cs ss) := by
  rw [dL_shifts_210, ey_ok, nx_iload_0] <;> rfl
theorem qL_shifts_212 : ey F ini rt fin K0 K (decode cL_shifts 212) 212 L (st) h cs ss = (lhas L 14 ∧ isI (lgt L 14) ∧ K 214 L (lgt L 14 :: st) h cs ss) := by
  rw [dL_shifts_212, ey_ok, nx_iload_0] <;> rfl
theorem qL_shifts_214 : ey F ini rt fin K0 K (decode cL_shifts 214) 214 L (st) h cs ss = (K0 214 L st h cs ss) := by
  rw [dL_shifts_214, ey_ok, nx_invokestatic_73]
theorem qL_shifts_217 : ey F ini rt fin K0 K (decode cL_shifts 217) 217 L (st) h cs ss = (lhas L 15 ∧ isI (lgt L 15) ∧ K 219 L (lgt L 15 :: st) h cs ss) := by
  rw [dL_shifts_217, ey_ok, nx_iload_0] <;> rfl
theorem qL_shifts_219 : ey F ini rt fin K0 K (decode cL_shifts 219) 219 L (.int y :: .int x :: r) h cs ss = (if ¬ x = y then K 226 L r h cs ss else K 222 L r h cs ss) := by
  rw [dL_shifts_219, ey_ok, nx_if_icmp_37]
  exact and_l (by unfold jok; decide)
theorem qL_shifts_222 : ey F ini rt fin K0 K (decode cL_shifts 222) 222 L (st) h cs ss = (K 223 L (.int 1 :: st) h cs ss) := by
  rw [dL_shifts_222, ey_ok, nx_iconst_11] <;> rfl
theorem qL_shifts_223 : ey F ini rt fin K0 K (decode cL_shifts 223) 223 L (st) h cs ss = (K 227 L st h cs ss) := by
  rw [dL_shifts_223, ey_ok, nx_goto_29]
  exact and_l (by unfold jok; decide)
theorem qL_shifts_226 : ey F ini rt fin K0 K (decode cL_shifts 226) 226 L (st) h cs ss = (K 227 L (.int 0 :: st) h cs ss) := by
  rw [dL_shifts_226, ey_ok, nx_iconst_11] <;> rfl
theorem qL_shifts_227 : ey F ini rt fin K0 K (decode cL_shifts 227) 227 L ([.int x]) h cs ss = (rokI rt x ∧ fin (some (.int x)) h cs ss) := by
  rw [dL_shifts_227, ey_ok, nx_ireturn_68]
theorem qL_shifts_228 : ey F ini rt fin K0 K (decode cL_shifts 228) 228 L (st) h cs ss = (lhas L 1 ∧ isI (lgt L 1) ∧ K 229 L (lgt L 1 :: st) h cs ss) := by
  rw [dL_shifts_228, ey_ok, nx_iload_n_1] <;> rfl
theorem qL_shifts_229 : ey F ini rt fin K0 K (decode cL_shifts 229) 229 L (st) h cs ss = (K 230 L (.int 1 :: st) h cs ss) := by
  rw [dL_shifts_229, ey_ok, nx_iconst_11] <;> rfl
theorem qL_shifts_230 : ey F ini rt fin K0 K (decode cL_shifts 230) 230 L (.int y :: .int x :: r) h cs ss = (if ¬ x = y then K 497 L r h cs ss else K 233 L r h cs ss) := by
  rw [dL_shifts_230, ey_ok, nx_if_icmp_37]
  exact and_l (by unfold jok; decide)
theorem qL_shifts_233 : ey F ini rt fin K0 K (decode cL_shifts 233) 233 L (st) h cs ss = (lhas L 2 ∧ isI (lgt L 2) ∧ K 234 L (lgt L 2 :: st) h cs ss) := by
  rw [dL_shifts_233, ey_ok, nx_iload_n_1] <;> rfl
theorem qL_shifts_234 : ey F ini rt fin K0 K (decode cL_shifts 234) 234 L (st) h cs ss = (K 236 L (.int 60 :: st) h cs ss) := by
  rw [dL_shifts_234, ey_ok, nx_bipush_12] <;> rfl
theorem qL_shifts_236 : ey F ini rt fin K0 K (decode cL_shifts 236) 236 L (st) h cs ss = (K0 236 L st h cs ss) := by
  rw [dL_shifts_236, ey_ok, nx_invokestatic_73]
theorem qL_shifts_239 : ey F ini rt fin K0 K (decode cL_shifts 239) 239 L (.int x :: r) h cs ss = (if ¬ x = 0 then K 248 L r h cs ss else K 242 L r h cs ss) := by
  rw [dL_shifts_239, ey_ok, nx_ifond_31]
  exact and_l (by unfold jok; decide)
theorem qL_shifts_242 : ey F ini rt fin K0 K (decode cL_shifts 242) 242 L (st) h cs ss = (K 245 L (.int 2001 :: st) h cs ss) := by
  rw [dL_shifts_242, ey_ok, nx_sipush_13] <;> rfl
theorem qL_shifts_245 : ey F ini rt fin K0 K (decode cL_shifts 245) 245 L (st) h cs ss = (K 282 L st h cs ss) := by
  rw [dL_shifts_245, ey_ok, nx_goto_29]
  exact and_l (by unfold jok; decide)
theorem qL_shifts_248 : ey F ini rt fin K0 K (decode cL_shifts 248) 248 L (st) h cs ss = (lhas L 2 ∧ isI (lgt L 2) ∧ K 249 L (lgt L 2 :: st) h cs ss) := by
  rw [dL_shifts_248, ey_ok, nx_iload_n_1] <;> rfl
theorem qL_shifts_249 : ey F ini rt fin K0 K (decode cL_shifts 249) 249 L (st) h cs ss = (K 250 L (.int 3 :: st) h cs ss) := by
  rw [dL_shifts_249, ey_ok, nx_iconst_11] <;> rfl
theorem qL_shifts_250 : ey F ini rt fin K0 K (decode cL_shifts 250) 250 L (.int y :: .int x :: r) h cs ss = (K 251 L (.int (x >>> (y &&& 31)) :: r) h cs ss) := by
  rw [dL_shifts_250, ey_ok, nx_ishr_21]
theorem qL_shifts_251 : ey F ini rt fin K0 K (decode cL_shifts 251) 251 L (st) h cs ss = (K 252 L (.int 2 :: st) h cs ss) := by
  rw [dL_shifts_251, ey_ok, nx_iconst_11] <;> rfl
theorem qL_shifts_252 : ey F ini rt fin K0 K (decode cL_shifts 252) 252 L (st) h cs ss = (K0 252 L st h cs ss) := by
  rw [dL_shifts_252, ey_ok, nx_invokestatic_73]
theorem qL_shifts_255 : ey F ini rt fin K0 K (decode cL_shifts 255) 255 L (.int x :: r) h cs ss = (if ¬ x = 0 then K 273 L r h cs ss else K 258 L r h cs ss) := by
  rw [dL_shifts_255, ey_ok, nx_ifond_31]
  exact and_l (by unfold jok; decide)
theorem qL_shifts_258 : ey F ini rt fin K0 K (decode cL_shifts 258) 258 L (st) h cs ss = (lhas L 3 ∧ isRf (lgt L 3) ∧ K 259 L (lgt L 3 :: st) h cs ss) := by
  rw [dL_shifts_258, ey_ok, nx_aload_n_3] <;> rfl
theorem qL_shifts_259 : ey F ini rt fin K0 K (decode cL_shifts 259) 259 L (st) h cs ss = (K 260 L (.int 0 :: st) h cs ss) := by
  rw [dL_shifts_259, ey_ok, nx_iconst_11] <;> rfl
theorem qL_shifts_260 : ey F ini rt fin K0 K (decode cL_shifts 260) 260 L (.int i :: .ref a :: r) h cs ss = (isA (h.1 a) (fun k m => k = 0 ∧ vp_in i m) ∧ K 261 L (h.2 a i.toNatClampNeg :: r) h cs ss) := by
  rw [dL_shifts_260, ey_ok, nx_iaload_57]
theorem qL_shifts_261 : ey F ini rt fin K0 K (decode cL_shifts 261) 261 L (st) h cs ss = (lhas L 2 ∧ isI (lgt L 2) ∧ K 262 L (lgt L 2 :: st) h cs ss) := by
  rw [dL_shifts_261, ey_ok, nx_iload_n_1] <;> rfl
theorem qL_shifts_262 : ey F ini rt fin K0 K (decode cL_shifts 262) 262 L (st) h cs ss = (K 263 L (.int 4 :: st) h cs ss) := by
  rw [dL_shifts_262, ey_ok, nx_iconst_11] <;> rfl
theorem qL_shifts_263 : ey F ini rt fin K0 K (decode cL_shifts 263) 263 L (.int y :: .int x :: r) h cs ss = (K 264 L (.int (x >>> (y &&& 31)) :: r) h cs ss) := by
  rw [dL_shifts_263, ey_ok, nx_ishr_21]
theorem qL_shifts_264 : ey F ini rt fin K0 K (decode cL_shifts 264) 264 L (st) h cs ss = (K 266 L (.int 60 :: st) h cs ss) := by
  rw [dL_shifts_264, ey_ok, nx_bipush_12] <;> rfl
theorem qL_shifts_266 : ey F ini rt fin K0 K (decode cL_shifts 266) 266 L (st) h cs ss = (K0 266 L st h cs ss) := by
  rw [dL_shifts_266, ey_ok, nx_invokestatic_73]
theorem qL_shifts_269 : ey F ini rt fin K0 K (decode cL_shifts 269) 269 L (.int y :: .int x :: r) h cs ss = (K 270 L (.int (x + y) :: r) h cs ss) := by
  rw [dL_shifts_269, ey_ok, nx_iadd_16]
theorem qL_shifts_270 : ey F ini rt fin K0 K (decode cL_shifts 270) 270 L (st) h cs ss = (K 282 L st h cs ss) := by
  rw [dL_shifts_270, ey_ok, nx_goto_29]
  exact and_l (by unfold jok; decide)
theorem qL_shifts_273 : ey F ini rt fin K0 K (decode cL_shifts 273) 273 L (st) h cs ss = (lhas L 2 ∧ isI (lgt L 2) ∧ K 274 L (lgt L 2 :: st) h cs ss) := by
  rw [dL_shifts_273, ey_ok, nx_iload_n_1] <;> rfl
theorem qL_shifts_274 : ey F ini rt fin K0 K (decode cL_shifts 274) 274 L (st) h cs ss = (K 275 L (.int 4 :: st) h cs ss) := by
  rw [dL_shifts_274, ey_ok, nx_iconst_11] <;> rfl
theorem qL_shifts_275 : ey F ini rt fin K0 K (decode cL_shifts 275) 275 L (.int y :: .int x :: r) h cs ss = (K 276 L (.int (x >>> (y &&& 31)) :: r) h cs ss) := by
  rw [dL_shifts_275, ey_ok, nx_ishr_21]
theorem qL_shifts_276 : ey F ini rt fin K0 K (decode cL_shifts 276) 276 L (st) h cs ss = (K 279 L (.int 300 :: st) h cs ss) := by
  rw [dL_shifts_276, ey_ok, nx_sipush_13] <;> rfl
theorem qL_shifts_279 : ey F ini rt fin K0 K (decode cL_shifts 279) 279 L (st) h cs ss = (K0 279 L st h cs ss) := by
  rw [dL_shifts_279, ey_ok, nx_invokestatic_73]
theorem qL_shifts_282 : ey F ini rt fin K0 K (decode cL_shifts 282) 282 L (.int x :: r) h cs ss = (12 < L.length ∧ K 284 (L.set 12 (some (.int x))) r h cs ss) := by
  rw [dL_shifts_282, ey_ok, nx_istore_4] <;> rfl
theorem qL_shifts_284 : ey F ini rt fin K0 K (decode cL_shifts 284) 284 L (st) h cs ss = (lhas L 2 ∧ isI (lgt L 2) ∧ K 285 L (lgt L 2 :: st) h cs ss) := by
  rw [dL_shifts_284, ey_ok, nx_iload_n_1] <;> rfl
theorem qL_shifts_285 : ey F ini rt fin K0 K (decode cL_shifts 285) 285 L (st) h cs ss = (K 286 L (.int 5 :: st) h cs ss) := by
  rw [dL_shifts_285, ey_ok, nx_iconst_11] <;> rfl
theorem qL_shifts_286 : ey F ini rt fin K0 K (decode cL_shifts 286) 286 L (.int y :: .int x :: r) h cs ss = (K 287 L (.int (x >>> (y &&& 31)) :: r) h cs ss) := by
  rw [dL_shifts_286, ey_ok, nx_ishr_21]
theorem qL_shifts_287 : ey F ini rt fin K0 K (decode cL_shifts 287) 287 L (st) h cs ss = (K 289 L (.int 60 :: st) h cs ss) := by
  rw [dL_shifts_287, ey_ok, nx_bipush_12] <;> rfl
theorem qL_shifts_289 : ey F ini rt fin K0 K (decode cL_shifts 289) 289 L (st) h cs ss = (K0 289 L st h cs ss) := by
  rw [dL_shifts_289, ey_ok, nx_invokestatic_73]
theorem qL_shifts_292 : ey F ini rt fin K0 K (decode cL_shifts 292) 292 L (.int x :: r) h cs ss = (if ¬ x = 0 then K 300 L r h cs ss else K 295 L r h cs ss) := by
  rw [dL_shifts_292, ey_ok, nx_ifond_31]
  exact and_l (by unfold jok; decide)
theorem qL_shifts_295 : ey F ini rt fin K0 K (decode cL_shifts 295) 295 L (st) h cs ss = (K 297 L (.int 17 :: st) h cs ss) := by
  rw [dL_shifts_295, ey_ok, nx_bipush_12] <;> rfl
theorem qL_shifts_297 : ey F ini rt fin K0 K (decode cL_shifts 297) 297 L (st) h cs ss = (K 310 L st h cs ss) := by
  rw [dL_shifts_297, ey_ok, nx_goto_29]
  exact and_l (by unfold jok; decide)
theorem qL_shifts_300 : ey F ini rt fin K0 K (decode cL_shifts 300) 300 L (st) h cs ss = (K 301 L (.int 1 :: st) h cs ss) := by
  rw [dL_shifts_300, ey_ok, nx_iconst_11] <;> rfl
theorem qL_shifts_301 : ey F ini rt fin K0 K (decode cL_shifts 301) 301 L (st) h cs ss = (lhas L 2 ∧ isI (lgt L 2) ∧ K 302 L (lgt L 2 :: st) h cs ss) := by
  rw [dL_shifts_301, ey_ok, nx_iload_n_1] <;> rfl
theorem qL_shifts_302 : ey F ini rt fin K0 K (decode cL_shifts 302) 302 L (st) h cs ss = (K 303 L (.int 5 :: st) h cs ss) := by
  rw [dL_shifts_302, ey_ok, nx_iconst_11] <;> rfl
theorem qL_shifts_303 : ey F ini rt fin K0 K (decode cL_shifts 303) 303 L (.int y :: .int x :: r) h cs ss = (K 304 L (.int (x >>> (y &&& 31)) :: r) h cs ss) := by
  rw [dL_shifts_303, ey_ok, nx_ishr_21]
theorem qL_shifts_304 : ey F ini rt fin K0 K (decode cL_shifts 304) 304 L (st) h cs ss = (K 306 L (.int 12 :: st) h cs ss) := by
  rw [dL_shifts_304, ey_ok, nx_bipush_12] <;> rfl
theorem qL_shifts_306 : ey F ini rt fin K0 K (decode cL_shifts 306) 306 L (st) h cs ss = (K0 306 L st h cs ss) := by
  rw [dL_shifts_306, ey_ok, nx_invokestatic_73]
theorem qL_shifts_309 : ey F ini rt fin K0 K (decode cL_shifts 309) 309 L (.int y :: .int x :: r) h cs ss = (K 310 L (.int (x + y) :: r) h cs ss) := by
  rw [dL_shifts_309, ey_ok, nx_iadd_16]
theorem qL_shifts_310 : ey F ini rt fin K0 K (decode cL_shifts 310) 310 L (.int x :: r) h cs ss = (13 < L.length ∧ K 312 (L.set 13 (some (.int x))) r h cs ss) := by
  rw [dL_shifts_310, ey_ok, nx_istore_4] <;> rfl
theorem qL_shifts_312 : ey F ini rt fin K0 K (decode cL_shifts 312) 312 L (st) h cs ss = (lhas L 2 ∧ isI (lgt L 2) ∧ K 313 L (lgt L 2 :: st) h cs ss) := by
  rw [dL_shifts_312, ey_ok, nx_iload_n_1] <;> rfl
theorem qL_shifts_313 : ey F ini rt fin K0 K (decode cL_shifts 313) 313 L (st) h cs ss = (K 315 L (.int 7 :: st) h cs ss) := by
  rw [dL_shifts_313, ey_ok, nx_bipush_12] <;> rfl
theorem qL_shifts_315 : ey F ini rt fin K0 K (decode cL_shifts 315) 315 L (.int y :: .int x :: r) h cs ss = (K 316 L (.int (x >>> (y &&& 31)) :: r) h cs ss) := by
  rw [dL_shifts_315, ey_ok, nx_ishr_21]
theorem qL_shifts_316 : ey F ini rt fin K0 K (decode cL_shifts 316) 316 L (st) h cs ss = (K 318 L (.int 60 :: st) h cs ss) := by
  rw [dL_shifts_316, ey_ok, nx_bipush_12] <;> rfl
theorem qL_shifts_318 : ey F ini rt fin K0 K (decode cL_shifts 318) 318 L (st) h cs ss = (K0 318 L st h cs ss) := by
  rw [dL_shifts_318, ey_ok, nx_invokestatic_73]
theorem qL_shifts_321 : ey F ini rt fin K0 K (decode cL_shifts 321) 321 L (.int x :: r) h cs ss = (if ¬ x = 0 then K 328 L r h cs ss else K 324 L r h cs ss) := by
  rw [dL_shifts_321, ey_ok, nx_ifond_31]
  exact and_l (by unfold jok; decide)
theorem qL_shifts_324 : ey F ini rt fin K0 K (decode cL_shifts 324) 324 L (st) h cs ss = (K 325 L (.int 4 :: st) h cs ss) := by
  rw [dL_shifts_324, ey_ok, nx_iconst_11] <;> rfl
theorem qL_shifts_325 : ey F ini rt fin K0 K (decode cL_shifts 325) 325 L (st) h cs ss = (K 336 L st h cs ss) := by
  rw [dL_shifts_325, ey_ok, nx_goto_29]
  exact and_l (by unfold jok; decide)
theorem qL_shifts_328 : ey F ini rt fin K0 K (decode cL_shifts 328) 328 L (st) h cs ss = (lhas L 2 ∧ isI (lgt L 2) ∧ K 329 L (lgt L 2 :: st) h cs ss) := by
  rw [dL_shifts_328, ey_ok, nx_iload_n_1] <;> rfl
theorem qL_shifts_329 : ey F ini rt fin K0 K (decode cL_shifts 329) 329 L (st) h cs ss = (K 331 L (.int 7 :: st) h cs ss) := by
  rw [dL_shifts_329, ey_ok, nx_bipush_12] <;> rfl
theorem qL_shifts_331 : ey F ini rt fin K0 K (decode cL_shifts 331) 331 L (.int y :: .int x :: r) h cs ss = (K 332 L (.int (x >>> (y &&& 31)) :: r) h cs ss) := by
  rw [dL_shifts_331, ey_ok, nx_ishr_21]
theorem qL_shifts_332 : ey F ini rt fin K0 K (decode cL_shifts 332) 332 L (st) h cs ss = (K 333 L (.int 4 :: st) h cs ss) := by
  rw [dL_shifts_332, ey_ok, nx_iconst_11] <;> rfl
theorem qL_shifts_333 : ey F ini rt fin K0 K (decode cL_shifts 333) 333 L (st) h cs ss = (K0 333 L st h cs ss) := by
  rw [dL_shifts_333, ey_ok, nx_invokestatic_73]
theorem qL_shifts_336 : ey F ini rt fin K0 K (decode cL_shifts 336) 336 L (.int x :: r) h cs ss = (14 < L.length ∧ K 338 (L.set 14 (some (.int x))) r h cs ss) := by
  rw [dL_shifts_336, ey_ok, nx_istore_4] <;> rfl
theorem qL_shifts_338 : ey F ini rt fin K0 K (decode cL_shifts 338) 338 L (st) h cs ss = (lhas L 12 ∧ isI (lgt L 12) ∧ K 340 L (lgt L 12 :: st) h cs ss) := by
  rw [dL_shifts_338, ey_ok, nx_iload_0] <;> rfl
theorem qL_shifts_340 : ey F ini rt fin K0 K (decode cL_shifts 340) 340 L (st) h cs ss = (K 343 L (.int 2001 :: st) h cs ss) := by
  rw [dL_shifts_340, ey_ok, nx_sipush_13] <;> rfl
theorem qL_shifts_343 : ey F ini rt fin K0 K (decode cL_shifts 343) 343 L (.int y :: .int x :: r) h cs ss = (if y ≤ x then K 363 L r h cs ss else K 346 L r h cs ss) := by
  rw [dL_shifts_343, ey_ok, nx_if_icmp_39]
  exact and_l (by unfold jok; decide)
theorem qL_shifts_346 : ey F ini rt fin K0 K (decode cL_shifts 346) 346 L (st) h cs ss = (lhas L 13 ∧ isI (lgt L 13) ∧ K 348 L (lgt L 13 :: st) h cs ss) := by
  rw [dL_shifts_346, ey_ok, nx_iload_0] <;> rfl
theorem qL_shifts_348 : ey F ini rt fin K0 K (decode cL_shifts 348) 348 L (st) h cs ss = (K 350 L (.int 17 :: st) h cs ss) := by
  rw [dL_shifts_348, ey_ok, nx_bipush_12] <;> rfl
theorem qL_shifts_350 : ey F ini rt fin K0 K (decode cL_shifts 350) 350 L (.int y :: .int x :: r) h cs ss = (if y ≤ x then K 363 L r h cs ss else K 353 L r h cs ss) := by
  rw [dL_shifts_350, ey_ok, nx_if_icmp_39]
  exact and_l (by unfold jok; decide)
theorem qL_shifts_353 : ey F ini rt fin K0 K (decode cL_shifts 353) 353 L (st) h cs ss = (lhas L 14 ∧ isI (lgt L 14) ∧ K 355 L (lgt L 14 :: st) h cs ss) := by
  rw [dL_shifts_353, ey_ok, nx_iload_0] <;> rfl
theorem qL_shifts_355 : ey F ini rt fin K0 K (decode cL_shifts 355) 355 L (st) h cs ss = (K 356 L (.int 4 :: st) h cs ss) := by
  rw [dL_shifts_355, ey_ok, nx_iconst_11] <;> rfl
theorem qL_shifts_356 : ey F ini rt fin K0 K (decode cL_shifts 356) 356 L (.int y :: .int x :: r) h cs ss = (if y ≤ x then K 363 L r h cs ss else K 359 L r h cs ss) := by
  rw [dL_shifts_356, ey_ok, nx_if_icmp_39]
  exact and_l (by unfold jok; decide)
theorem qL_shifts_359 : ey F ini rt fin K0 K (decode cL_shifts 359) 359 L (st) h cs ss = (K 360 L (.int 1 :: st) h cs ss) := by
  rw [dL_shifts_359, ey_ok, nx_iconst_11] <;> rfl
theorem qL_shifts_360 : ey F ini rt fin K0 K (decode cL_shifts 360) 360 L (st) h cs ss = (K 364 L st h cs ss) := by
  rw [dL_shifts_360, ey_ok, nx_goto_29]
  exact and_l (by unfold jok; decide)
theorem qL_shifts_363 : ey F ini rt fin K0 K (decode cL_shifts 363) 363 L (st) h cs ss = (K 364 L (.int 0 :: st) h cs ss) := by
  rw [dL_shifts_363, ey_ok, nx_iconst_11] <;> rfl
theorem qL_shifts_364 : ey F ini rt fin K0 K (decode cL_shifts 364) 364 L (.int x :: r) h cs ss = (15 < L.length ∧ K 366 (L.set 15 (some (.int x))) r h cs ss) := by
  rw [dL_shifts_364, ey_ok, nx_istore_4] <;> rfl
theorem qL_shifts_366 : ey F ini rt fin K0 K (decode cL_shifts 366) 366 L (st) h cs ss = (lhas L 15 ∧ isI (lgt L 15) ∧ K 368 L (lgt L 15 :: st) h cs ss) := by
  rw [dL_shifts_366, ey_ok, nx_iload_0] <;> rfl
theorem qL_shifts_368 : ey F ini rt fin K0 K (decode cL_shifts 368) 368 L (.int x :: r) h cs ss = (if x = 0 then K 381 L r h cs ss else K 371 L r h cs ss) := by
  rw [dL_shifts_368, ey_ok, nx_ifond_30]
  exact and_l (by unfold jok; decide)
theorem qL_shifts_371 : ey F ini rt fin K0 K (decode cL_shifts 371) 371 L (st) h cs ss = (lhas L 3 ∧ isRf (lgt L 3) ∧ K 372 L (lgt L 3 :: st) h cs ss) := by
  rw [dL_shifts_371, ey_ok, nx_aload_n_3] <;> rfl
theorem qL_shifts_372 : ey F ini rt fin K0 K (decode cL_shifts 372) 372 L (st) h cs ss = (K 373 L (.int 1 :: st) h cs ss) := by
  rw [dL_shifts_372, ey_ok, nx_iconst_11] <;> rfl
theorem qL_shifts_373 : ey F ini rt fin K0 K (decode cL_shifts 373) 373 L (.int i :: .ref a :: r) h cs ss = (isA (h.1 a) (fun k m => k = 0 ∧ vp_in i m) ∧ K 374 L (h.2 a i.toNatClampNeg :: r) h cs ss) := by
  rw [dL_shifts_373, ey_ok, nx_iaload_57]
theorem qL_shifts_374 : ey F ini rt fin K0 K (decode cL_shifts 374) 374 L (st) h cs ss = (K 376 L (.int 10 :: st) h cs ss) := by
  rw [dL_shifts_374, ey_ok, nx_bipush_12] <;> rfl
theorem qL_shifts_376 : ey F ini rt fin K0 K (decode cL_shifts 376) 376 L (.int y :: .int x :: r) h cs ss = (if ¬ x = y then K 381 L r h cs ss else K 379 L r h cs ss) := by
  rw [dL_shifts_376, ey_ok, nx_if_icmp_37]
  exact and_l (by unfold jok; decide)
theorem qL_shifts_379 : ey F ini rt fin K0 K (decode cL_shifts 379) 379 L (st) h cs ss = (K 380 L (.int 1 :: st) h cs ss) := by
  rw [dL_shifts_379, ey_ok, nx_iconst_11] <;> rfl
theorem qL_shifts_380 : ey F ini rt fin K0 K (decode cL_shifts 380) 380 L ([.int x]) h cs ss = (rokI rt x ∧ fin (some (.int x)) h cs ss) := by
  rw [dL_shifts_380, ey_ok, nx_ireturn_68]
theorem qL_shifts_381 : ey F ini rt fin K0 K (decode cL_shifts 381) 381 L (st) h cs ss = (lhas L 15 ∧ isI (lgt L 15) ∧ K 383 L (lgt L 15 :: st) h cs ss) := by
  rw [dL_shifts_381, ey_ok, nx_iload_0] <;> rfl
theorem qL_shifts_383 : ey F ini rt fin K0 K (decode cL_shifts 383) 383 L (.int x :: r) h cs ss = (if x = 0 then K 461 L r h cs ss else K 386 L r h cs ss) := by
  rw [dL_shifts_383, ey_ok, nx_ifond_30]
  exact and_l (by unfold jok; decide)
theorem qL_shifts_386 : ey F ini rt fin K0 K (decode cL_shifts 386) 386 L (st) h cs ss = (lhas L 5 ∧ isRf (lgt L 5) ∧ K 388 L (lgt L 5 :: st) h cs ss) := by
  rw [dL_shifts_386, ey_ok, nx_aload_2] <;> rfl
theorem qL_shifts_388 : ey F ini rt fin K0 K (decode cL_shifts 388) 388 L (st) h cs ss = (lhas L 3 ∧ isRf (lgt L 3) ∧ K 389 L (lgt L 3 :: st) h cs ss) := by
  rw [dL_shifts_388, ey_ok, nx_aload_n_3] <;> rfl
theorem qL_shifts_389 : ey F ini rt fin K0 K (decode cL_shifts 389) 389 L (st) h cs ss = (K 390 L (.int 1 :: st) h cs ss) := by
  rw [dL_shifts_389, ey_ok, nx_iconst_11] <;> rfl
theorem qL_shifts_390 : ey F ini rt fin K0 K (decode cL_shifts 390) 390 L (.int i :: .ref a :: r) h cs ss = (isA (h.1 a) (fun k m => k = 0 ∧ vp_in i m) ∧ K 391 L (h.2 a i.toNatClampNeg :: r) h cs ss) := by
  rw [dL_shifts_390, ey_ok, nx_iaload_57]
theorem qL_shifts_391 : ey F ini rt fin K0 K (decode cL_shifts 391) 391 L (st) h cs ss = (lhas L 12 ∧ isI (lgt L 12) ∧ K 393 L (lgt L 12 :: st) h cs ss) := by
  rw [dL_shifts_391, ey_ok, nx_iload_0] <;> rfl
theorem qL_shifts_393 : ey F ini rt fin K0 K (decode cL_shifts 393) 393 L (.int x :: .int i :: .ref a :: r) h cs ss = (isA (h.1 a) (fun k m => k = 0 ∧ vp_in i m) ∧ K 394 L r (h.1, hup h.2 a i.toNatClampNeg (.int x)) cs ss) := by
  rw [dL_shifts_393, ey_ok, nx_iastore_62]
theorem qL_shifts_394 : ey F ini rt fin K0 K (decode cL_shifts 394) 394 L (st) h cs ss = (lhas L 5 ∧ isRf (lgt L 5) ∧ K 396 L (lgt L 5 :: st) h cs ss) := by
  rw [dL_shifts_394, ey_ok, nx_aload_2] <;> rfl
theorem qL_shifts_396 : ey F ini rt fin K0 K (decode cL_shifts 396) 396 L (st) h cs ss = (K 398 L (.int 10 :: st) h cs ss) := by
  rw [dL_shifts_396, ey_ok, nx_bipush_12] <;> rfl
theorem qL_shifts_398 : ey F ini rt fin K0 K (decode cL_shifts 398) 398 L (st) h cs ss = (lhas L 3 ∧ isRf (lgt L 3) ∧ K 399 L (lgt L 3 :: st) h cs ss) := by
  rw [dL_shifts_398, ey_ok, nx_aload_n_3] <;> rfl
theorem qL_shifts_399 : ey F ini rt fin K0 K (decode cL_shifts 399) 399 L (st) h cs ss = (K 400 L (.int 1 :: st) h cs ss) := by
  rw [dL_shifts_399, ey_ok, nx_iconst_11] <;> rfl
theorem qL_shifts_400 : ey F ini rt fin K0 K (decode cL_shifts 400) 400 L (.int i :: .ref a :: r) h cs ss = (isA (h.1 a) (fun k m => k = 0 ∧ vp_in i m) ∧ K 401 L (h.2 a i.toNatClampNeg :: r) h cs ss) := by
  rw [dL_shifts_400, ey_ok, nx_iaload_57]
theorem qL_shifts_401 : ey F ini rt fin K0 K (decode cL_shifts 401) 401 L (.int y :: .int x :: r) h cs ss = (K 402 L (.int (x + y) :: r) h cs ss) := by
  rw [dL_shifts_401, ey_ok, nx_iadd_16]
theorem qL_shifts_402 : ey F ini rt fin K0 K (decode cL_shifts 402) 402 L (st) h cs ss = (lhas L 12 ∧ isI (lgt L 12) ∧ K 404 L (lgt L 12 :: st) h cs ss) := by
  rw [dL_shifts_402, ey_ok, nx_iload_0] <;> rfl
theorem qL_shifts_404 : ey F ini rt fin K0 K (decode cL_shifts 404) 404 L (st) h cs ss = (lhas L 13 ∧ isI (lgt L 13) ∧ K 406 L (lgt L 13 :: st) h cs ss) := by
  rw [dL_shifts_404, ey_ok, nx_iload_0] <;> rfl
theorem qL_shifts_406 : ey F ini rt fin K0 K (decode cL_shifts 406) 406 L (.int y :: .int x :: r) h cs ss = (K 407 L (.int (x + y) :: r) h cs ss) := by
  rw [dL_shifts_406, ey_ok, nx_iadd_16]
theorem qL_shifts_407 : ey F ini rt fin K0 K (decode cL_shifts 407) 407 L (.int x :: .int i :: .ref a :: r) h cs ss = (isA (h.1 a) (fun k m => k = 0 ∧ vp_in i m) ∧ K 408 L r (h.1, hup h.2 a i.toNatClampNeg (.int x)) cs ss) := by
  rw [dL_shifts_407, ey_ok, nx_iastore_62]
theorem qL_shifts_408 : ey F ini rt fin K0 K (decode cL_shifts 408) 408 L (st) h cs ss = (lhas L 5 ∧ isRf (lgt L 5) ∧ K 410 L (lgt L 5 :: st) h cs ss) := by
  rw [dL_shifts_408, ey_ok, nx_aload_2] <;> rfl
theorem qL_shifts_410 : ey F ini rt fin K0 K (decode cL_shifts 410) 410 L (st) h cs ss = (K 412 L (.int 20 :: st) h cs ss) := by
  rw [dL_shifts_410, ey_ok, nx_bipush_12] <;> rfl
theorem qL_shifts_412 : ey F ini rt fin K0 K (decode cL_shifts 412) 412 L (st) h cs ss = (lhas L 3 ∧ isRf (lgt L 3) ∧ K 413 L (lgt L 3 :: st) h cs ss) := by
  rw [dL_shifts_412, ey_ok, nx_aload_n_3] <;> rfl
theorem qL_shifts_413 : ey F ini rt fin K0 K (decode cL_shifts 413) 413 L (st) h cs ss = (K 414 L (.int 1 :: st) h cs ss) := by
  rw [dL_shifts_413, ey_ok, nx_iconst_11] <;> rfl
theorem qL_shifts_414 : ey F ini rt fin K0 K (decode cL_shifts 414) 414 L (.int i :: .ref a :: r) h cs ss = (isA (h.1 a) (fun k m => k = 0 ∧ vp_in i m) ∧ K 415 L (h.2 a i.toNatClampNeg :: r) h cs ss) := by
  rw [dL_shifts_414, ey_ok, nx_iaload_57]
theorem qL_shifts_415 : ey F ini rt fin K0 K (decode cL_shifts 415) 415 L (.int y :: .int x :: r) h cs ss = (K 416 L (.int (x + y) :: r) h cs ss) := by
  rw [dL_shifts_415, ey_ok, nx_iadd_16]
theorem qL_shifts_416 : ey F ini rt fin K0 K (decode cL_shifts 416) 416 L (st) h cs ss = (lhas L 14 ∧ isI (lgt L 14) ∧ K 418 L (lgt L 14 :: st) h cs ss) := by
  rw [dL_shifts_416, ey_ok, nx_iload_0] <;> rfl
theorem qL_shifts_418 : ey F ini rt fin K0 K (decode cL_shifts 418) 418 L (.int x :: .int i :: .ref a :: r) h cs ss = (isA (h.1 a) (fun k m => k = 0 ∧ vp_in i m) ∧ K 419 L r (h.1, hup h.2 a i.toNatClampNeg (.int x)) cs ss) := by
  rw [dL_shifts_418, ey_ok, nx_iastore_62]
theorem qL_shifts_419 : ey F ini rt fin K0 K (decode cL_shifts 419) 419 L (st) h cs ss = (lhas L 5 ∧ isRf (lgt L 5) ∧ K 421 L (lgt L 5 :: st) h cs ss) := by
  rw [dL_shifts_419, ey_ok, nx_aload_2] <;> rfl
theorem qL_shifts_421 : ey F ini rt fin K0 K (decode cL_shifts 421) 421 L (st) h cs ss = (K 423 L (.int 30 :: st) h cs ss) := by
  rw [dL_shifts_421, ey_ok, nx_bipush_12] <;> rfl
theorem qL_shifts_423 : ey F ini rt fin K0 K (decode cL_shifts 423) 423 L (st) h cs ss = (lhas L 3 ∧ isRf (lgt L 3) ∧ K 424 L (lgt L 3 :: st) h cs ss) := by
  rw [dL_shifts_423, ey_ok, nx_aload_n_3] <;> rfl
theorem qL_shifts_424 : ey F ini rt fin K0 K (decode cL_shifts 424) 424 L (st) h cs ss = (K 425 L (.int 1 :: st) h cs ss) := by
  rw [dL_shifts_424, ey_ok, nx_iconst_11] <;> rfl
theorem qL_shifts_425 : ey F ini rt fin K0 K (decode cL_shifts 425) 425 L (.int i :: .ref a :: r) h cs ss = (isA (h.1 a) (fun k m => k = 0 ∧ vp_in i m) ∧ K 426 L (h.2 a i.toNatClampNeg :: r) h cs ss) := by
  rw [dL_shifts_425, ey_ok, nx_iaload_57]
theorem qL_shifts_426 : ey F ini rt fin K0 K (decode cL_shifts 426) 426 L (.int y :: .int x :: r) h cs ss = (K 427 L (.int (x + y) :: r) h cs ss) := by
  rw [dL_shifts_426, ey_ok, nx_iadd_16]
theorem qL_shifts_427 : ey F ini rt fin K0 K (decode cL_shifts 427) 427 L (st) h cs ss = (K 428 L (.int (-1) :: st) h cs ss) := by
  rw [dL_shifts_427, ey_ok, nx_iconst_11] <;> rfl
theorem qL_shifts_428 : ey F ini rt fin K0 K (decode cL_shifts 428) 428 L (.int x :: .int i :: .ref a :: r) h cs ss = (isA (h.1 a) (fun k m => k = 0 ∧ vp_in i m) ∧ K 429 L r (h.1, hup h.2 a i.toNatClampNeg (.int x)) cs ss) := by
  rw [dL_shifts_428, ey_ok, nx_iastore_62]
theorem qL_shifts_429 : ey F ini rt fin K0 K (decode cL_shifts 429) 429 L (st) h cs ss = (lhas L 5 ∧ isRf (lgt L 5) ∧ K 431 L (lgt L 5 :: st) h cs ss) := by
  rw [dL_shifts_429, ey_ok, nx_aload_2] <;> rfl
theorem qL_shifts_431 : ey F ini rt fin K0 K (decode cL_shifts 431) 431 L (st) h cs ss = (K 433 L (.int 40 :: st) h cs ss) := by
  rw [dL_shifts_431, ey_ok, nx_bipush_12] <;> rfl
theorem qL_shifts_433 : ey F ini rt fin K0 K (decode cL_shifts 433) 433 L (st) h cs ss = (lhas L 3 ∧ isRf (lgt L 3) ∧ K 434 L (lgt L 3 :: st) h cs ss) := by
  rw [dL_shifts_433, ey_ok, nx_aload_n_3] <;> rfl
theorem qL_shifts_434 : ey F ini rt fin K0 K (decode cL_shifts 434) 434 L (st) h cs ss = (K 435 L (.int 1 :: st) h cs ss) := by
  rw [dL_shifts_434, ey_ok, nx_iconst_11] <;> rfl
theorem qL_shifts_435 : ey F ini rt fin K0 K (decode cL_shifts 435) 435 L (.int i :: .ref a :: r) h cs ss = (isA (h.1 a) (fun k m => k = 0 ∧ vp_in i m) ∧ K 436 L (h.2 a i.toNatClampNeg :: r) h cs ss) := by
  rw [dL_shifts_435, ey_ok, nx_iaload_57]
theorem qL_shifts_436 : ey F ini rt fin K0 K (decode cL_shifts 436) 436 L (.int y :: .int x :: r) h cs ss = (K 437 L (.int (x + y) :: r) h cs ss) := by
  rw [dL_shifts_436, ey_ok, nx_iadd_16]
theorem qL_shifts_437 : ey F ini rt fin K0 K (decode cL_shifts 437) 437 L (st) h cs ss = (lhas L 12 ∧ isI (lgt L 12) ∧ K 439 L (lgt L 12 :: st) h cs ss) := by
  rw [dL_shifts_437, ey_ok, nx_iload_0] <;> rfl
theorem qL_shifts_439 : ey F ini rt fin K0 K (decode cL_shifts 439) 439 L (.int x :: .int i :: .ref a :: r) h cs ss = (isA (h.1 a) (fun k m => k = 0 ∧ vp_in i m) ∧ K 440 L r (h.1, hup h.2 a i.toNatClampNeg (.int x)) cs ss) := by
  rw [dL_shifts_439, ey_ok, nx_iastore_62]
theorem qL_shifts_440 : ey F ini rt fin K0 K (decode cL_shifts 440) 440 L (st) h cs ss = (lhas L 5 ∧ isRf (lgt L 5) ∧ K 442 L (lgt L 5 :: st) h cs ss) := by
  rw [dL_shifts_440, ey_ok, nx_aload_2] <;> rfl
theorem qL_shifts_442 : ey F ini rt fin K0 K (decode cL_shifts 442) 442 L (st) h cs ss = (K 444 L (.int 50 :: st) h cs ss) := by
  rw [dL_shifts_442, ey_ok, nx_bipush_12] <;> rfl
theorem qL_shifts_444 : ey F ini rt fin K0 K (decode cL_shifts 444) 444 L (st) h cs ss = (lhas L 3 ∧ isRf (lgt L 3) ∧ K 445 L (lgt L 3 :: st) h cs ss) := by
  rw [dL_shifts_444, ey_ok, nx_aload_n_3] <;> rfl
theorem qL_shifts_445 : ey F ini rt fin K0 K (decode cL_shifts 445) 445 L (st) h cs ss = (K 446 L (.int 1 :: st) h cs ss) := by
  rw [dL_shifts_445, ey_ok, nx_iconst_11] <;> rfl
theorem qL_shifts_446 : ey F ini rt fin K0 K (decode cL_shifts 446) 446 L (.int i :: .ref a :: r) h cs ss = (isA (h.1 a) (fun k m => k = 0 ∧ vp_in i m) ∧ K 447 L (h.2 a i.toNatClampNeg :: r) h cs ss) := by
  rw [dL_shifts_446, ey_ok, nx_iaload_57]
theorem qL_shifts_447 : ey F ini rt fin K0 K (decode cL_shifts 447) 447 L (.int y :: .int x :: r) h cs ss = (K 448 L (.int (x + y) :: r) h cs ss) := by
  rw [dL_shifts_447, ey_ok, nx_iadd_16]
theorem qL_shifts_448 : ey F ini rt fin K0 K (decode cL_shifts 448) 448 L (st) h cs ss = (lhas L 12 ∧ isI (lgt L 12) ∧ K 450 L (lgt L 12 :: st) h cs ss) := by
  rw [dL_shifts_448, ey_ok, nx_iload_0] <;> rfl
theorem qL_shifts_450 : ey F ini rt fin K0 K (decode cL_shifts 450) 450 L (st) h cs ss = (lhas L 13 ∧ isI (lgt L 13) ∧ K 452 L (lgt L 13 :: st) h cs ss) := by
  rw [dL_shifts_450, ey_ok, nx_iload_0] <;> rfl
theorem qL_shifts_452 : ey F ini rt fin K0 K (decode cL_shifts 452) 452 L (.int y :: .int x :: r) h cs ss = (K 453 L (.int (x + y) :: r) h cs ss) := by
  rw [dL_shifts_452, ey_ok, nx_iadd_16]
theorem qL_shifts_453 : ey F ini rt fin K0 K (decode cL_shifts 453) 453 L (.int x :: .int i :: .ref a :: r) h cs ss = (isA (h.1 a) (fun k m => k = 0 ∧ vp_in i m) ∧ K 454 L r (h.1, hup h.2 a i.toNatClampNeg (.int x)) cs ss) := by
  rw [dL_shifts_453, ey_ok, nx_iastore_62]
theorem qL_shifts_454 : ey F ini rt fin K0 K (decode cL_shifts 454) 454 L (st) h cs ss = (lhas L 3 ∧ isRf (lgt L 3) ∧ K 455 L (lgt L 3 :: st) h cs ss) := by
  rw [dL_shifts_454, ey_ok, nx_aload_n_3] <;> rfl
theorem qL_shifts_455 : ey F ini rt fin K0 K (decode cL_shifts 455) 455 L (st) h cs ss = (K 456 L (.int 1 :: st) h cs ss) := by
  rw [dL_shifts_455, ey_ok, nx_iconst_11] <;> rfl
theorem qL_shifts_456 : ey F ini rt fin K0 K (decode cL_shifts 456) 456 L (v :: v2 :: r) h cs ss = (v.category = 1 ∧ v2.category = 1 ∧ K 457 L (v :: v2 :: v :: v2 :: r) h cs ss) := by
  rw [dL_shifts_456, ey_ok, nx_dup2_84]
theorem qL_shifts_457 : ey F ini rt fin K0 K (decode cL_shifts 457) 457 L (.int i :: .ref a :: r) h cs ss = (isA (h.1 a) (fun k m => k = 0 ∧ vp_in i m) ∧ K 458 L (h.2 a i.toNatClampNeg :: r) h cs ss) := by
  rw [dL_shifts_457, ey_ok, nx_iaload_57]
theorem qL_shifts_458 : ey F ini rt fin K0 K (decode cL_shifts 458) 458 L (st) h cs ss = (K 459 L (.int 1 :: st) h cs ss) := by
  rw [dL_shifts_458, ey_ok, nx_iconst_11] <;> rfl
theorem qL_shifts_459 : ey F ini rt fin K0 K (decode cL_shifts 459) 459 L (.int y :: .int x :: r) h cs ss = (K 460 L (.int (x + y) :: r) h cs ss) := by
  rw [dL_shifts_459, ey_ok, nx_iadd_16]
theorem qL_shifts_460 : ey F ini rt fin K0 K (decode cL_shifts 460) 460 L (.int x :: .int i :: .ref a :: r) h cs ss = (isA (h.1 a) (fun k m => k = 0 ∧ vp_in i m) ∧ K 461 L r (h.1, hup h.2 a i.toNatClampNeg (.int x)) cs ss) := by
  rw [dL_shifts_460, ey_ok, nx_iastore_62]
theorem qL_shifts_461 : ey F ini rt fin K0 K (decode cL_shifts 461) 461 L (st) h cs ss = (lhas L 0 ∧ isRf (lgt L 0) ∧ K 462 L (lgt L 0 :: st) h cs ss) := by
  rw [dL_shifts_461, ey_ok, nx_aload_n_3] <;> rfl
theorem qL_shifts_462 : ey F ini rt fin K0 K (decode cL_shifts 462) 462 L (st) h cs ss = (K 463 L (.int 1 :: st) h cs ss) := by
  rw [dL_shifts_462, ey_ok, nx_iconst_11] <;> rfl
theorem qL_shifts_463 : ey F ini rt fin K0 K (decode cL_shifts 463) 463 L (st) h cs ss = (lhas L 12 ∧ isI (lgt L 12) ∧ K 465 L (lgt L 12 :: st) h cs ss) := by
  rw [dL_shifts_463, ey_ok, nx_iload_0] <;> rfl
theorem qL_shifts_465 : ey F ini rt fin K0 K (decode cL_shifts 465) 465 L (st) h cs ss = (lhas L 13 ∧ isI (lgt L 13) ∧ K 467 L (lgt L 13 :: st) h cs ss) := by
  rw [dL_shifts_465, ey_ok, nx_iload_0] <;> rfl
theorem qL_shifts_467 : ey F ini rt fin K0 K (decode cL_shifts 467) 467 L (st) h cs ss = (lhas L 14 ∧ isI (lgt L 14) ∧ K 469 L (lgt L 14 :: st) h cs ss) := by
  rw [dL_shifts_467, ey_ok, nx_iload_0] <;> rfl
theorem qL_shifts_469 : ey F ini rt fin K0 K (decode cL_shifts 469) 469 L (st) h cs ss = (K0 469 L st h cs ss) := by
  rw [dL_shifts_469, ey_ok, nx_invokestatic_73]
theorem qL_shifts_472 : ey F ini rt fin K0 K (decode cL_shifts 472) 472 L (st) h cs ss = (lhas L 15 ∧ isI (lgt L 15) ∧ K 474 L (lgt L 15 :: st) h cs ss) := by
  rw [dL_shifts_472, ey_ok, nx_iload_0] <;> rfl
theorem qL_shifts_474 : ey F ini rt fin K0 K (decode cL_shifts 474) 474 L (.int x :: r) h cs ss = (if x = 0 then K 485 L r h cs ss else K 477 L r h cs ss) := by
  rw [dL_shifts_474, ey_ok, nx_ifond_30]
  exact and_l (by unfold jok; decide)
theorem qL_shifts_477 : ey F ini rt fin K0 K (decode cL_shifts 477) 477 L (st) h cs ss = (lhas L 3 ∧ isRf (lgt L 3) ∧ K 478 L (lgt L 3 :: st) h cs ss) := by
  rw [dL_shifts_477, ey_ok, nx_aload_n_3] <;> rfl
theorem qL_shifts_478 : ey F ini rt fin K0 K (decode cL_shifts 478) 478 L (st) h cs ss = (K 479 L (.int 1 :: st) h cs ss) := by
  rw [dL_shifts_478, ey_ok, nx_iconst_11] <;> rfl
theorem qL_shifts_479 : ey F ini rt fin K0 K (decode cL_shifts 479) 479 L (.int i :: .ref a :: r) h cs ss = (isA (h.1 a) (fun k m => k = 0 ∧ vp_in i m) ∧ K 480 L (h.2 a i.toNatClampNeg :: r) h cs ss) := by
  rw [dL_shifts_479, ey_ok, nx_iaload_57]
theorem qL_shifts_480 : ey F ini rt fin K0 K (decode cL_shifts 480) 480 L (st) h cs ss = (K 481 L (.int 1 :: st) h cs ss) := by
  rw [dL_shifts_480, ey_ok, nx_iconst_11] <;> rfl
theorem qL_shifts_481 : ey F ini rt fin K0 K (decode cL_shifts 481) 481 L (.int y :: .int x :: r) h cs ss = (K 482 L (.int (x - y) :: r) h cs ss) := by
  rw [dL_shifts_481, ey_ok, nx_isub_17]
theorem qL_shifts_482 : ey F ini rt fin K0 K (decode cL_shifts 482) 482 L (st) h cs ss = (K 488 L st h cs ss) := by
  rw [dL_shifts_482, ey_ok, nx_goto_29]
  exact and_l (by unfold jok; decide)
theorem qL_shifts_485 : ey F ini rt fin K0 K (decode cL_shifts 485) 485 L (st) h cs ss = (K 488 L (.int (-1002) :: st) h cs ss) := by
  rw [dL_shifts_485, ey_ok, nx_sipush_13] <;> rfl
theorem qL_shifts_488 : ey F ini rt fin K0 K (decode cL_shifts 488) 488 L (.int y :: .int x :: r) h cs ss = (if ¬ x = y then K 495 L r h cs ss else K 491 L r h cs ss) := by
  rw [dL_shifts_488, ey_ok, nx_if_icmp_37]
  exact and_l (by unfold jok; decide)
theorem qL_shifts_491 : ey F ini rt fin K0 K (decode cL_shifts 491) 491 L (st) h cs ss = (K 492 L (.int 1 :: st) h cs ss) := by
  rw [dL_shifts_491, ey_ok, nx_iconst_11] <;> rfl
theorem qL_shifts_492 : ey F ini rt fin K0 K (decode cL_shifts 492) 492 L (st) h cs ss = (K 496 L st h cs ss) := by
  rw [dL_shifts_492, ey_ok, nx_goto_29]
  exact and_l (by unfold jok; decide)
theorem qL_shifts_495 : ey F ini rt fin K0 K (decode cL_shifts 495) 495 L (st) h cs ss = (K 496 L (.int 0 :: st) h cs ss) := by
  rw [dL_shifts_495, ey_ok, nx_iconst_11] <;> rfl
theorem qL_shifts_496 : ey F ini rt fin K0 K (decode cL_shifts 496) 496 L ([.int x]) h cs ss = (rokI rt x ∧ fin (some (.int x)) h cs ss) := by
  rw [dL_shifts_496, ey_ok, nx_ireturn_68]
theorem qL_shifts_497 : ey F ini rt fin K0 K (decode cL_shifts 497) 497 L (st) h cs ss = (lhas L 1 ∧ isI (lgt L 1) ∧ K 498 L (lgt L 1 :: st) h cs ss) := by
  rw [dL_shifts_497, ey_ok, nx_iload_n_1] <;> rfl
theorem qL_shifts_498 : ey F ini rt fin K0 K (decode cL_shifts 498) 498 L (st) h cs ss = (K 499 L (.int 2 :: st) h cs ss) := by
  rw [dL_shifts_498, ey_ok, nx_iconst_11] <;> rfl
theorem qL_shifts_499 : ey F ini rt fin K0 K (decode cL_shifts 499) 499 L (.int y :: .int x :: r) h cs ss = (if ¬ x = y then K 648 L r h cs ss else K 502 L r h cs ss) := by
  rw [dL_shifts_499, ey_ok, nx_if_icmp_37]
  exact and_l (by unfold jok; decide)
theorem qL_shifts_502 : ey F ini rt fin K0 K (decode cL_shifts 502) 502 L (st) h cs ss = (lhas L 2 ∧ isI (lgt L 2) ∧ K 503 L (lgt L 2 :: st) h cs ss) := by
  rw [dL_shifts_502, ey_ok, nx_iload_n_1] <;> rfl
theorem qL_shifts_503 : ey F ini rt fin K0 K (decode cL_shifts 503) 503 L (st) h cs ss = (K 504 L (.int 4 :: st) h cs ss) := by
  rw [dL_shifts_503, ey_ok, nx_iconst_11] <;> rfl
theorem qL_shifts_504 : ey F ini rt fin K0 K (decode cL_shifts 504) 504 L (.int y :: .int x :: r) h cs ss = (K 505 L (.int (x >>> (y &&& 31)) :: r) h cs ss) := by
  rw [dL_shifts_504, ey_ok, nx_ishr_21]
theorem qL_shifts_505 : ey F ini rt fin K0 K (decode cL_shifts 505) 505 L (st) h cs ss = (K 507 L (.int 60 :: st) h cs ss) := by
  rw [dL_shifts_505, ey_ok, nx_bipush_12] <;> rfl
theorem qL_shifts_507 : ey F ini rt fin K0 K (decode cL_shifts 507) 507 L (st) h cs ss = (K0 507 L st h cs ss) := by
  rw [dL_shifts_507, ey_ok, nx_invokestatic_73]
theorem qL_shifts_510 : ey F ini rt fin K0 K (decode cL_shifts 510) 510 L (.int x :: r) h cs ss = (if ¬ x = 0 then K 518 L r h cs ss else K 513 L r h cs ss) := by
  rw [dL_shifts_510, ey_ok, nx_ifond_31]
  exact and_l (by unfold jok; decide)
theorem qL_shifts_513 : ey F ini rt fin K0 K (decode cL_shifts 513) 513 L (st) h cs ss = (K 515 L (.int 8 :: st) h cs ss) := by
  rw [dL_shifts_513, ey_ok, nx_bipush_12] <;> rfl
theorem qL_shifts_515 : ey F ini rt fin K0 K (decode cL_shifts 515) 515 L (st) h cs ss = (K 540 L st h cs ss) := by
  rw [dL_shifts_515, ey_ok, nx_goto_29]
  exact and_l (by unfold jok; decide)
theorem qL_shifts_518 : ey F ini rt fin K0 K (decode cL_shifts 518) 518 L (st) h cs ss = (lhas L 2 ∧ isI (lgt L 2) ∧ K 519 L (lgt L 2 :: st) h cs ss) := by
  rw [dL_shifts_518, ey_ok, nx_iload_n_1] <;> rfl
theorem qL_shifts_519 : ey F ini rt fin K0 K (decode cL_shifts 519) 519 L (st) h cs ss = (K 520 L (.int 4 :: st) h cs ss) := by
  rw [dL_shifts_519, ey_ok, nx_iconst_11] <;> rfl
theorem qL_shifts_520 : ey F ini rt fin K0 K (decode cL_shifts 520) 520 L (.int y :: .int x :: r) h cs ss = (K 521 L (.int (x >>> (y &&& 31)) :: r) h cs ss) := by
  rw [dL_shifts_520, ey_ok, nx_ishr_21]
theorem qL_shifts_521 : ey F ini rt fin K0 K (decode cL_shifts 521) 521 L (st) h cs ss = (K 523 L (.int 6 :: st) h cs ss) := by
  rw [dL_shifts_521, ey_ok, nx_bipush_12] <;> rfl
theorem qL_shifts_523 : ey F ini rt fin K0 K (decode cL_shifts 523) 523 L (st) h cs ss = (K0 523 L st h cs ss) := by
  rw [dL_shifts_523, ey_ok, nx_invokestatic_73]
theorem qL_shifts_526 : ey F ini rt fin K0 K (decode cL_shifts 526) 526 L (.int x :: r) h cs ss = (if ¬ x = 0 then K 533 L r h cs ss else K 529 L r h cs ss) := by
  rw [dL_shifts_526, ey_ok, nx_ifond_31]
  exact and_l (by unfold jok; decide)
theorem qL_shifts_529 : ey F ini rt fin K0 K (decode cL_shifts 529) 529 L (st) h cs ss = (K 530 L (.int (-1) :: st) h cs ss) := by
  rw [dL_shifts_529, ey_ok, nx_iconst_11] <;> rfl
theorem qL_shifts_530 : ey F ini rt fin K0 K (decode cL_shifts 530) 530 L (st) h cs ss = (K 540 L st h cs ss) := by
  rw [dL_shifts_530, ey_ok, nx_goto_29]
  exact and_l (by unfold jok; decide)
theorem qL_shifts_533 : ey F ini rt fin K0 K (decode cL_shifts 533) 533 L (st) h cs ss = (lhas L 2 ∧ isI (lgt L 2) ∧ K 534 L (lgt L 2 :: st) h cs ss) := by
  rw [dL_shifts_533, ey_ok, nx_iload_n_1] <;> rfl
theorem qL_shifts_534 : ey F ini rt fin K0 K (decode cL_shifts 534) 534 L (st) h cs ss = (K 535 L (.int 3 :: st) h cs ss) := by
  rw [dL_shifts_534, ey_ok, nx_iconst_11] <;> rfl
theorem qL_shifts_535 : ey F ini rt fin K0 K (decode cL_shifts 535) 535 L (.int y :: .int x :: r) h cs ss = (K 536 L (.int (x >>> (y &&& 31)) :: r) h cs ss) := by
  rw [dL_shifts_535, ey_ok, nx_ishr_21]
theorem qL_shifts_536 : ey F ini rt fin K0 K (decode cL_shifts 536) 536 L (st) h cs ss = (K 537 L (.int 3 :: st) h cs ss) := by
  rw [dL_shifts_536, ey_ok, nx_iconst_11] <;> rfl
theorem qL_shifts_537 : ey F ini rt fin K0 K (decode cL_shifts 537) 537 L (st) h cs ss = (K0 537 L st h cs ss) := by
  rw [dL_shifts_537, ey_ok, nx_invokestatic_73]
theorem qL_shifts_540 : ey F ini rt fin K0 K (decode cL_shifts 540) 540 L (.int x :: r) h cs ss = (12 < L.length ∧ K 542 (L.set 12 (some (.int x))) r h cs ss) := by
  rw [dL_shifts_540, ey_ok, nx_istore_4] <;> rfl
theorem qL_shifts_542 : ey F ini rt fin K0 K (decode cL_shifts 542) 542 L (st) h cs ss = (lhas L 11 ∧ isI (lgt L 11) ∧ K 544 L (lgt L 11 :: st) h cs ss) := by
  rw [dL_shifts_542, ey_ok, nx_iload_0] <;> rfl
theorem qL_shifts_544 : ey F ini rt fin K0 K (decode cL_shifts 544) 544 L (.int x :: r) h cs ss = (if x = 0 then K 554 L r h cs ss else K 547 L r h cs ss) := by
  rw [dL_shifts_544, ey_ok, nx_ifond_30]
  exact and_l (by unfold jok; decide)
theorem qL_shifts_547 : ey F ini rt fin K0 K (decode cL_shifts 547) 547 L (st) h cs ss = (lhas L 12 ∧ isI (lgt L 12) ∧ K 549 L (lgt L 12 :: st) h cs ss) := by
  rw [dL_shifts_547, ey_ok, nx_iload_0] <;> rfl
theorem qL_shifts_549 : ey F ini rt fin K0 K (decode cL_shifts 549) 549 L (st) h cs ss = (K 551 L (.int 7 :: st) h cs ss) := by
  rw [dL_shifts_549, ey_ok, nx_bipush_12] <;> rfl
theorem qL_shifts_551 : ey F ini rt fin K0 K (decode cL_shifts 551) 551 L (.int y :: .int x :: r) h cs ss = (if x ≤ y then K 560 L r h cs ss else K 554 L r h cs ss) := by
  rw [dL_shifts_551, ey_ok, nx_if_icmp_41]
  exact and_l (by unfold jok; decide)
theorem qL_shifts_554 : ey F ini rt fin K0 K (decode cL_shifts 554) 554 L (st) h cs ss = (K 557 L (.int (-1001) :: st) h cs ss) := by
  rw [dL_shifts_554, ey_ok, nx_sipush_13] <;> rfl
theorem qL_shifts_557 : ey F ini rt fin K0 K (decode cL_shifts 557) 557 L (st) h cs ss = (K 595 L st h cs ss) := by
  rw [dL_shifts_557, ey_ok, nx_goto_29]
  exact and_l (by unfold jok; decide)
theorem qL_shifts_560 : ey F ini rt fin K0 K (decode cL_shifts 560) 560 L (st) h cs ss = (lhas L 12 ∧ isI (lgt L 12) ∧ K 562 L (lgt L 12 :: st) h cs ss) := by
  rw [dL_shifts_560, ey_ok, nx_iload_0] <;> rfl
theorem qL_shifts_562 : ey F ini rt fin K0 K (decode cL_shifts 562) 562 L (.int x :: r) h cs ss = (if x < 0 then K 587 L r h cs ss else K 565 L r h cs ss) := by
  rw [dL_shifts_562, ey_ok, nx_ifond_32]
  exact and_l (by unfold jok; decide)
theorem qL_shifts_565 : ey F ini rt fin K0 K (decode cL_shifts 565) 565 L (st) h cs ss = (lhas L 3 ∧ isRf (lgt L 3) ∧ K 566 L (lgt L 3 :: st) h cs ss) := by
  rw [dL_shifts_565, ey_ok, nx_aload_n_3] <;> rfl
theorem qL_shifts_566 : ey F ini rt fin K0 K (decode cL_shifts 566) 566 L (st) h cs ss = (lhas L 4 ∧ isRf (lgt L 4) ∧ K 568 L (lgt L 4 :: st) h cs ss) := by
  rw [dL_shifts_566, ey_ok, nx_aload_2] <;> rfl
theorem qL_shifts_568 : ey F ini rt fin K0 K (decode cL_shifts 568) 568 L (st) h cs ss = (lhas L 5 ∧ isRf (lgt L 5) ∧ K 570 L (lgt L 5 :: st) h cs ss) := by
  rw [dL_shifts_568, ey_ok, nx_aload_2] <;> rfl
theorem qL_shifts_570 : ey F ini rt fin K0 K (decode cL_shifts 570) 570 L (st) h cs ss = (lhas L 12 ∧ isI (lgt L 12) ∧ K 572 L (lgt L 12 :: st) h cs ss) := by
  rw [dL_shifts_570, ey_ok, nx_iload_0] <;> rfl
theorem qL_shifts_572 : ey F ini rt fin K0 K (decode cL_shifts 572) 572 L (st) h cs ss = (lhas L 10 ∧ isI (lgt L 10) ∧ K 574 L (lgt L 10 :: st) h cs ss) := by
  rw [dL_shifts_572, ey_ok, nx_iload_0] <;> rfl
theorem qL_shifts_574 : ey F ini rt fin K0 K (decode cL_shifts 574) 574 L (st) h cs ss = (K 575 L (.int (-1) :: st) h cs ss) := by
  rw [dL_shifts_574, ey_ok, nx_iconst_11] <;> rfl
theorem qL_shifts_575 : ey F ini rt fin K0 K (decode cL_shifts 575) 575 L (st) h cs ss = (K0 575 L st h cs ss) := by
  rw [dL_shifts_575, ey_ok, nx_invokestatic_73]
theorem qL_shifts_578 : ey F ini rt fin K0 K (decode cL_shifts 578) 578 L (.int x :: r) h cs ss = (if ¬ x = 0 then K 587 L r h cs ss else K 581 L r h cs ss) := by
  rw [dL_shifts_578, ey_ok, nx_ifond_31]
  exact and_l (by unfold jok; decide)
theorem qL_shifts_581 : ey F ini rt fin K0 K (decode cL_shifts 581) 581 L (st) h cs ss = (K 584 L (.int (-1003) :: st) h cs ss) := by
  rw [dL_shifts_581, ey_ok, nx_sipush_13] <;> rfl
theorem qL_shifts_584 : ey F ini rt fin K0 K (decode cL_shifts 584) 584 L (st) h cs ss = (K 595 L st h cs ss) := by
  rw [dL_shifts_584, ey_ok, nx_goto_29]
  exact and_l (by unfold jok; decide)
theorem qL_shifts_587 : ey F ini rt fin K0 K (decode cL_shifts 587) 587 L (st) h cs ss = (lhas L 5 ∧ isRf (lgt L 5) ∧ K 589 L (lgt L 5 :: st) h cs ss) := by
  rw [dL_shifts_587, ey_ok, nx_aload_2] <;> rfl
theorem qL_shifts_589 : ey F ini rt fin K0 K (decode cL_shifts 589) 589 L (st) h cs ss = (K 591 L (.int 30 :: st) h cs ss) := by
  rw [dL_shifts_589, ey_ok, nx_bipush_12] <;> rfl
theorem qL_shifts_591 : ey F ini rt fin K0 K (decode cL_shifts 591) 591 L (st) h cs ss = (lhas L 10 ∧ isI (lgt L 10) ∧ K 593 L (lgt L 10 :: st) h cs ss) := by
  rw [dL_shifts_591, ey_ok, nx_iload_0] <;> rfl
theorem qL_shifts_593 : ey F ini rt fin K0 K (decode cL_shifts 593) 593 L (.int y :: .int x :: r) h cs ss = (K 594 L (.int (x + y) :: r) h cs ss) := by
  rw [dL_shifts_593, ey_ok, nx_iadd_16]
theorem qL_shifts_594 : ey F ini rt fin K0 K (decode cL_shifts 594) 594 L (.int i :: .ref a :: r) h cs ss = (isA (h.1 a) (fun k m => k = 0 ∧ vp_in i m) ∧ K 595 L (h.2 a i.toNatClampNeg :: r) h cs ss) := by
  rw [dL_shifts_594, ey_ok, nx_iaload_57]
theorem qL_shifts_595 : ey F ini rt fin K0 K (decode cL_shifts 595) 595 L (.int x :: r) h cs ss = (13 < L.length ∧ K 597 (L.set 13 (some (.int x))) r h cs ss) := by
  rw [dL_shifts_595, ey_ok, nx_istore_4] <;> rfl
theorem qL_shifts_597 : ey F ini rt fin K0 K (decode cL_shifts 597) 597 L (st) h cs ss = (lhas L 13 ∧ isI (lgt L 13) ∧ K 599 L (lgt L 13 :: st) h cs ss) := by
  rw [dL_shifts_597, ey_ok, nx_iload_0] <;> rfl
theorem qL_shifts_599 : ey F ini rt fin K0 K (decode cL_shifts 599) 599 L (st) h cs ss = (K 600 L (.int (-1) :: st) h cs ss) := by
  rw [dL_shifts_599, ey_ok, nx_iconst_11] <;> rfl
theorem qL_shifts_600 : ey F ini rt fin K0 K (decode cL_shifts 600) 600 L (.int y :: .int x :: r) h cs ss = (if x < y then K 628 L r h cs ss else K 603 L r h cs ss) := by
  rw [dL_shifts_600, ey_ok, nx_if_icmp_38]
  exact and_l (by unfold jok; decide)
theorem qL_shifts_603 : ey F ini rt fin K0 K (decode cL_shifts 603) 603 L (st) h cs ss = (lhas L 3 ∧ isRf (lgt L 3) ∧ K 604 L (lgt L 3 :: st) h cs ss) := by
  rw [dL_shifts_603, ey_ok, nx_aload_n_3] <;> rfl
theorem qL_shifts_604 : ey F ini rt fin K0 K (decode cL_shifts 604) 604 L (st) h cs ss = (lhas L 5 ∧ isRf (lgt L 5) ∧ K 606 L (lgt L 5 :: st) h cs ss) := by
  rw [dL_shifts_604, ey_ok, nx_aload_2] <;> rfl
theorem qL_shifts_606 : ey F ini rt fin K0 K (decode cL_shifts 606) 606 L (st) h cs ss = (lhas L 9 ∧ isRf (lgt L 9) ∧ K 608 L (lgt L 9 :: st) h cs ss) := by
  rw [dL_shifts_606, ey_ok, nx_aload_2] <;> rfl
theorem qL_shifts_608 : ey F ini rt fin K0 K (decode cL_shifts 608) 608 L (st) h cs ss = (lhas L 10 ∧ isI (lgt L 10) ∧ K 610 L (lgt L 10 :: st) h cs ss) := by
  rw [dL_shifts_608, ey_ok, nx_iload_0] <;> rfl
theorem qL_shifts_610 : ey F ini rt fin K0 K (decode cL_shifts 610) 610 L (st) h cs ss = (lhas L 12 ∧ isI (lgt L 12) ∧ K 612 L (lgt L 12 :: st) h cs ss) := by
  rw [dL_shifts_610, ey_ok, nx_iload_0] <;> rfl
theorem qL_shifts_612 : ey F ini rt fin K0 K (decode cL_shifts 612) 612 L (st) h cs ss = (K0 612 L st h cs ss) := by
  rw [dL_shifts_612, ey_ok, nx_invokestatic_73]
theorem qL_shifts_615 : ey F ini rt fin K0 K (decode cL_shifts 615) 615 L (st) h cs ss = (lhas L 3 ∧ isRf (lgt L 3) ∧ K 616 L (lgt L 3 :: st) h cs ss) := by
  rw [dL_shifts_615, ey_ok, nx_aload_n_3] <;> rfl
theorem qL_shifts_616 : ey F ini rt fin K0 K (decode cL_shifts 616) 616 L (st) h cs ss = (lhas L 5 ∧ isRf (lgt L 5) ∧ K 618 L (lgt L 5 :: st) h cs ss) := by
  rw [dL_shifts_616, ey_ok, nx_aload_2] <;> rfl
theorem qL_shifts_618 : ey F ini rt fin K0 K (decode cL_shifts 618) 618 L (st) h cs ss = (lhas L 6 ∧ isRf (lgt L 6) ∧ K 620 L (lgt L 6 :: st) h cs ss) := by
  rw [dL_shifts_618, ey_ok, nx_aload_2] <;> rfl
theorem qL_shifts_620 : ey F ini rt fin K0 K (decode cL_shifts 620) 620 L (st) h cs ss = (lhas L 7 ∧ isRf (lgt L 7) ∧ K 622 L (lgt L 7 :: st) h cs ss) := by
  rw [dL_shifts_620, ey_ok, nx_aload_2] <;> rfl
theorem qL_shifts_622 : ey F ini rt fin K0 K (decode cL_shifts 622) 622 L (st) h cs ss = (lhas L 8 ∧ isRf (lgt L 8) ∧ K 624 L (lgt L 8 :: st) h cs ss) := by
  rw [dL_shifts_622, ey_ok, nx_aload_2] <;> rfl
theorem qL_shifts_624 : ey F ini rt fin K0 K (decode cL_shifts 624) 624 L (st) h cs ss = (K0 624 L st h cs ss) := by
  rw [dL_shifts_624, ey_ok, nx_invokestatic_73]
theorem qL_shifts_627 : ey F ini rt fin K0 K (decode cL_shifts 627) 627 L (v :: r) h cs ss = (v.category = 1 ∧ K 628 L r h cs ss) := by
  rw [dL_shifts_627, ey_ok, nx_pop_28]
theorem qL_shifts_628 : ey F ini rt fin K0 K (decode cL_shifts 628) 628 L (st) h cs ss = (lhas L 0 ∧ isRf (lgt L 0) ∧ K 629 L (lgt L 0 :: st) h cs ss) := by
  rw [dL_shifts_628, ey_ok, nx_aload_n_3] <;> rfl
theorem qL_shifts_629 : ey F ini rt fin K0 K (decode cL_shifts 629) 629 L (st) h cs ss = (K 630 L (.int 0 :: st) h cs ss) := by
  rw [dL_shifts_629, ey_ok, nx_iconst_11] <;> rfl
theorem qL_shifts_630 : ey F ini rt fin K0 K (decode cL_shifts 630) 630 L (st) h cs ss = (lhas L 10 ∧ isI (lgt L 10) ∧ K 632 L (lgt L 10 :: st) h cs ss) := by
  rw [dL_shifts_630, ey_ok, nx_iload_0] <;> rfl
theorem qL_shifts_632 : ey F ini rt fin K0 K (decode cL_shifts 632) 632 L (st) h cs ss = (lhas L 12 ∧ isI (lgt L 12) ∧ K 634 L (lgt L 12 :: st) h cs ss) := by
  rw [dL_shifts_632, ey_ok, nx_iload_0] <;> rfl
theorem qL_shifts_634 : ey F ini rt fin K0 K (decode cL_shifts 634) 634 L (st) h cs ss = (K0 634 L st h cs ss) := by
  rw [dL_shifts_634, ey_ok, nx_invokestatic_73]
theorem qL_shifts_637 : ey F ini rt fin K0 K (decode cL_shifts 637) 637 L (st) h cs ss = (lhas L 13 ∧ isI (lgt L 13) ∧ K 639 L (lgt L 13 :: st) h cs ss) := by
  rw [dL_shifts_637, ey_ok, nx_iload_0] <;> rfl
theorem qL_shifts_639 : ey F ini rt fin K0 K (decode cL_shifts 639) 639 L (.int y :: .int x :: r) h cs ss = (if ¬ x = y then K 646 L r h cs ss else K 642 L r h cs ss) := by
  rw [dL_shifts_639, ey_ok, nx_if_icmp_37]
  exact and_l (by unfold jok; decide)
theorem qL_shifts_642 : ey F ini rt fin K0 K (decode cL_shifts 642) 642 L (st) h cs ss = (K 643 L (.int 1 :: st) h cs ss) := by
  rw [dL_shifts_642, ey_ok, nx_iconst_11] <;> rfl
theorem qL_shifts_643 : ey F ini rt fin K0 K (decode cL_shifts 643) 643 L (st) h cs ss = (K 647 L st h cs ss) := by
  rw [dL_shifts_643, ey_ok, nx_goto_29]
  exact and_l (by unfold jok; decide)
theorem qL_shifts_646 : ey F ini rt fin K0 K (decode cL_shifts 646) 646 L (st) h cs ss = (K 647 L (.int 0 :: st) h cs ss) := by
  rw [dL_shifts_646, ey_ok, nx_iconst_11] <;> rfl
theorem qL_shifts_647 : ey F ini rt fin K0 K (decode cL_shifts 647) 647 L ([.int x]) h cs ss = (rokI rt x ∧ fin (some (.int x)) h cs ss) := by
  rw [dL_shifts_647, ey_ok, nx_ireturn_68]
theorem qL_shifts_648 : ey F ini rt fin K0 K (decode cL_shifts 648) 648 L (st) h cs ss = (lhas L 1 ∧ isI (lgt L 1) ∧ K 649 L (lgt L 1 :: st) h cs ss) := by
  rw [dL_shifts_648, ey_ok, nx_iload_n_1] <;> rfl
theorem qL_shifts_649 : ey F ini rt fin K0 K (decode cL_shifts 649) 649 L (st) h cs ss = (K 650 L (.int 3 :: st) h cs ss) := by
  rw [dL_shifts_649, ey_ok, nx_iconst_11] <;> rfl
theorem qL_shifts_650 : ey F ini rt fin K0 K (decode cL_shifts 650) 650 L (.int y :: .int x :: r) h cs ss = (if ¬ x = y then K 894 L r h cs ss else K 653 L r h cs ss) := by
  rw [dL_shifts_650, ey_ok, nx_if_icmp_37]
  exact and_l (by unfold jok; decide)
theorem qL_shifts_653 : ey F ini rt fin K0 K (decode cL_shifts 653) 653 L (st) h cs ss = (lhas L 11 ∧ isI (lgt L 11) ∧ K 655 L (lgt L 11 :: st) h cs ss) := by
  rw [dL_shifts_653, ey_ok, nx_iload_0] <;> rfl
theorem qL_shifts_655 : ey F ini rt fin K0 K (decode cL_shifts 655) 655 L (.int x :: r) h cs ss = (if x = 0 then K 677 L r h cs ss else K 658 L r h cs ss) := by
  rw [dL_shifts_655, ey_ok, nx_ifond_30]
  exact and_l (by unfold jok; decide)
theorem qL_shifts_658 : ey F ini rt fin K0 K (decode cL_shifts 658) 658 L (st) h cs ss = (lhas L 5 ∧ isRf (lgt L 5) ∧ K 660 L (lgt L 5 :: st) h cs ss) := by
  rw [dL_shifts_658, ey_ok, nx_aload_2] <;> rfl
theorem qL_shifts_660 : ey F ini rt fin K0 K (decode cL_shifts 660) 660 L (st) h cs ss = (lhas L 10 ∧ isI (lgt L 10) ∧ K 662 L (lgt L 10 :: st) h cs ss) := by
  rw [dL_shifts_660, ey_ok, nx_iload_0] <;> rfl
theorem qL_shifts_662 : ey F ini rt fin K0 K (decode cL_shifts 662) 662 L (.int i :: .ref a :: r) h cs ss = (isA (h.1 a) (fun k m => k = 0 ∧ vp_in i m) ∧ K 663 L (h.2 a i.toNatClampNeg :: r) h cs ss) := by
  rw [dL_shifts_662, ey_ok, nx_iaload_57]
theorem qL_shifts_663 : ey F ini rt fin K0 K (decode cL_shifts 663) 663 L (st) h cs ss = (lhas L 2 ∧ isI (lgt L 2) ∧ K 664 L (lgt L 2 :: st) h cs ss) := by
  rw [dL_shifts_663, ey_ok, nx_iload_n_1] <;> rfl
theorem qL_shifts_664 : ey F ini rt fin K0 K (decode cL_shifts 664) 664 L (st) h cs ss = (K 665 L (.int 3 :: st) h cs ss) := by
  rw [dL_shifts_664, ey_ok, nx_iconst_11] <;> rfl
theorem qL_shifts_665 : ey F ini rt fin K0 K (decode cL_shifts 665) 665 L (.int y :: .int x :: r) h cs ss = (K 666 L (.int (x >>> (y &&& 31)) :: r) h cs ss) := by
  rw [dL_shifts_665, ey_ok, nx_ishr_21]
theorem qL_shifts_666 : ey F ini rt fin K0 K (decode cL_shifts 666) 666 L (st) h cs ss = (K 668 L (.int 9 :: st) h cs ss) := by
  rw [dL_shifts_666, ey_ok, nx_bipush_12] <;> rfl
theorem qL_shifts_668 : ey F ini rt fin K0 K (decode cL_shifts 668) 668 L (st) h cs ss = (K0 668 L st h cs ss) := by
  rw [dL_shifts_668, ey_ok, nx_invokestatic_73]
theorem qL_shifts_671 : ey F ini rt fin K0 K (decode cL_shifts 671) 671 L (.int y :: .int x :: r) h cs ss = (K 672 L (.int (x + y) :: r) h cs ss) := by
  rw [dL_shifts_671, ey_ok, nx_iadd_16]
theorem qL_shifts_672 : ey F ini rt fin K0 K (decode cL_shifts 672) 672 L (st) h cs ss = (K 673 L (.int 4 :: st) h cs ss) := by
  rw [dL_shifts_672, ey_ok, nx_iconst_11] <;> rfl
theorem qL_shifts_673 : ey F ini rt fin K0 K (decode cL_shifts 673) 673 L (.int y :: .int x :: r) h cs ss = (K 674 L (.int (x - y) :: r) h cs ss) := by
  rw [dL_shifts_673, ey_ok, nx_isub_17]
theorem qL_shifts_674 : ey F ini rt fin K0 K (decode cL_shifts 674) 674 L (st) h cs ss = (K 685 L st h cs ss) := by
  rw [dL_shifts_674, ey_ok, nx_goto_29]
  exact and_l (by unfold jok; decide)
theorem qL_shifts_677 : ey F ini rt fin K0 K (decode cL_shifts 677) 677 L (st) h cs ss = (lhas L 2 ∧ isI (lgt L 2) ∧ K 678 L (lgt L 2 :: st) h cs ss) := by
  rw [dL_shifts_677, ey_ok, nx_iload_n_1] <;> rfl
theorem qL_shifts_678 : ey F ini rt fin K0 K (decode cL_shifts 678) 678 L (st) h cs ss = (K 679 L (.int 3 :: st) h cs ss) := by
  rw [dL_shifts_678, ey_ok, nx_iconst_11] <;> rfl
theorem qL_shifts_679 : ey F ini rt fin K0 K (decode cL_shifts 679) 679 L (.int y :: .int x :: r) h cs ss = (K 680 L (.int (x >>> (y &&& 31)) :: r) h cs ss) := by
  rw [dL_shifts_679, ey_ok, nx_ishr_21]
theorem qL_shifts_680 : ey F ini rt fin K0 K (decode cL_shifts 680) 680 L (st) h cs ss = (K 682 L (.int 50 :: st) h cs ss) := by
  rw [dL_shifts_680, ey_ok, nx_bipush_12] <;> rfl
theorem qL_shifts_682 : ey F ini rt fin K0 K (decode cL_shifts 682) 682 L (st) h cs ss = (K0 682 L st h cs ss) := by
  rw [dL_shifts_682, ey_ok, nx_invokestatic_73]
theorem qL_shifts_685 : ey F ini rt fin K0 K (decode cL_shifts 685) 685 L (.int x :: r) h cs ss = (12 < L.length ∧ K 687 (L.set 12 (some (.int x))) r h cs ss) := by
  rw [dL_shifts_685, ey_ok, nx_istore_4] <;> rfl
theorem qL_shifts_687 : ey F ini rt fin K0 K (decode cL_shifts 687) 687 L (st) h cs ss = (lhas L 12 ∧ isI (lgt L 12) ∧ K 689 L (lgt L 12 :: st) h cs ss) := by
  rw [dL_shifts_687, ey_ok, nx_iload_0] <;> rfl
theorem qL_shifts_689 : ey F ini rt fin K0 K (decode cL_shifts 689) 689 L (st) h cs ss = (lhas L 2 ∧ isI (lgt L 2) ∧ K 690 L (lgt L 2 :: st) h cs ss) := by
  rw [dL_shifts_689, ey_ok, nx_iload_n_1] <;> rfl
theorem qL_shifts_690 : ey F ini rt fin K0 K (decode cL_shifts 690) 690 L (st) h cs ss = (K 691 L (.int 5 :: st) h cs ss) := by
  rw [dL_shifts_690, ey_ok, nx_iconst_11] <;> rfl
theorem qL_shifts_691 : ey F ini rt fin K0 K (decode cL_shifts 691) 691 L (.int y :: .int x :: r) h cs ss = (K 692 L (.int (x >>> (y &&& 31)) :: r) h cs ss) := by
  rw [dL_shifts_691, ey_ok, nx_ishr_21]
theorem qL_shifts_692 : ey F ini rt fin K0 K (decode cL_shifts 692) 692 L (st) h cs ss = (K 694 L (.int 20 :: st) h cs ss) := by
  rw [dL_shifts_692, ey_ok, nx_bipush_12] <;> rfl
theorem qL_shifts_694 : ey F ini rt fin K0 K (decode cL_shifts 694) 694 L (st) h cs ss = (K0 694 L st h cs ss) := by
  rw [dL_shifts_694, ey_ok, nx_invokestatic_73]
theorem qL_shifts_697 : ey F ini rt fin K0 K (decode cL_shifts 697) 697 L (.int x :: r) h cs ss = (if ¬ x = 0 then K 705 L r h cs ss else K 700 L r h cs ss) := by
  rw [dL_shifts_697, ey_ok, nx_ifond_31]
  exact and_l (by unfold jok; decide)
theorem qL_shifts_700 : ey F ini rt fin K0 K (decode cL_shifts 700) 700 L (st) h cs ss = (K 702 L (.int 25 :: st) h cs ss) := by
  rw [dL_shifts_700, ey_ok, nx_bipush_12] <;> rfl
theorem qL_shifts_702 : ey F ini rt fin K0 K (decode cL_shifts 702) 702 L (st) h cs ss = (K 713 L st h cs ss) := by
  rw [dL_shifts_702, ey_ok, nx_goto_29]
  exact and_l (by unfold jok; decide)
theorem qL_shifts_705 : ey F ini rt fin K0 K (decode cL_shifts 705) 705 L (st) h cs ss = (lhas L 2 ∧ isI (lgt L 2) ∧ K 706 L (lgt L 2 :: st) h cs ss) := by
  rw [dL_shifts_705, ey_ok, nx_iload_n_1] <;> rfl
theorem qL_shifts_706 : ey F ini rt fin K0 K (decode cL_shifts 706) 706 L (st) h cs ss = (K 707 L (.int 5 :: st) h cs ss) := by
  rw [dL_shifts_706, ey_ok, nx_iconst_11] <;> rfl
theorem qL_shifts_707 : ey F ini rt fin K0 K (decode cL_shifts 707) 707 L (.int y :: .int x :: r) h cs ss = (K 708 L (.int (x >>> (y &&& 31)) :: r) h cs ss) := by
  rw [dL_shifts_707, ey_ok, nx_ishr_21]
theorem qL_shifts_708 : ey F ini rt fin K0 K (decode cL_shifts 708) 708 L (st) h cs ss = (K 710 L (.int 15 :: st) h cs ss) := by
  rw [dL_shifts_708, ey_ok, nx_bipush_12] <;> rfl
theorem qL_shifts_710 : ey F ini rt fin K0 K (decode cL_shifts 710) 710 L (st) h cs ss = (K0 710 L st h cs ss) := by
  rw [dL_shifts_710, ey_ok, nx_invokestatic_73]
theorem qL_shifts_713 : ey F ini rt fin K0 K (decode cL_shifts 713) 713 L (.int y :: .int x :: r) h cs ss = (K 714 L (.int (x + y) :: r) h cs ss) := by
  rw [dL_shifts_713, ey_ok, nx_iadd_16]
theorem qL_shifts_714 : ey F ini rt fin K0 K (decode cL_shifts 714) 714 L (.int x :: r) h cs ss = (13 < L.length ∧ K 716 (L.set 13 (some (.int x))) r h cs ss) := by
  rw [dL_shifts_714, ey_ok, nx_istore_4] <;> rfl
theorem qL_shifts_716 : ey F ini rt fin K0 K (decode cL_shifts 716) 716 L (st) h cs ss = (lhas L 12 ∧ isI (lgt L 12) ∧ K 718 L (lgt L 12 :: st) h cs ss) := by
  rw [dL_shifts_716, ey_ok, nx_iload_0] <;> rfl
theorem qL_shifts_718 : ey F ini rt fin K0 K (decode cL_shifts 718) 718 L (.int x :: r) h cs ss = (if x < 0 then K 750 L r h cs ss else K 721 L r h cs ss) := by
  rw [dL_shifts_718, ey_ok, nx_ifond_32]
  exact and_l (by unfold jok; decide)
theorem qL_shifts_721 : ey F ini rt fin K0 K (decode cL_shifts 721) 721 L (st) h cs ss = (lhas L 13 ∧ isI (lgt L 13) ∧ K 723 L (lgt L 13 :: st) h cs ss) := by
  rw [dL_shifts_721, ey_ok, nx_iload_0] <;> rfl
theorem qL_shifts_723 : ey F ini rt fin K0 K (decode cL_shifts 723) 723 L (st) h cs ss = (lhas L 12 ∧ isI (lgt L 12) ∧ K 725 L (lgt L 12 :: st) h cs ss) := by
  rw [dL_shifts_723, ey_ok, nx_iload_0] <;> rfl
theorem qL_shifts_725 : ey F ini rt fin K0 K (decode cL_shifts 725) 725 L (.int y :: .int x :: r) h cs ss = (if x ≤ y then K 750 L r h cs ss else K 728 L r h cs ss) := by
  rw [dL_shifts_725, ey_ok, nx_if_icmp_41]
  exact and_l (by unfold jok; decide)
theorem qL_shifts_728 : ey F ini rt fin K0 K (decode cL_shifts 728) 728 L (st) h cs ss = (lhas L 13 ∧ isI (lgt L 13) ∧ K 730 L (lgt L 13 :: st) h cs ss) := by
  rw [dL_shifts_728, ey_ok, nx_iload_0] <;> rfl
theorem qL_shifts_730 : ey F ini rt fin K0 K (decode cL_shifts 730) 730 L (st) h cs ss = (lhas L 12 ∧ isI (lgt L 12) ∧ K 732 L (lgt L 12 :: st) h cs ss) := by
  rw [dL_shifts_730, ey_ok, nx_iload_0] <;> rfl
theorem qL_shifts_732 : ey F ini rt fin K0 K (decode cL_shifts 732) 732 L (.int y :: .int x :: r) h cs ss = (K 733 L (.int (x - y) :: r) h cs ss) := by
  rw [dL_shifts_732, ey_ok, nx_isub_17]
theorem qL_shifts_733 : ey F ini rt fin K0 K (decode cL_shifts 733) 733 L (st) h cs ss = (K 735 L (.int 25 :: st) h cs ss) := by
  rw [dL_shifts_733, ey_ok, nx_bipush_12] <;> rfl
theorem qL_shifts_735 : ey F ini rt fin K0 K (decode cL_shifts 735) 735 L (.int y :: .int x :: r) h cs ss = (if y ≤ x then K 750 L r h cs ss else K 738 L r h cs ss) := by
  rw [dL_shifts_735, ey_ok, nx_if_icmp_39]
  exact and_l (by unfold jok; decide)
theorem qL_shifts_738 : ey F ini rt fin K0 K (decode cL_shifts 738) 738 L (st) h cs ss = (lhas L 13 ∧ isI (lgt L 13) ∧ K 740 L (lgt L 13 :: st) h cs ss) := by
  rw [dL_shifts_738, ey_ok, nx_iload_0] <;> rfl
theorem qL_shifts_740 : ey F ini rt fin K0 K (decode cL_shifts 740) 740 L (st) h cs ss = (lhas L 3 ∧ isRf (lgt L 3) ∧ K 741 L (lgt L 3 :: st) h cs ss) := by
  rw [dL_shifts_740, ey_ok, nx_aload_n_3] <;> rfl
theorem qL_shifts_741 : ey F ini rt fin K0 K (decode cL_shifts 741) 741 L (st) h cs ss = (K 742 L (.int 0 :: st) h cs ss) := by
  rw [dL_shifts_741, ey_ok, nx_iconst_11] <;> rfl
theorem qL_shifts_742 : ey F ini rt fin K0 K (decode cL_shifts 742) 742 L (.int i :: .ref a :: r) h cs ss = (isA (h.1 a) (fun k m => k = 0 ∧ vp_in i m) ∧ K 743 L (h.2 a i.toNatClampNeg :: r) h cs ss) := by
  rw [dL_shifts_742, ey_ok, nx_iaload_57]
theorem qL_shifts_743 : ey F ini rt fin K0 K (decode cL_shifts 743) 743 L (.int y :: .int x :: r) h cs ss = (if y < x then K 750 L r h cs ss else K 746 L r h cs ss) := by
  rw [dL_shifts_743, ey_ok, nx_if_icmp_40]
  exact and_l (by unfold jok; decide)
theorem qL_shifts_746 : ey F ini rt fin K0 K (decode cL_shifts 746) 746 L (st) h cs ss = (K 747 L (.int 1 :: st) h cs ss) := by
  rw [dL_shifts_746, ey_ok, nx_iconst_11] <;> rfl
theorem qL_shifts_747 : ey F ini rt fin K0 K (decode cL_shifts 747) 747 L (st) h cs ss = (K 751 L st h cs ss) := by
  rw [dL_shifts_747, ey_ok, nx_goto_29]
  exact and_l (by unfold jok; decide)
theorem qL_shifts_750 : ey F ini rt fin K0 K (decode cL_shifts 750) 750 L (st) h cs ss = (K 751 L (.int 0 :: st) h cs ss) := by
  rw [dL_shifts_750, ey_ok, nx_iconst_11] <;> rfl
theorem qL_shifts_751 : ey F ini rt fin K0 K (decode cL_shifts 751) 751 L (.int x :: r) h cs ss = (14 < L.length ∧ K 753 (L.set 14 (some (.int x))) r h cs ss) := by
  rw [dL_shifts_751, ey_ok, nx_istore_4] <;> rfl
theorem qL_shifts_753 : ey F ini rt fin K0 K (decode cL_shifts 753) 753 L (st) h cs ss = (lhas L 11 ∧ isI (lgt L 11) ∧ K 755 L (lgt L 11 :: st) h cs ss) := by
  rw [dL_shifts_753, ey_ok, nx_iload_0] <;> rfl
theorem qL_shifts_755 : ey F ini rt fin K0 K (decode cL_shifts 755) 755 L (.int x :: r) h cs ss = (if ¬ x = 0 then K 764 L r h cs ss else K 758 L r h cs ss) := by
  rw [dL_shifts_755, ey_ok, nx_ifond_31]
  exact and_l (by unfold jok; decide)
theorem qL_shifts_758 : ey F ini rt fin K0 K (decode cL_shifts 758) 758 L (st) h cs ss = (K 761 L (.int (-1001) :: st) h cs ss) := by
  rw [dL_shifts_758, ey_ok, nx_sipush_13] <;> rfl
theorem qL_shifts_761 : ey F ini rt fin K0 K (decode cL_shifts 761) 761 L (st) h cs ss = (K 829 L st h cs ss) := by
  rw [dL_shifts_761, ey_ok, nx_goto_29]
  exact and_l (by unfold jok; decide)
theorem qL_shifts_764 : ey F ini rt fin K0 K (decode cL_shifts 764) 764 L (st) h cs ss = (lhas L 14 ∧ isI (lgt L 14) ∧ K 766 L (lgt L 14 :: st) h cs ss) := by
  rw [dL_shifts_764, ey_ok, nx_iload_0] <;> rfl
theorem qL_shifts_766 : ey F ini rt fin K0 K (decode cL_shifts 766) 766 L (.int x :: r) h cs ss = (if ¬ x = 0 then K 775 L r h cs ss else K 769 L r h cs ss) := by
  rw [dL_shifts_766, ey_ok, nx_ifond_31]
  exact and_l (by unfold jok; decide)
theorem qL_shifts_769 : ey F ini rt fin K0 K (decode cL_shifts 769) 769 L (st) h cs ss = (K 772 L (.int (-1002) :: st) h cs ss) := by
  rw [dL_shifts_769, ey_ok, nx_sipush_13] <;> rfl
theorem qL_shifts_772 : ey F ini rt fin K0 K (decode cL_shifts 772) 772 L (st) h cs ss = (K 829 L st h cs ss) := by
  rw [dL_shifts_772, ey_ok, nx_goto_29]
  exact and_l (by unfold jok; decide)
theorem qL_shifts_775 : ey F ini rt fin K0 K (decode cL_shifts 775) 775 L (st) h cs ss = (lhas L 5 ∧ isRf (lgt L 5) ∧ K 777 L (lgt L 5 :: st) h cs ss) := by
  rw [dL_shifts_775, ey_ok, nx_aload_2] <;> rfl
theorem qL_shifts_777 : ey F ini rt fin K0 K (decode cL_shifts 777) 777 L (st) h cs ss = (K 779 L (.int 30 :: st) h cs ss) := by
  rw [dL_shifts_777, ey_ok, nx_bipush_12] <;> rfl
theorem qL_shifts_779 : ey F ini rt fin K0 K (decode cL_shifts 779) 779 L (st) h cs ss = (lhas L 10 ∧ isI (lgt L 10) ∧ K 781 L (lgt L 10 :: st) h cs ss) := by
  rw [dL_shifts_779, ey_ok, nx_iload_0] <;> rfl
theorem qL_shifts_781 : ey F ini rt fin K0 K (decode cL_shifts 781) 781 L (.int y :: .int x :: r) h cs ss = (K 782 L (.int (x + y) :: r) h cs ss) := by
  rw [dL_shifts_781, ey_ok, nx_iadd_16]
theorem qL_shifts_782 : ey F ini rt fin K0 K (decode cL_shifts 782) 782 L (.int i :: .ref a :: r) h cs ss = (isA (h.1 a) (fun k m => k = 0 ∧ vp_in i m) ∧ K 783 L (h.2 a i.toNatClampNeg :: r) h cs ss) := by
  rw [dL_shifts_782, ey_ok, nx_iaload_57]
theorem qL_shifts_783 : ey F ini rt fin K0 K (decode cL_shifts 783) 783 L (.int x :: r) h cs ss = (if x < 0 then K 803 L r h cs ss else K 786 L r h cs ss) := by
  rw [dL_shifts_783, ey_ok, nx_ifond_32]
  exact and_l (by unfold jok; decide)
theorem qL_shifts_786 : ey F ini rt fin K0 K (decode cL_shifts 786) 786 L (st) h cs ss = (lhas L 3 ∧ isRf (lgt L 3) ∧ K 787 L (lgt L 3 :: st) h cs ss) := by
  rw [dL_shifts_786, ey_ok, nx_aload_n_3] <;> rfl
theorem qL_shifts_787 : ey F ini rt fin K0 K (decode cL_shifts 787) 787 L (st) h cs ss = (K 788 L (.int 0 :: st) h cs ss) := by
  rw [dL_shifts_787, ey_ok, nx_iconst_11] <;> rfl
theorem qL_shifts_788 : ey F ini rt fin K0 K (decode cL_shifts 788) 788 L (.int i :: .ref a :: r) h cs ss = (isA (h.1 a) (fun k m => k = 0 ∧ vp_in i m) ∧ K 789 L (h.2 a i.toNatClampNeg :: r) h cs ss) := by
  rw [dL_shifts_788, ey_ok, nx_iaload_57]
theorem qL_shifts_789 : ey F ini rt fin K0 K (decode cL_shifts 789) 789 L (st) h cs ss = (lhas L 5 ∧ isRf (lgt L 5) ∧ K 791 L (lgt L 5 :: st) h cs ss) := by
  rw [dL_shifts_789, ey_ok, nx_aload_2] <;> rfl
theorem qL_shifts_791 : ey F ini rt fin K0 K (decode cL_shifts 791) 791 L (st) h cs ss = (K 793 L (.int 10 :: st) h cs ss) := by
  rw [dL_shifts_791, ey_ok, nx_bipush_12] <;> rfl
theorem qL_shifts_793 : ey F ini rt fin K0 K (decode cL_shifts 793) 793 L (st) h cs ss = (lhas L 10 ∧ isI (lgt L 10) ∧ K 795 L (lgt L 10 :: st) h cs ss) := by
  rw [dL_shifts_793, ey_ok, nx_iload_0] <;> rfl
theorem qL_shifts_795 : ey F ini rt fin K0 K (decode cL_shifts 795) 795 L (.int y :: .int x :: r) h cs ss = (K 796 L (.int (x + y) :: r) h cs ss) := by
  rw [dL_shifts_795, ey_ok, nx_iadd_16]
theorem qL_shifts_796 : ey F ini rt fin K0 K (decode cL_shifts 796) 796 L (.int i :: .ref a :: r) h cs ss = (isA (h.1 a) (fun k m => k = 0 ∧ vp_in i m) ∧ K 797 L (h.2 a i.toNatClampNeg :: r) h cs ss) := by
  rw [dL_shifts_796, ey_ok, nx_iaload_57]
theorem qL_shifts_797 : ey F ini rt fin K0 K (decode cL_shifts 797) 797 L (.int y :: .int x :: r) h cs ss = (K 798 L (.int (x - y) :: r) h cs ss) := by
  rw [dL_shifts_797, ey_ok, nx_isub_17]
theorem qL_shifts_798 : ey F ini rt fin K0 K (decode cL_shifts 798) 798 L (st) h cs ss = (K 800 L (.int 100 :: st) h cs ss) := by
  rw [dL_shifts_798, ey_ok, nx_bipush_12] <;> rfl
theorem qL_shifts_800 : ey F ini rt fin K0 K (decode cL_shifts 800) 800 L (.int y :: .int x :: r) h cs ss = (if x ≤ y then K 809 L r h cs ss else K 803 L r h cs ss) := by
  rw [dL_shifts_800, ey_ok, nx_if_icmp_41]
  exact and_l (by unfold jok; decide)
theorem qL_shifts_803 : ey F ini rt fin K0 K (decode cL_shifts 803) 803 L (st) h cs ss = (K 806 L (.int (-1003) :: st) h cs ss) := by
  rw [dL_shifts_803, ey_ok, nx_sipush_13] <;> rfl
theorem qL_shifts_806 : ey F ini rt fin K0 K (decode cL_shifts 806) 806 L (st) h cs ss = (K 829 L st h cs ss) := by
  rw [dL_shifts_806, ey_ok, nx_goto_29]
  exact and_l (by unfold jok; decide)
theorem qL_shifts_809 : ey F ini rt fin K0 K (decode cL_shifts 809) 809 L (st) h cs ss = (lhas L 13 ∧ isI (lgt L 13) ∧ K 811 L (lgt L 13 :: st) h cs ss) := by
  rw [dL_shifts_809, ey_ok, nx_iload_0] <;> rfl
theorem qL_shifts_811 : ey F ini rt fin K0 K (decode cL_shifts 811) 811 L (st) h cs ss = (lhas L 12 ∧ isI (lgt L 12) ∧ K 813 L (lgt L 12 :: st) h cs ss) := by
  rw [dL_shifts_811, ey_ok, nx_iload_0] <;> rfl
theorem qL_shifts_813 : ey F ini rt fin K0 K (decode cL_shifts 813) 813 L (.int y :: .int x :: r) h cs ss = (K 814 L (.int (x - y) :: r) h cs ss) := by
  rw [dL_shifts_813, ey_ok, nx_isub_17]
theorem qL_shifts_814 : ey F ini rt fin K0 K (decode cL_shifts 814) 814 L (st) h cs ss = (lhas L 5 ∧ isRf (lgt L 5) ∧ K 816 L (lgt L 5 :: st) h cs ss) := by
  rw [dL_shifts_814, ey_ok, nx_aload_2] <;> rfl
theorem qL_shifts_816 : ey F ini rt fin K0 K (decode cL_shifts 816) 816 L (st) h cs ss = (K 818 L (.int 10 :: st) h cs ss) := by
  rw [dL_shifts_816, ey_ok, nx_bipush_12] <;> rfl
theorem qL_shifts_818 : ey F ini rt fin K0 K (decode cL_shifts 818) 818 L (st) h cs ss = (lhas L 10 ∧ isI (lgt L 10) ∧ K 820 L (lgt L 10 :: st) h cs ss) := by
  rw [dL_shifts_818, ey_ok, nx_iload_0] <;> rfl
theorem qL_shifts_820 : ey F ini rt fin K0 K (decode cL_shifts 820) 820 L (.int y :: .int x :: r) h cs ss = (K 821 L (.int (x + y) :: r) h cs ss) := by
  rw [dL_shifts_820, ey_ok, nx_iadd_16]
theorem qL_shifts_821 : ey F ini rt fin K0 K (decode cL_shifts 821) 821 L (.int i :: .ref a :: r) h cs ss = (isA (h.1 a) (fun k m => k = 0 ∧ vp_in i m) ∧ K 822 L (h.2 a i.toNatClampNeg :: r) h cs ss) := by
  rw [dL_shifts_821, ey_ok, nx_iaload_57]
theorem qL_shifts_822 : ey F ini rt fin K0 K (decode cL_shifts 822) 822 L (.int y :: .int x :: r) h cs ss = (K 823 L (.int (x - y) :: r) h cs ss) := by
  rw [dL_shifts_822, ey_ok, nx_isub_17]
theorem qL_shifts_823 : ey F ini rt fin K0 K (decode cL_shifts 823) 823 L (st) h cs ss = (lhas L 5 ∧ isRf (lgt L 5) ∧ K 825 L (lgt L 5 :: st) h cs ss) := by
  rw [dL_shifts_823, ey_ok, nx_aload_2] <;> rfl
theorem qL_shifts_825 : ey F ini rt fin K0 K (decode cL_shifts 825) 825 L (st) h cs ss = (lhas L 10 ∧ isI (lgt L 10) ∧ K 827 L (lgt L 10 :: st) h cs ss) := by
  rw [dL_shifts_825, ey_ok, nx_iload_0] <;> rfl
theorem qL_shifts_827 : ey F ini rt fin K0 K (decode cL_shifts 827) 827 L (.int i :: .ref a :: r) h cs ss = (isA (h.1 a) (fun k m => k = 0 ∧ vp_in i m) ∧ K 828 L (h.2 a i.toNatClampNeg :: r) h cs ss) := by
  rw [dL_shifts_827, ey_ok, nx_iaload_57]
theorem qL_shifts_828 : ey F ini rt fin K0 K (decode cL_shifts 828) 828 L (.int y :: .int x :: r) h cs ss = (K 829 L (.int (x + y) :: r) h cs ss) := by
  rw [dL_shifts_828, ey_ok, nx_iadd_16]
theorem qL_shifts_829 : ey F ini rt fin K0 K (decode cL_shifts 829) 829 L (.int x :: r) h cs ss = (15 < L.length ∧ K 831 (L.set 15 (some (.int x))) r h cs ss) := by
  rw [dL_shifts_829, ey_ok, nx_istore_4] <;> rfl
theorem qL_shifts_831 : ey F ini rt fin K0 K (decode cL_shifts 831) 831 L (st) h cs ss = (lhas L 15 ∧ isI (lgt L 15) ∧ K 833 L (lgt L 15 :: st) h cs ss) := by
  rw [dL_shifts_831, ey_ok, nx_iload_0] <;> rfl
theorem qL_shifts_833 : ey F ini rt fin K0 K (decode cL_shifts 833) 833 L (st) h cs ss = (K 836 L (.int (-1000) :: st) h cs ss) := by
  rw [dL_shifts_833, ey_ok, nx_sipush_13] <;> rfl
theorem qL_shifts_836 : ey F ini rt fin K0 K (decode cL_shifts 836) 836 L (.int y :: .int x :: r) h cs ss = (if x ≤ y then K 872 L r h cs ss else K 839 L r h cs ss) := by
  rw [dL_shifts_836, ey_ok, nx_if_icmp_41]
  exact and_l (by unfold jok; decide)
theorem qL_shifts_839 : ey F ini rt fin K0 K (decode cL_shifts 839) 839 L (st) h cs ss = (lhas L 5 ∧ isRf (lgt L 5) ∧ K 841 L (lgt L 5 :: st) h cs ss) := by
  rw [dL_shifts_839, ey_ok, nx_aload_2] <;> rfl
theorem qL_shifts_841 : ey F ini rt fin K0 K (decode cL_shifts 841) 841 L (st) h cs ss = (K 843 L (.int 40 :: st) h cs ss) := by
  rw [dL_shifts_841, ey_ok, nx_bipush_12] <;> rfl
theorem qL_shifts_843 : ey F ini rt fin K0 K (decode cL_shifts 843) 843 L (st) h cs ss = (lhas L 10 ∧ isI (lgt L 10) ∧ K 845 L (lgt L 10 :: st) h cs ss) := by
  rw [dL_shifts_843, ey_ok, nx_iload_0] <;> rfl
theorem qL_shifts_845 : ey F ini rt fin K0 K (decode cL_shifts 845) 845 L (.int y :: .int x :: r) h cs ss = (K 846 L (.int (x + y) :: r) h cs ss) := by
  rw [dL_shifts_845, ey_ok, nx_iadd_16]
theorem qL_shifts_846 : ey F ini rt fin K0 K (decode cL_shifts 846) 846 L (st) h cs ss = (lhas L 12 ∧ isI (lgt L 12) ∧ K 848 L (lgt L 12 :: st) h cs ss) := by
  rw [dL_shifts_846, ey_ok, nx_iload_0] <;> rfl
theorem qL_shifts_848 : ey F ini rt fin K0 K (decode cL_shifts 848) 848 L (.int x :: .int i :: .ref a :: r) h cs ss = (isA (h.1 a) (fun k m => k = 0 ∧ vp_in i m) ∧ K 849 L r (h.1, hup h.2 a i.toNatClampNeg (.int x)) cs ss) := by
  rw [dL_shifts_848, ey_ok, nx_iastore_62]
theorem qL_shifts_849 : ey F ini rt fin K0 K (decode cL_shifts 849) 849 L (st) h cs ss = (lhas L 5 ∧ isRf (lgt L 5) ∧ K 851 L (lgt L 5 :: st) h cs ss) := by
  rw [dL_shifts_849, ey_ok, nx_aload_2] <;> rfl
theorem qL_shifts_851 : ey F ini rt fin K0 K (decode cL_shifts 851) 851 L (st) h cs ss = (K 853 L (.int 50 :: st) h cs ss) := by
  rw [dL_shifts_851, ey_ok, nx_bipush_12] <;> rfl
theorem qL_shifts_853 : ey F ini rt fin K0 K (decode cL_shifts 853) 853 L (st) h cs ss = (lhas L 10 ∧ isI (lgt L 10) ∧ K 855 L (lgt L 10 :: st) h cs ss) := by
  rw [dL_shifts_853, ey_ok, nx_iload_0] <;> rfl
theorem qL_shifts_855 : ey F ini rt fin K0 K (decode cL_shifts 855) 855 L (.int y :: .int x :: r) h cs ss = (K 856 L (.int (x + y) :: r) h cs ss) := by
  rw [dL_shifts_855, ey_ok, nx_iadd_16]
theorem qL_shifts_856 : ey F ini rt fin K0 K (decode cL_shifts 856) 856 L (st) h cs ss = (lhas L 13 ∧ isI (lgt L 13) ∧ K 858 L (lgt L 13 :: st) h cs ss) := by
  rw [dL_shifts_856, ey_ok, nx_iload_0] <;> rfl
theorem qL_shifts_858 : ey F ini rt fin K0 K (decode cL_shifts 858) 858 L (.int x :: .int i :: .ref a :: r) h cs ss = (isA (h.1 a) (fun k m => k = 0 ∧ vp_in i m) ∧ K 859 L r (h.1, hup h.2 a i.toNatClampNeg (.int x)) cs ss) := by
  rw [dL_shifts_858, ey_ok, nx_iastore_62]
theorem qL_shifts_859 : ey F ini rt fin K0 K (decode cL_shifts 859) 859 L (st) h cs ss = (lhas L 3 ∧ isRf (lgt L 3) ∧ K 860 L (lgt L 3 :: st) h cs ss) := by
  rw [dL_shifts_859, ey_ok, nx_aload_n_3] <;> rfl
theorem qL_shifts_860 : ey F ini rt fin K0 K (decode cL_shifts 860) 860 L (st) h cs ss = (lhas L 5 ∧ isRf (lgt L 5) ∧ K 862 L (lgt L 5 :: st) h cs ss) := by
  rw [dL_shifts_860, ey_ok, nx_aload_2] <;> rfl
theorem qL_shifts_862 : ey F ini rt fin K0 K (decode cL_shifts 862) 862 L (st) h cs ss = (lhas L 6 ∧ isRf (lgt L 6) ∧ K 864 L (lgt L 6 :: st) h cs ss) := by
  rw [dL_shifts_862, ey_ok, nx_aload_2] <;> rfl
theorem qL_shifts_864 : ey F ini rt fin K0 K (decode cL_shifts 864) 864 L (st) h cs ss = (lhas L 7 ∧ isRf (lgt L 7) ∧ K 866 L (lgt L 7 :: st) h cs ss) := by
  rw [dL_shifts_864, ey_ok, nx_aload_2] <;> rfl
theorem qL_shifts_866 : ey F ini rt fin K0 K (decode cL_shifts 866) 866 L (st) h cs ss = (lhas L 8 ∧ isRf (lgt L 8) ∧ K 868 L (lgt L 8 :: st) h cs ss) := by
  rw [dL_shifts_866, ey_ok, nx_aload_2] <;> rfl
theorem qL_shifts_868 : ey F ini rt fin K0 K (decode cL_shifts 868) 868 L (st) h cs ss = (K0 868 L st h cs ss) := by
  rw [dL_shifts_868, ey_ok, nx_invokestatic_73]
theorem qL_shifts_871 : ey F ini rt fin K0 K (decode cL_shifts 871) 871 L (v :: r) h cs ss = (v.category = 1 ∧ K 872 L r h cs ss) := by
  rw [dL_shifts_871, ey_ok, nx_pop_28]
theorem qL_shifts_872 : ey F ini rt fin K0 K (decode cL_shifts 872) 872 L (st) h cs ss = (lhas L 0 ∧ isRf (lgt L 0) ∧ K 873 L (lgt L 0 :: st) h cs ss) := by
  rw [dL_shifts_872, ey_ok, nx_aload_n_3] <;> rfl
theorem qL_shifts_873 : ey F ini rt fin K0 K (decode cL_shifts 873) 873 L (st) h cs ss = (K 874 L (.int 2 :: st) h cs ss) := by
  rw [dL_shifts_873, ey_ok, nx_iconst_11] <;> rfl
theorem qL_shifts_874 : ey F ini rt fin K0 K (decode cL_shifts 874) 874 L (st) h cs ss = (lhas L 10 ∧ isI (lgt L 10) ∧ K 876 L (lgt L 10 :: st) h cs ss) := by
  rw [dL_shifts_874, ey_ok, nx_iload_0] <;> rfl
theorem qL_shifts_876 : ey F ini rt fin K0 K (decode cL_shifts 876) 876 L (st) h cs ss = (lhas L 12 ∧ isI (lgt L 12) ∧ K 878 L (lgt L 12 :: st) h cs ss) := by
  rw [dL_shifts_876, ey_ok, nx_iload_0] <;> rfl
theorem qL_shifts_878 : ey F ini rt fin K0 K (decode cL_shifts 878) 878 L (st) h cs ss = (lhas L 13 ∧ isI (lgt L 13) ∧ K 880 L (lgt L 13 :: st) h cs ss) := by
  rw [dL_shifts_878, ey_ok, nx_iload_0] <;> rfl
theorem qL_shifts_880 : ey F ini rt fin K0 K (decode cL_shifts 880) 880 L (st) h cs ss = (K0 880 L st h cs ss) := by
  rw [dL_shifts_880, ey_ok, nx_invokestatic_73]
theorem qL_shifts_883 : ey F ini rt fin K0 K (decode cL_shifts 883) 883 L (st) h cs ss = (lhas L 15 ∧ isI (lgt L 15) ∧ K 885 L (lgt L 15 :: st) h cs ss) := by
  rw [dL_shifts_883, ey_ok, nx_iload_0] <;> rfl
theorem qL_shifts_885 : ey F ini rt fin K0 K (decode cL_shifts 885) 885 L (.int y :: .int x :: r) h cs ss = (if ¬ x = y then K 892 L r h cs ss else K 888 L r h cs ss) := by
  rw [dL_shifts_885, ey_ok, nx_if_icmp_37]
  exact and_l (by unfold jok; decide)
theorem qL_shifts_888 : ey F ini rt fin K0 K (decode cL_shifts 888) 888 L (st) h cs ss = (K 889 L (.int 1 :: st) h cs ss) := by
  rw [dL_shifts_888, ey_ok, nx_iconst_11] <;> rfl
theorem qL_shifts_889 : ey F ini rt fin K0 K (decode cL_shifts 889) 889 L (st) h cs ss = (K 893 L st h cs ss) := by
  rw [dL_shifts_889, ey_ok, nx_goto_29]
  exact and_l (by unfold jok; decide)
theorem qL_shifts_892 : ey F ini rt fin K0 K (decode cL_shifts 892) 892 L (st) h cs ss = (K 893 L (.int 0 :: st) h cs ss) := by
  rw [dL_shifts_892, ey_ok, nx_iconst_11] <;> rfl
theorem qL_shifts_893 : ey F ini rt fin K0 K (decode cL_shifts 893) 893 L ([.int x]) h cs ss = (rokI rt x ∧ fin (some (.int x)) h cs ss) := by
  rw [dL_shifts_893, ey_ok, nx_ireturn_68]
theorem qL_shifts_894 : ey F ini rt fin K0 K (decode cL_shifts 894) 894 L (st) h cs ss = (lhas L 2 ∧ isI (lgt L 2) ∧ K 895 L (lgt L 2 :: st) h cs ss) := by
  rw [dL_shifts_894, ey_ok, nx_iload_n_1] <;> rfl
theorem qL_shifts_895 : ey F ini rt fin K0 K (decode cL_shifts 895) 895 L (st) h cs ss = (K 897 L (.int 30 :: st) h cs ss) := by
  rw [dL_shifts_895, ey_ok, nx_bipush_12] <;> rfl
theorem qL_shifts_897 : ey F ini rt fin K0 K (decode cL_shifts 897) 897 L (st) h cs ss = (K0 897 L st h cs ss) := by
  rw [dL_shifts_897, ey_ok, nx_invokestatic_73]
theorem qL_shifts_900 : ey F ini rt fin K0 K (decode cL_shifts 900) 900 L (.int x :: r) h cs ss = (if ¬ x = 0 then K 917 L r h cs ss else K 903 L r h cs ss) := by
  rw [dL_shifts_900, ey_ok, nx_ifond_31]
  exact and_l (by unfold jok; decide)
theorem qL_shifts_903 : ey F ini rt fin K0 K (decode cL_shifts 903) 903 L (st) h cs ss = (K 906 L (.int 201 :: st) h cs ss) := by
  rw [dL_shifts_903, ey_ok, nx_sipush_13] <;> rfl
theorem qL_shifts_906 : ey F ini rt fin K0 K (decode cL_shifts 906) 906 L (st) h cs ss = (lhas L 2 ∧ isI (lgt L 2) ∧ K 907 L (lgt L 2 :: st) h cs ss) := by
  rw [dL_shifts_906, ey_ok, nx_iload_n_1] <;> rfl
theorem qL_shifts_907 : ey F ini rt fin K0 K (decode cL_shifts 907) 907 L (st) h cs ss = (K 908 L (.int 3 :: st) h cs ss) := by
  rw [dL_shifts_907, ey_ok, nx_iconst_11] <;> rfl
theorem qL_shifts_908 : ey F ini rt fin K0 K (decode cL_shifts 908) 908 L (.int y :: .int x :: r) h cs ss = (K 909 L (.int (x >>> (y &&& 31)) :: r) h cs ss) := by
  rw [dL_shifts_908, ey_ok, nx_ishr_21]
theorem qL_shifts_909 : ey F ini rt fin K0 K (decode cL_shifts 909) 909 L (st) h cs ss = (K 910 L (.int 2 :: st) h cs ss) := by
  rw [dL_shifts_909, ey_ok, nx_iconst_11] <;> rfl
theorem qL_shifts_910 : ey F ini rt fin K0 K (decode cL_shifts 910) 910 L (st) h cs ss = (K0 910 L st h cs ss) := by
  rw [dL_shifts_910, ey_ok, nx_invokestatic_73]
theorem qL_shifts_913 : ey F ini rt fin K0 K (decode cL_shifts 913) 913 L (.int y :: .int x :: r) h cs ss = (K 914 L (.int (x * y) :: r) h cs ss) := by
  rw [dL_shifts_913, ey_ok, nx_imul_18]
theorem qL_shifts_914 : ey F ini rt fin K0 K (decode cL_shifts 914) 914 L (st) h cs ss = (K 940 L st h cs ss) := by
  rw [dL_shifts_914, ey_ok, nx_goto_29]
  exact and_l (by unfold jok; decide)
theorem qL_shifts_917 : ey F ini rt fin K0 K (decode cL_shifts 917) 917 L (st) h cs ss = (K 918 L (.int 1 :: st) h cs ss) := by
  rw [dL_shifts_917, ey_ok, nx_iconst_11] <;> rfl
theorem qL_shifts_918 : ey F ini rt fin K0 K (decode cL_shifts 918) 918 L (st) h cs ss = (lhas L 2 ∧ isI (lgt L 2) ∧ K 919 L (lgt L 2 :: st) h cs ss) := by
  rw [dL_shifts_918, ey_ok, nx_iload_n_1] <;> rfl
theorem qL_shifts_919 : ey F ini rt fin K0 K (decode cL_shifts 919) 919 L (st) h cs ss = (lhas L 2 ∧ isI (lgt L 2) ∧ K 920 L (lgt L 2 :: st) h cs ss) := by
  rw [dL_shifts_919, ey_ok, nx_iload_n_1] <;> rfl
theorem qL_shifts_920 : ey F ini rt fin K0 K (decode cL_shifts 920) 920 L (st) h cs ss = (K 921 L (.int 4 :: st) h cs ss) := by
  rw [dL_shifts_920, ey_ok, nx_iconst_11] <;> rfl
theorem qL_shifts_921 : ey F ini rt fin K0 K (decode cL_shifts 921) 921 L (.int y :: .int x :: r) h cs ss = (K 922 L (.int (x >>> (y &&& 31)) :: r) h cs ss) := by
  rw [dL_shifts_921, ey_ok, nx_ishr_21]
theorem qL_shifts_922 : ey F ini rt fin K0 K (decode cL_shifts 922) 922 L (st) h cs ss = (K 923 L (.int 3 :: st) h cs ss) := by
  rw [dL_shifts_922, ey_ok, nx_iconst_11] <;> rfl
theorem qL_shifts_923 : ey F ini rt fin K0 K (decode cL_shifts 923) 923 L (st) h cs ss = (K0 923 L st h cs ss) := by
  rw [dL_shifts_923, ey_ok, nx_invokestatic_73]
theorem qL_shifts_926 : ey F ini rt fin K0 K (decode cL_shifts 926) 926 L (.int x :: r) h cs ss = (if ¬ x = 0 then K 934 L r h cs ss else K 929 L r h cs ss) := by
  rw [dL_shifts_926, ey_ok, nx_ifond_31]
  exact and_l (by unfold jok; decide)
theorem qL_shifts_929 : ey F ini rt fin K0 K (decode cL_shifts 929) 929 L (st) h cs ss = (K 931 L (.int 60 :: st) h cs ss) := by
  rw [dL_shifts_929, ey_ok, nx_bipush_12] <;> rfl
theorem qL_shifts_931 : ey F ini rt fin K0 K (decode cL_shifts 931) 931 L (st) h cs ss = (K 936 L st h cs ss) := by
  rw [dL_shifts_931, ey_ok, nx_goto_29]
  exact and_l (by unfold jok; decide)
theorem qL_shifts_934 : ey F ini rt fin K0 K (decode cL_shifts 934) 934 L (st) h cs ss = (K 936 L (.int 12 :: st) h cs ss) := by
  rw [dL_shifts_934, ey_ok, nx_bipush_12] <;> rfl
theorem qL_shifts_936 : ey F ini rt fin K0 K (decode cL_shifts 936) 936 L (st) h cs ss = (K0 936 L st h cs ss) := by
  rw [dL_shifts_936, ey_ok, nx_invokestatic_73]
theorem qL_shifts_939 : ey F ini rt fin K0 K (decode cL_shifts 939) 939 L (.int y :: .int x :: r) h cs ss = (K 940 L (.int (x + y) :: r) h cs ss) := by
  rw [dL_shifts_939, ey_ok, nx_iadd_16]
theorem qL_shifts_940 : ey F ini rt fin K0 K (decode cL_shifts 940) 940 L (.int x :: r) h cs ss = (12 < L.length ∧ K 942 (L.set 12 (some (.int x))) r h cs ss) := by
  rw [dL_shifts_940, ey_ok, nx_istore_4] <;> rfl
theorem qL_shifts_942 : ey F ini rt fin K0 K (decode cL_shifts 942) 942 L (st) h cs ss = (lhas L 12 ∧ isI (lgt L 12) ∧ K 944 L (lgt L 12 :: st) h cs ss) := by
  rw [dL_shifts_942, ey_ok, nx_iload_0] <;> rfl
theorem qL_shifts_944 : ey F ini rt fin K0 K (decode cL_shifts 944) 944 L (.int x :: r) h cs ss = (if x ≤ 0 then K 959 L r h cs ss else K 947 L r h cs ss) := by
  rw [dL_shifts_944, ey_ok, nx_ifond_35]
  exact and_l (by unfold jok; decide)
theorem qL_shifts_947 : ey F ini rt fin K0 K (decode cL_shifts 947) 947 L (st) h cs ss = (lhas L 12 ∧ isI (lgt L 12) ∧ K 949 L (lgt L 12 :: st) h cs ss) := by
  rw [dL_shifts_947, ey_ok, nx_iload_0] <;> rfl
theorem qL_shifts_949 : ey F ini rt fin K0 K (decode cL_shifts 949) 949 L (st) h cs ss = (K 952 L (.int 201 :: st) h cs ss) := by
  rw [dL_shifts_949, ey_ok, nx_sipush_13] <;> rfl
theorem qL_shifts_952 : ey F ini rt fin K0 K (decode cL_shifts 952) 952 L (.int y :: .int x :: r) h cs ss = (if y ≤ x then K 959 L r h cs ss else K 955 L r h cs ss) := by
  rw [dL_shifts_952, ey_ok, nx_if_icmp_39]
  exact and_l (by unfold jok; decide)
theorem qL_shifts_955 : ey F ini rt fin K0 K (decode cL_shifts 955) 955 L (st) h cs ss = (K 956 L (.int 1 :: st) h cs ss) := by
  rw [dL_shifts_955, ey_ok, nx_iconst_11] <;> rfl
theorem qL_shifts_956 : ey F ini rt fin K0 K (decode cL_shifts 956) 956 L (st) h cs ss = (K 960 L st h cs ss) := by
  rw [dL_shifts_956, ey_ok, nx_goto_29]
  exact and_l (by unfold jok; decide)
theorem qL_shifts_959 : ey F ini rt fin K0 K (decode cL_shifts 959) 959 L (st) h cs ss = (K 960 L (.int 0 :: st) h cs ss) := by
  rw [dL_shifts_959, ey_ok, nx_iconst_11] <;> rfl
theorem qL_shifts_960 : ey F ini rt fin K0 K (decode cL_shifts 960) 960 L (.int x :: r) h cs ss = (13 < L.length ∧ K 962 (L.set 13 (some (.int x))) r h cs ss) := by
  rw [dL_shifts_960, ey_ok, nx_istore_4] <;> rfl
theorem qL_shifts_962 : ey F ini rt fin K0 K (decode cL_shifts 962) 962 L (st) h cs ss = (lhas L 13 ∧ isI (lgt L 13) ∧ K 964 L (lgt L 13 :: st) h cs ss) := by
  rw [dL_shifts_962, ey_ok, nx_iload_0] <;> rfl
theorem qL_shifts_964 : ey F ini rt fin K0 K (decode cL_shifts 964) 964 L (.int x :: r) h cs ss = (if x = 0 then K 997 L r h cs ss else K 967 L r h cs ss) := by
  rw [dL_shifts_964, ey_ok, nx_ifond_30]
  exact and_l (by unfold jok; decide)
theorem qL_shifts_967 : ey F ini rt fin K0 K (decode cL_shifts 967) 967 L (st) h cs ss = (lhas L 3 ∧ isRf (lgt L 3) ∧ K 968 L (lgt L 3 :: st) h cs ss) := by
  rw [dL_shifts_967, ey_ok, nx_aload_n_3] <;> rfl
theorem qL_shifts_968 : ey F ini rt fin K0 K (decode cL_shifts 968) 968 L (st) h cs ss = (K 969 L (.int 0 :: st) h cs ss) := by
  rw [dL_shifts_968, ey_ok, nx_iconst_11] <;> rfl
theorem qL_shifts_969 : ey F ini rt fin K0 K (decode cL_shifts 969) 969 L (.int i :: .ref a :: r) h cs ss = (isA (h.1 a) (fun k m => k = 0 ∧ vp_in i m) ∧ K 970 L (h.2 a i.toNatClampNeg :: r) h cs ss) := by
  rw [dL_shifts_969, ey_ok, nx_iaload_57]
theorem qL_shifts_970 : ey F ini rt fin K0 K (decode cL_shifts 970) 970 L (st) h cs ss = (lhas L 12 ∧ isI (lgt L 12) ∧ K 972 L (lgt L 12 :: st) h cs ss) := by
  rw [dL_shifts_970, ey_ok, nx_iload_0] <;> rfl
theorem qL_shifts_972 : ey F ini rt fin K0 K (decode cL_shifts 972) 972 L (.int y :: .int x :: r) h cs ss = (K 973 L (.int (x + y) :: r) h cs ss) := by
  rw [dL_shifts_972, ey_ok, nx_iadd_16]
theorem qL_shifts_973 : ey F ini rt fin K0 K (decode cL_shifts 973) 973 L (st) h cs ss = (K 976 L (.int 2000 :: st) h cs ss) := by
  rw [dL_shifts_973, ey_ok, nx_sipush_13] <;> rfl
theorem qL_shifts_976 : ey F ini rt fin K0 K (decode cL_shifts 976) 976 L (.int y :: .int x :: r) h cs ss = (if x ≤ y then K 997 L r h cs ss else K 979 L r h cs ss) := by
  rw [dL_shifts_976, ey_ok, nx_if_icmp_41]
  exact and_l (by unfold jok; decide)
theorem qL_shifts_979 : ey F ini rt fin K0 K (decode cL_shifts 979) 979 L (st) h cs ss = (lhas L 0 ∧ isRf (lgt L 0) ∧ K 980 L (lgt L 0 :: st) h cs ss) := by
  rw [dL_shifts_979, ey_ok, nx_aload_n_3] <;> rfl
theorem qL_shifts_980 : ey F ini rt fin K0 K (decode cL_shifts 980) 980 L (st) h cs ss = (lhas L 12 ∧ isI (lgt L 12) ∧ K 982 L (lgt L 12 :: st) h cs ss) := by
  rw [dL_shifts_980, ey_ok, nx_iload_0] <;> rfl
theorem qL_shifts_982 : ey F ini rt fin K0 K (decode cL_shifts 982) 982 L (st) h cs ss = (K0 982 L st h cs ss) := by
  rw [dL_shifts_982, ey_ok, nx_invokestatic_73]
theorem qL_shifts_985 : ey F ini rt fin K0 K (decode cL_shifts 985) 985 L (st) h cs ss = (K 988 L (.int (-1003) :: st) h cs ss) := by
  rw [dL_shifts_985, ey_ok, nx_sipush_13] <;> rfl
theorem qL_shifts_988 : ey F ini rt fin K0 K (decode cL_shifts 988) 988 L (.int y :: .int x :: r) h cs ss = (if ¬ x = y then K 995 L r h cs ss else K 991 L r h cs ss) := by
  rw [dL_shifts_988, ey_ok, nx_if_icmp_37]
  exact and_l (by unfold jok; decide)
theorem qL_shifts_991 : ey F ini rt fin K0 K (decode cL_shifts 991) 991 L (st) h cs ss = (K 992 L (.int 1 :: st) h cs ss) := by
  rw [dL_shifts_991, ey_ok, nx_iconst_11] <;> rfl
theorem qL_shifts_992 : ey F ini rt fin K0 K (decode cL_shifts 992) 992 L (st) h cs ss = (K 996 L st h cs ss) := by
  rw [dL_shifts_992, ey_ok, nx_goto_29]
  exact and_l (by unfold jok; decide)
theorem qL_shifts_995 : ey F ini rt fin K0 K (decode cL_shifts 995) 995 L (st) h cs ss = (K 996 L (.int 0 :: st) h cs ss) := by
  rw [dL_shifts_995, ey_ok, nx_iconst_11] <;> rfl
theorem qL_shifts_996 : ey F ini rt fin K0 K (decode cL_shifts 996) 996 L ([.int x]) h cs ss = (rokI rt x ∧ fin (some (.int x)) h cs ss) := by
  rw [dL_shifts_996, ey_ok, nx_ireturn_68]
theorem qL_shifts_997 : ey F ini rt fin K0 K (decode cL_shifts 997) 997 L (st) h cs ss = (lhas L 3 ∧ isRf (lgt L 3) ∧ K 998 L (lgt L 3 :: st) h cs ss) := by
  rw [dL_shifts_997, ey_ok, nx_aload_n_3] <;> rfl
theorem qL_shifts_998 : ey F ini rt fin K0 K (decode cL_shifts 998) 998 L (st) h cs ss = (K 999 L (.int 0 :: st) h cs ss) := by
  rw [dL_shifts_998, ey_ok, nx_iconst_11] <;> rfl
theorem qL_shifts_999 : ey F ini rt fin K0 K (decode cL_shifts 999) 999 L (v :: v2 :: r) h cs ss = (v.category = 1 ∧ v2.category = 1 ∧ K 1000 L (v :: v2 :: v :: v2 :: r) h cs ss) := by
  rw [dL_shifts_999, ey_ok, nx_dup2_84]
theorem qL_shifts_1000 : ey F ini rt fin K0 K (decode cL_shifts 1000) 1000 L (.int i :: .ref a :: r) h cs ss = (isA (h.1 a) (fun k m => k = 0 ∧ vp_in i m) ∧ K 1001 L (h.2 a i.toNatClampNeg :: r) h cs ss) := by
  rw [dL_shifts_1000, ey_ok, nx_iaload_57]
theorem qL_shifts_1001 : ey F ini rt fin K0 K (decode cL_shifts 1001) 1001 L (st) h cs ss = (lhas L 13 ∧ isI (lgt L 13) ∧ K 1003 L (lgt L 13 :: st) h cs ss) := by
  rw [dL_shifts_1001, ey_ok, nx_iload_0] <;> rfl
theorem qL_shifts_1003 : ey F ini rt fin K0 K (decode cL_shifts 1003) 1003 L (.int x :: r) h cs ss = (if x = 0 then K 1011 L r h cs ss else K 1006 L r h cs ss) := by
  rw [dL_shifts_1003, ey_ok, nx_ifond_30]
  exact and_l (by unfold jok; decide)
theorem qL_shifts_1006 : ey F ini rt fin K0 K (decode cL_shifts 1006) 1006 L (st) h cs ss = (lhas L 12 ∧ isI (lgt L 12) ∧ K 1008 L (lgt L 12 :: st) h cs ss) := by
  rw [dL_shifts_1006, ey_ok, nx_iload_0] <;> rfl
theorem qL_shifts_1008 : ey F ini rt fin K0 K (decode cL_shifts 1008) 1008 L (st) h cs ss = (K 1012 L st h cs ss) := by
  rw [dL_shifts_1008, ey_ok, nx_goto_29]
  exact and_l (by unfold jok; decide)
theorem qL_shifts_1011 : ey F ini rt fin K0 K (decode cL_shifts 1011) 1011 L (st) h cs ss = (K 1012 L (.int 0 :: st) h cs ss) := by
  rw [dL_shifts_1011, ey_ok, nx_iconst_11] <;> rfl
theorem qL_shifts_1012 : ey F ini rt fin K0 K (decode cL_shifts 1012) 1012 L (.int y :: .int x :: r) h cs ss = (K 1013 L (.int (x + y) :: r) h cs ss) := by
  rw [dL_shifts_1012, ey_ok, nx_iadd_16]
theorem qL_shifts_1013 : ey F ini rt fin K0 K (decode cL_shifts 1013) 1013 L (.int x :: .int i :: .ref a :: r) h cs ss = (isA (h.1 a) (fun k m => k = 0 ∧ vp_in i m) ∧ K 1014 L r (h.1, hup h.2 a i.toNatClampNeg (.int x)) cs ss) := by
  rw [dL_shifts_1013, ey_ok, nx_iastore_62]
theorem qL_shifts_1014 : ey F ini rt fin K0 K (decode cL_shifts 1014) 1014 L (st) h cs ss = (lhas L 0 ∧ isRf (lgt L 0) ∧ K 1015 L (lgt L 0 :: st) h cs ss) := by
  rw [dL_shifts_1014, ey_ok, nx_aload_n_3] <;> rfl
theorem qL_shifts_1015 : ey F ini rt fin K0 K (decode cL_shifts 1015) 1015 L (st) h cs ss = (lhas L 12 ∧ isI (lgt L 12) ∧ K 1017 L (lgt L 12 :: st) h cs ss) := by
  rw [dL_shifts_1015, ey_ok, nx_iload_0] <;> rfl
theorem qL_shifts_1017 : ey F ini rt fin K0 K (decode cL_shifts 1017) 1017 L (st) h cs ss = (K0 1017 L st h cs ss) := by
  rw [dL_shifts_1017, ey_ok, nx_invokestatic_73]
theorem qL_shifts_1020 : ey F ini rt fin K0 K (decode cL_shifts 1020) 1020 L (st) h cs ss = (lhas L 13 ∧ isI (lgt L 13) ∧ K 1022 L (lgt L 13 :: st) h cs ss) := by
  rw [dL_shifts_1020, ey_ok, nx_iload_0] <;> rfl
theorem qL_shifts_1022 : ey F ini rt fin K0 K (decode cL_shifts 1022) 1022 L (.int x :: r) h cs ss = (if x = 0 then K 1031 L r h cs ss else K 1025 L r h cs ss) := by
  rw [dL_shifts_1022, ey_ok, nx_ifond_30]
  exact and_l (by unfold jok; decide)
theorem qL_shifts_1025 : ey F ini rt fin K0 K (decode cL_shifts 1025) 1025 L (st) h cs ss = (lhas L 3 ∧ isRf (lgt L 3) ∧ K 1026 L (lgt L 3 :: st) h cs ss) := by
  rw [dL_shifts_1025, ey_ok, nx_aload_n_3] <;> rfl
theorem qL_shifts_1026 : ey F ini rt fin K0 K (decode cL_shifts 1026) 1026 L (st) h cs ss = (K 1027 L (.int 0 :: st) h cs ss) := by
  rw [dL_shifts_1026, ey_ok, nx_iconst_11] <;> rfl
theorem qL_shifts_1027 : ey F ini rt fin K0 K (decode cL_shifts 1027) 1027 L (.int i :: .ref a :: r) h cs ss = (isA (h.1 a) (fun k m => k = 0 ∧ vp_in i m) ∧ K 1028 L (h.2 a i.toNatClampNeg :: r) h cs ss) := by
  rw [dL_shifts_1027, ey_ok, nx_iaload_57]
theorem qL_shifts_1028 : ey F ini rt fin K0 K (decode cL_shifts 1028) 1028 L (st) h cs ss = (K 1034 L st h cs ss) := by
  rw [dL_shifts_1028, ey_ok, nx_goto_29]
  exact and_l (by unfold jok; decide)
theorem qL_shifts_1031 : ey F ini rt fin K0 K (decode cL_shifts 1031) 1031 L (st) h cs ss = (K 1034 L (.int (-1002) :: st) h cs ss) := by
  rw [dL_shifts_1031, ey_ok, nx_sipush_13] <;> rfl
theorem qL_shifts_1034 : ey F ini rt fin K0 K (decode cL_shifts 1034) 1034 L (.int y :: .int x :: r) h cs ss = (if ¬ x = y then K 1041 L r h cs ss else K 1037 L r h cs ss) := by
  rw [dL_shifts_1034, ey_ok, nx_if_icmp_37]
  exact and_l (by unfold jok; decide)
theorem qL_shifts_1037 : ey F ini rt fin K0 K (decode cL_shifts 1037) 1037 L (st) h cs ss = (K 1038 L (.int 1 :: st) h cs ss) := by
  rw [dL_shifts_1037, ey_ok, nx_iconst_11] <;> rfl
theorem qL_shifts_1038 : ey F ini rt fin K0 K (decode cL_shifts 1038) 1038 L (st) h cs ss = (K 1042 L st h cs ss) := by
  rw [dL_shifts_1038, ey_ok, nx_goto_29]
  exact and_l (by unfold jok; decide)
theorem qL_shifts_1041 : ey F ini rt fin K0 K (decode cL_shifts 1041) 1041 L (st) h cs ss = (K 1042 L (.int 0 :: st) h cs ss) := by
  rw [dL_shifts_1041, ey_ok, nx_iconst_11] <;> rfl
theorem qL_shifts_1042 : ey F ini rt fin K0 K (decode cL_shifts 1042) 1042 L ([.int x]) h cs ss = (rokI rt x ∧ fin (some (.int x)) h cs ss) := by
  rw [dL_shifts_1042, ey_ok, nx_ireturn_68]
theorem qL_claims_0 : ey F ini rt fin K0 K (decode cL_claims 0) 0 L (st) h cs ss = (lhas L 1 ∧ isI (lgt L 1) ∧ K 1 L (lgt L 1 :: st) h cs ss) := by
  rw [dL_claims_0, ey_ok, nx_iload_n_1] <;> rfl
theorem qL_claims_1 : ey F ini rt fin K0 K (decode cL_claims 1) 1 L (.int x :: r) h cs ss = (if ¬ x = 0 then K 108 L r h cs ss else K 4 L r h cs ss) := by
  rw [dL_claims_1, ey_ok, nx_ifond_31]
  exact and_l (by unfold jok; decide)
theorem qL_claims_4 : ey F ini rt fin K0 K (decode cL_claims 4) 4 L (st) h cs ss = (lhas L 2 ∧ isI (lgt L 2) ∧ K 5 L (lgt L 2 :: st) h cs ss) := by
  rw [dL_claims_4, ey_ok, nx_iload_n_1] <;> rfl
theorem qL_claims_5 : ey F ini rt fin K0 K (decode cL_claims 5) 5 L (st) h cs ss = (lhas L 3 ∧ isRf (lgt L 3) ∧ K 6 L (lgt L 3 :: st) h cs ss) := by
  rw [dL_claims_5, ey_ok, nx_aload_n_3] <;> rfl
theorem qL_claims_6 : ey F ini rt fin K0 K (decode cL_claims 6) 6 L (st) h cs ss = (K 7 L (.int 2 :: st) h cs ss) := by
  rw [dL_claims_6, ey_ok, nx_iconst_11] <;> rfl
theorem qL_claims_7 : ey F ini rt fin K0 K (decode cL_claims 7) 7 L (.int i :: .ref a :: r) h cs ss = (isA (h.1 a) (fun k m => k = 0 ∧ vp_in i m) ∧ K 8 L (h.2 a i.toNatClampNeg :: r) h cs ss) := by
  rw [dL_claims_7, ey_ok, nx_iaload_57]
theorem qL_claims_8 : ey F ini rt fin K0 K (decode cL_claims 8) 8 L (st) h cs ss = (K 9 L (.int 1 :: st) h cs ss) := by
  rw [dL_claims_8, ey_ok, nx_iconst_11] <;> rfl
theorem qL_claims_9 : ey F ini rt fin K0 K (decode cL_claims 9) 9 L (.int y :: .int x :: r) h cs ss = (K 10 L (.int (x + y) :: r) h cs ss) := by
  rw [dL_claims_9, ey_ok, nx_iadd_16]
theorem qL_claims_10 : ey F ini rt fin K0 K (decode cL_claims 10) 10 L (st) h cs ss = (K0 10 L st h cs ss) := by
  rw [dL_claims_10, ey_ok, nx_invokestatic_73]
theorem qL_claims_13 : ey F ini rt fin K0 K (decode cL_claims 13) 13 L (.int x :: r) h cs ss = (9 < L.length ∧ K 15 (L.set 9 (some (.int x))) r h cs ss) := by
  rw [dL_claims_13, ey_ok, nx_istore_4] <;> rfl
theorem qL_claims_15 : ey F ini rt fin K0 K (decode cL_claims 15) 15 L (st) h cs ss = (lhas L 9 ∧ isI (lgt L 9) ∧ K 17 L (lgt L 9 :: st) h cs ss) := by
  rw [dL_claims_15, ey_ok, nx_iload_0] <;> rfl
theorem qL_claims_17 : ey F ini rt fin K0 K (decode cL_claims 17) 17 L (st) h cs ss = (lhas L 3 ∧ isRf (lgt L 3) ∧ K 18 L (lgt L 3 :: st) h cs ss) := by
  rw [dL_claims_17, ey_ok, nx_aload_n_3] <;> rfl
theorem qL_claims_18 : ey F ini rt fin K0 K (decode cL_claims 18) 18 L (st) h cs ss = (K 19 L (.int 2 :: st) h cs ss) := by
  rw [dL_claims_18, ey_ok, nx_iconst_11] <;> rfl
theorem qL_claims_19 : ey F ini rt fin K0 K (decode cL_claims 19) 19 L (.int i :: .ref a :: r) h cs ss = (isA (h.1 a) (fun k m => k = 0 ∧ vp_in i m) ∧ K 20 L (h.2 a i.toNatClampNeg :: r) h cs ss) := by
  rw [dL_claims_19, ey_ok, nx_iaload_57]
theorem qL_claims_20 : ey F ini rt fin K0 K (decode cL_claims 20) 20 L (.int y :: .int x :: r) h cs ss = (if y ≤ x then K 27 L r h cs ss else K 23 L r h cs ss) := by
  rw [dL_claims_20, ey_ok, nx_if_icmp_39]
  exact and_l (by unfold jok; decide)
theorem qL_claims_23 : ey F ini rt fin K0 K (decode cL_claims 23) 23 L (st) h cs ss = (K 24 L (.int 1 :: st) h cs ss) := by
  rw [dL_claims_23, ey_ok, nx_iconst_11] <;> rfl
theorem qL_claims_24 : ey F ini rt fin K0 K (decode cL_claims 24) 24 L (st) h cs ss = (K 28 L st h cs ss) := by
  rw [dL_claims_24, ey_ok, nx_goto_29]
  exact and_l (by unfold jok; decide)
theorem qL_claims_27 : ey F ini rt fin K0 K (decode cL_claims 27) 27 L (st) h cs ss = (K 28 L (.int 0 :: st) h cs ss) := by
  rw [dL_claims_27, ey_ok, nx_iconst_11] <;> rfl
theorem qL_claims_28 : ey F ini rt fin K0 K (decode cL_claims 28) 28 L (.int x :: r) h cs ss = (10 < L.length ∧ K 30 (L.set 10 (some (.int x))) r h cs ss) := by
  rw [dL_claims_28, ey_ok, nx_istore_4] <;> rfl
theorem qL_claims_30 : ey F ini rt fin K0 K (decode cL_claims 30) 30 L (st) h cs ss = (lhas L 10 ∧ isI (lgt L 10) ∧ K 32 L (lgt L 10 :: st) h cs ss) := by
  rw [dL_claims_30, ey_ok, nx_iload_0] <;> rfl
theorem qL_claims_32 : ey F ini rt fin K0 K (decode cL_claims 32) 32 L (.int x :: r) h cs ss = (if ¬ x = 0 then K 41 L r h cs ss else K 35 L r h cs ss) := by
  rw [dL_claims_32, ey_ok, nx_ifond_31]
  exact and_l (by unfold jok; decide)
theorem qL_claims_35 : ey F ini rt fin K0 K (decode cL_claims 35) 35 L (st) h cs ss = (K 38 L (.int (-1001) :: st) h cs ss) := by
  rw [dL_claims_35, ey_ok, nx_sipush_13] <;> rfl
theorem qL_claims_38 : ey F ini rt fin K0 K (decode cL_claims 38) 38 L (st) h cs ss = (K 60 L st h cs ss) := by
  rw [dL_claims_38, ey_ok, nx_goto_29]
  exact and_l (by unfold jok; decide)
theorem qL_claims_41 : ey F ini rt fin K0 K (decode cL_claims 41) 41 L (st) h cs ss = (lhas L 6 ∧ isRf (lgt L 6) ∧ K 43 L (lgt L 6 :: st) h cs ss) := by
  rw [dL_claims_41, ey_ok, nx_aload_2] <;> rfl
theorem qL_claims_43 : ey F ini rt fin K0 K (decode cL_claims 43) 43 L (st) h cs ss = (K 45 L (.int 16 :: st) h cs ss) := by
  rw [dL_claims_43, ey_ok, nx_bipush_12] <;> rfl
theorem qL_claims_45 : ey F ini rt fin K0 K (decode cL_claims 45) 45 L (st) h cs ss = (lhas L 9 ∧ isI (lgt L 9) ∧ K 47 L (lgt L 9 :: st) h cs ss) := by
  rw [dL_claims_45, ey_ok, nx_iload_0] <;> rfl
theorem qL_claims_47 : ey F ini rt fin K0 K (decode cL_claims 47) 47 L (.int y :: .int x :: r) h cs ss = (K 48 L (.int (x + y) :: r) h cs ss) := by
  rw [dL_claims_47, ey_ok, nx_iadd_16]
theorem qL_claims_48 : ey F ini rt fin K0 K (decode cL_claims 48) 48 L (.int i :: .ref a :: r) h cs ss = (isA (h.1 a) (fun k m => k = 0 ∧ vp_in i m) ∧ K 49 L (h.2 a i.toNatClampNeg :: r) h cs ss) := by
  rw [dL_claims_48, ey_ok, nx_iaload_57]
theorem qL_claims_49 : ey F ini rt fin K0 K (decode cL_claims 49) 49 L (st) h cs ss = (K 50 L (.int 1 :: st) h cs ss) := by
  rw [dL_claims_49, ey_ok, nx_iconst_11] <;> rfl
theorem qL_claims_50 : ey F ini rt fin K0 K (decode cL_claims 50) 50 L (.int y :: .int x :: r) h cs ss = (if ¬ x = y then K 59 L r h cs ss else K 53 L r h cs ss) := by
  rw [dL_claims_50, ey_ok, nx_if_icmp_37]
  exact and_l (by unfold jok; decide)
theorem qL_claims_53 : ey F ini rt fin K0 K (decode cL_claims 53) 53 L (st) h cs ss = (K 56 L (.int (-1003) :: st) h cs ss) := by
  rw [dL_claims_53, ey_ok, nx_sipush_13] <;> rfl
theorem qL_claims_56 : ey F ini rt fin K0 K (decode cL_claims 56) 56 L (st) h cs ss = (K 60 L st h cs ss) := by
  rw [dL_claims_56, ey_ok, nx_goto_29]
  exact and_l (by unfold jok; decide)
theorem qL_claims_59 : ey F ini rt fin K0 K (decode cL_claims 59) 59 L (st) h cs ss = (K 60 L (.int 0 :: st) h cs ss) := by
  rw [dL_claims_59, ey_ok, nx_iconst_11] <;> rfl
theorem qL_claims_60 : ey F ini rt fin K0 K (decode cL_claims 60) 60 L (.int x :: r) h cs ss = (11 < L.length ∧ K 62 (L.set 11 (some (.int x))) r h cs ss) := by
  rw [dL_claims_60, ey_ok, nx_istore_4] <;> rfl
theorem qL_claims_62 : ey F ini rt fin K0 K (decode cL_claims 62) 62 L (st) h cs ss = (lhas L 11 ∧ isI (lgt L 11) ∧ K 64 L (lgt L 11 :: st) h cs ss) := by
  rw [dL_claims_62, ey_ok, nx_iload_0] <;> rfl
theorem qL_claims_64 : ey F ini rt fin K0 K (decode cL_claims 64) 64 L (.int x :: r) h cs ss = (if ¬ x = 0 then K 90 L r h cs ss else K 67 L r h cs ss) := by
  rw [dL_claims_64, ey_ok, nx_ifond_31]
  exact and_l (by unfold jok; decide)
theorem qL_claims_67 : ey F ini rt fin K0 K (decode cL_claims 67) 67 L (st) h cs ss = (lhas L 6 ∧ isRf (lgt L 6) ∧ K 69 L (lgt L 6 :: st) h cs ss) := by
  rw [dL_claims_67, ey_ok, nx_aload_2] <;> rfl
theorem qL_claims_69 : ey F ini rt fin K0 K (decode cL_claims 69) 69 L (st) h cs ss = (K 71 L (.int 16 :: st) h cs ss) := by
  rw [dL_claims_69, ey_ok, nx_bipush_12] <;> rfl
theorem qL_claims_71 : ey F ini rt fin K0 K (decode cL_claims 71) 71 L (st) h cs ss = (lhas L 9 ∧ isI (lgt L 9) ∧ K 73 L (lgt L 9 :: st) h cs ss) := by
  rw [dL_claims_71, ey_ok, nx_iload_0] <;> rfl
theorem qL_claims_73 : ey F ini rt fin K0 K (decode cL_claims 73) 73 L (.int y :: .int x :: r) h cs ss = (K 74 L (.int (x + y) :: r) h cs ss) := by
  rw [dL_claims_73, ey_ok, nx_iadd_16]
theorem qL_claims_74 : ey F ini rt fin K0 K (decode cL_claims 74) 74 L (st) h cs ss = (K 75 L (.int 1 :: st) h cs ss) := by
  rw [dL_claims_74, ey_ok, nx_iconst_11] <;> rfl
theorem qL_claims_75 : ey F ini rt fin K0 K (decode cL_claims 75) 75 L (.int x :: .int i :: .ref a :: r) h cs ss = (isA (h.1 a) (fun k m => k = 0 ∧ vp_in i m) ∧ K 76 L r (h.1, hup h.2 a i.toNatClampNeg (.int x)) cs ss) := by
  rw [dL_claims_75, ey_ok, nx_iastore_62]
theorem qL_claims_76 : ey F ini rt fin K0 K (decode cL_claims 76) 76 L (st) h cs ss = (lhas L 3 ∧ isRf (lgt L 3) ∧ K 77 L (lgt L 3 :: st) h cs ss) := by
  rw [dL_claims_76, ey_ok, nx_aload_n_3] <;> rfl
theorem qL_claims_77 : ey F ini rt fin K0 K (decode cL_claims 77) 77 L (st) h cs ss = (lhas L 5 ∧ isRf (lgt L 5) ∧ K 79 L (lgt L 5 :: st) h cs ss) := by
  rw [dL_claims_77, ey_ok, nx_aload_2] <;> rfl
theorem qL_claims_79 : ey F ini rt fin K0 K (decode cL_claims 79) 79 L (st) h cs ss = (lhas L 6 ∧ isRf (lgt L 6) ∧ K 81 L (lgt L 6 :: st) h cs ss) := by
  rw [dL_claims_79, ey_ok, nx_aload_2] <;> rfl
theorem qL_claims_81 : ey F ini rt fin K0 K (decode cL_claims 81) 81 L (st) h cs ss = (lhas L 7 ∧ isRf (lgt L 7) ∧ K 83 L (lgt L 7 :: st) h cs ss) := by
  rw [dL_claims_81, ey_ok, nx_aload_2] <;> rfl
theorem qL_claims_83 : ey F ini rt fin K0 K (decode cL_claims 83) 83 L (st) h cs ss = (lhas L 8 ∧ isRf (lgt L 8) ∧ K 85 L (lgt L 8 :: st) h cs ss) := by
  rw [dL_claims_83, ey_ok, nx_aload_2] <;> rfl
theorem qL_claims_85 : ey F ini rt fin K0 K (decode cL_claims 85) 85 L (st) h cs ss = (K0 85 L st h cs ss) := by
  rw [dL_claims_85, ey_ok, nx_invokestatic_73]
theorem qL_claims_88 : ey F ini rt fin K0 K (decode cL_claims 88) 88 L (.int x :: r) h cs ss = (11 < L.length ∧ K 90 (L.set 11 (some (.int x))) r h cs ss) := by
  rw [dL_claims_88, ey_ok, nx_istore_4] <;> rfl
theorem qL_claims_90 : ey F ini rt fin K0 K (decode cL_claims 90) 90 L (st) h cs ss = (lhas L 0 ∧ isRf (lgt L 0) ∧ K 91 L (lgt L 0 :: st) h cs ss) := by
  rw [dL_claims_90, ey_ok, nx_aload_n_3] <;> rfl
theorem qL_claims_91 : ey F ini rt fin K0 K (decode cL_claims 91) 91 L (st) h cs ss = (K 92 L (.int 0 :: st) h cs ss) := by
  rw [dL_claims_91, ey_ok, nx_iconst_11] <;> rfl
theorem qL_claims_92 : ey F ini rt fin K0 K (decode cL_claims 92) 92 L (st) h cs ss = (lhas L 9 ∧ isI (lgt L 9) ∧ K 94 L (lgt L 9 :: st) h cs ss) := by
  rw [dL_claims_92, ey_ok, nx_iload_0] <;> rfl
theorem qL_claims_94 : ey F ini rt fin K0 K (decode cL_claims 94) 94 L (st) h cs ss = (K0 94 L st h cs ss) := by
  rw [dL_claims_94, ey_ok, nx_invokestatic_73]
theorem qL_claims_97 : ey F ini rt fin K0 K (decode cL_claims 97) 97 L (st) h cs ss = (lhas L 11 ∧ isI (lgt L 11) ∧ K 99 L (lgt L 11 :: st) h cs ss) := by
  rw [dL_claims_97, ey_ok, nx_iload_0] <;> rfl
theorem qL_claims_99 : ey F ini rt fin K0 K (decode cL_claims 99) 99 L (.int y :: .int x :: r) h cs ss = (if ¬ x = y then K 106 L r h cs ss else K 102 L r h cs ss) := by
  rw [dL_claims_99, ey_ok, nx_if_icmp_37]
  exact and_l (by unfold jok; decide)
theorem qL_claims_102 : ey F ini rt fin K0 K (decode cL_claims 102) 102 L (st) h cs ss = (K 103 L (.int 1 :: st) h cs ss) := by
  rw [dL_claims_102, ey_ok, nx_iconst_11] <;> rfl
theorem qL_claims_103 : ey F ini rt fin K0 K (decode cL_claims 103) 103 L (st) h cs ss = (K 107 L st h cs ss) := by
  rw [dL_claims_103, ey_ok, nx_goto_29]
  exact and_l (by unfold jok; decide)
theorem qL_claims_106 : ey F ini rt fin K0 K (decode cL_claims 106) 106 L (st) h cs ss = (K 107 L (.int 0 :: st) h cs ss) := by
  rw [dL_claims_106, ey_ok, nx_iconst_11] <;> rfl
theorem qL_claims_107 : ey F ini rt fin K0 K (decode cL_claims 107) 107 L ([.int x]) h cs ss = (rokI rt x ∧ fin (some (.int x)) h cs ss) := by
  rw [dL_claims_107, ey_ok, nx_ireturn_68]
theorem qL_claims_108 : ey F ini rt fin K0 K (decode cL_claims 108) 108 L (st) h cs ss = (lhas L 2 ∧ isI (lgt L 2) ∧ K 109 L (lgt L 2 :: st) h cs ss) := by
  rw [dL_claims_108, ey_ok, nx_iload_n_1] <;> rfl
theorem qL_claims_109 : ey F ini rt fin K0 K (decode cL_claims 109) 109 L (st) h cs ss = (lhas L 3 ∧ isRf (lgt L 3) ∧ K 110 L (lgt L 3 :: st) h cs ss) := by
  rw [dL_claims_109, ey_ok, nx_aload_n_3] <;> rfl
theorem qL_claims_110 : ey F ini rt fin K0 K (decode cL_claims 110) 110 L (st) h cs ss = (K 111 L (.int 3 :: st) h cs ss) := by
  rw [dL_claims_110, ey_ok, nx_iconst_11] <;> rfl
theorem qL_claims_111 : ey F ini rt fin K0 K (decode cL_claims 111) 111 L (.int i :: .ref a :: r) h cs ss = (isA (h.1 a) (fun k m => k = 0 ∧ vp_in i m) ∧ K 112 L (h.2 a i.toNatClampNeg :: r) h cs ss) := by
  rw [dL_claims_111, ey_ok, nx_iaload_57]
theorem qL_claims_112 : ey F ini rt fin K0 K (decode cL_claims 112) 112 L (st) h cs ss = (K 113 L (.int 1 :: st) h cs ss) := by
  rw [dL_claims_112, ey_ok, nx_iconst_11] <;> rfl
theorem qL_claims_113 : ey F ini rt fin K0 K (decode cL_claims 113) 113 L (.int y :: .int x :: r) h cs ss = (K 114 L (.int (x + y) :: r) h cs ss) := by
  rw [dL_claims_113, ey_ok, nx_iadd_16]
theorem qL_claims_114 : ey F ini rt fin K0 K (decode cL_claims 114) 114 L (st) h cs ss = (K0 114 L st h cs ss) := by
  rw [dL_claims_114, ey_ok, nx_invokestatic_73]
theorem qL_claims_117 : ey F ini rt fin K0 K (decode cL_claims 117) 117 L (st) h cs ss = (lhas L 2 ∧ isI (lgt L 2) ∧ K 118 L (lgt L 2 :: st) h cs ss) := by
  rw [dL_claims_117, ey_ok, nx_iload_n_1] <;> rfl
theorem qL_claims_118 : ey F ini rt fin K0 K (decode cL_claims 118) 118 L (st) h cs ss = (K 120 L (.int 11 :: st) h cs ss) := by
  rw [dL_claims_118, ey_ok, nx_bipush_12] <;> rfl
theorem qL_claims_120 : ey F ini rt fin K0 K (decode cL_claims 120) 120 L (.int y :: .int x :: r) h cs ss = (K 121 L (.int (x >>> (y &&& 31)) :: r) h cs ss) := by
  rw [dL_claims_120, ey_ok, nx_ishr_21]
theorem qL_claims_121 : ey F ini rt fin K0 K (decode cL_claims 121) 121 L (st) h cs ss = (K 123 L (.int 19 :: st) h cs ss) := by
  rw [dL_claims_121, ey_ok, nx_bipush_12] <;> rfl
theorem qL_claims_123 : ey F ini rt fin K0 K (decode cL_claims 123) 123 L (st) h cs ss = (K0 123 L st h cs ss) := by
  rw [dL_claims_123, ey_ok, nx_invokestatic_73]
theorem qL_claims_126 : ey F ini rt fin K0 K (decode cL_claims 126) 126 L (.int x :: r) h cs ss = (if ¬ x = 0 then K 133 L r h cs ss else K 129 L r h cs ss) := by
  rw [dL_claims_126, ey_ok, nx_ifond_31]
  exact and_l (by unfold jok; decide)
theorem qL_claims_129 : ey F ini rt fin K0 K (decode cL_claims 129) 129 L (st) h cs ss = (K 130 L (.int 1 :: st) h cs ss) := by
  rw [dL_claims_129, ey_ok, nx_iconst_11] <;> rfl
theorem qL_claims_130 : ey F ini rt fin K0 K (decode cL_claims 130) 130 L (st) h cs ss = (K 134 L st h cs ss) := by
  rw [dL_claims_130, ey_ok, nx_goto_29]
  exact and_l (by unfold jok; decide)
theorem qL_claims_133 : ey F ini rt fin K0 K (decode cL_claims 133) 133 L (st) h cs ss = (K 134 L (.int 0 :: st) h cs ss) := by
  rw [dL_claims_133, ey_ok, nx_iconst_11] <;> rfl
theorem qL_claims_134 : ey F ini rt fin K0 K (decode cL_claims 134) 134 L (.int y :: .int x :: r) h cs ss = (K 135 L (.int (x - y) :: r) h cs ss) := by
  rw [dL_claims_134, ey_ok, nx_isub_17]
theorem qL_claims_135 : ey F ini rt fin K0 K (decode cL_claims 135) 135 L (.int x :: r) h cs ss = (9 < L.length ∧ K 137 (L.set 9 (some (.int x))) r h cs ss) := by
  rw [dL_claims_135, ey_ok, nx_istore_4] <;> rfl
theorem qL_claims_137 : ey F ini rt fin K0 K (decode cL_claims 137) 137 L (st) h cs ss = (lhas L 9 ∧ isI (lgt L 9) ∧ K 139 L (lgt L 9 :: st) h cs ss) := by
  rw [dL_claims_137, ey_ok, nx_iload_0] <;> rfl
theorem qL_claims_139 : ey F ini rt fin K0 K (decode cL_claims 139) 139 L (.int x :: r) h cs ss = (if x < 0 then K 154 L r h cs ss else K 142 L r h cs ss) := by
  rw [dL_claims_139, ey_ok, nx_ifond_32]
  exact and_l (by unfold jok; decide)
theorem qL_claims_142 : ey F ini rt fin K0 K (decode cL_claims 142) 142 L (st) h cs ss = (lhas L 9 ∧ isI (lgt L 9) ∧ K 144 L (lgt L 9 :: st) h cs ss) := by
  rw [dL_claims_142, ey_ok, nx_iload_0] <;> rfl
theorem qL_claims_144 : ey F ini rt fin K0 K (decode cL_claims 144) 144 L (st) h cs ss = (lhas L 3 ∧ isRf (lgt L 3) ∧ K 145 L (lgt L 3 :: st) h cs ss) := by
  rw [dL_claims_144, ey_ok, nx_aload_n_3] <;> rfl
theorem qL_claims_145 : ey F ini rt fin K0 K (decode cL_claims 145) 145 L (st) h cs ss = (K 146 L (.int 3 :: st) h cs ss) := by
  rw [dL_claims_145, ey_ok, nx_iconst_11] <;> rfl
theorem qL_claims_146 : ey F ini rt fin K0 K (decode cL_claims 146) 146 L (.int i :: .ref a :: r) h cs ss = (isA (h.1 a) (fun k m => k = 0 ∧ vp_in i m) ∧ K 147 L (h.2 a i.toNatClampNeg :: r) h cs ss) := by
  rw [dL_claims_146, ey_ok, nx_iaload_57]
theorem qL_claims_147 : ey F ini rt fin K0 K (decode cL_claims 147) 147 L (.int y :: .int x :: r) h cs ss = (if y ≤ x then K 154 L r h cs ss else K 150 L r h cs ss) := by
  rw [dL_claims_147, ey_ok, nx_if_icmp_39]
  exact and_l (by unfold jok; decide)
theorem qL_claims_150 : ey F ini rt fin K0 K (decode cL_claims 150) 150 L (st) h cs ss = (K 151 L (.int 1 :: st) h cs ss) := by
  rw [dL_claims_150, ey_ok, nx_iconst_11] <;> rfl
theorem qL_claims_151 : ey F ini rt fin K0 K (decode cL_claims 151) 151 L (st) h cs ss = (K 155 L st h cs ss) := by
  rw [dL_claims_151, ey_ok, nx_goto_29]
  exact and_l (by unfold jok; decide)
theorem qL_claims_154 : ey F ini rt fin K0 K (decode cL_claims 154) 154 L (st) h cs ss = (K 155 L (.int 0 :: st) h cs ss) := by
  rw [dL_claims_154, ey_ok, nx_iconst_11] <;> rfl
theorem qL_claims_155 : ey F ini rt fin K0 K (decode cL_claims 155) 155 L (.int x :: r) h cs ss = (10 < L.length ∧ K 157 (L.set 10 (some (.int x))) r h cs ss) := by
  rw [dL_claims_155, ey_ok, nx_istore_4] <;> rfl
theorem qL_claims_157 : ey F ini rt fin K0 K (decode cL_claims 157) 157 L (st) h cs ss = (lhas L 10 ∧ isI (lgt L 10) ∧ K 159 L (lgt L 10 :: st) h cs ss) := by
  rw [dL_claims_157, ey_ok, nx_iload_0] <;> rfl
theorem qL_claims_159 : ey F ini rt fin K0 K (decode cL_claims 159) 159 L (.int x :: r) h cs ss = (if x = 0 then K 172 L r h cs ss else K 162 L r h cs ss) := by
  rw [dL_claims_159, ey_ok, nx_ifond_30]
  exact and_l (by unfold jok; decide)
theorem qL_claims_162 : ey F ini rt fin K0 K (decode cL_claims 162) 162 L (st) h cs ss = (lhas L 8 ∧ isRf (lgt L 8) ∧ K 164 L (lgt L 8 :: st) h cs ss) := by
  rw [dL_claims_162, ey_ok, nx_aload_2] <;> rfl
theorem qL_claims_164 : ey F ini rt fin K0 K (decode cL_claims 164) 164 L (st) h cs ss = (lhas L 9 ∧ isI (lgt L 9) ∧ K 166 L (lgt L 9 :: st) h cs ss) := by
  rw [dL_claims_164, ey_ok, nx_iload_0] <;> rfl
theorem qL_claims_166 : ey F ini rt fin K0 K (decode cL_claims 166) 166 L (.int i :: .ref a :: r) h cs ss = (isA (h.1 a) (fun k m => k = 0 ∧ vp_in i m) ∧ K 167 L (h.2 a i.toNatClampNeg :: r) h cs ss) := by
  rw [dL_claims_166, ey_ok, nx_iaload_57]
theorem qL_claims_167 : ey F ini rt fin K0 K (decode cL_claims 167) 167 L (st) h cs ss = (K 168 L (.int 4 :: st) h cs ss) := by
  rw [dL_claims_167, ey_ok, nx_iconst_11] <;> rfl
theorem qL_claims_168 : ey F ini rt fin K0 K (decode cL_claims 168) 168 L (.int y :: .int x :: r) h cs ss = (¬ y = 0 ∧ K 169 L (.int (x - x / y * y) :: r) h cs ss) := by
  rw [dL_claims_168, ey_ok, nx_irem_81]
theorem qL_claims_169 : ey F ini rt fin K0 K (decode cL_claims 169) 169 L (st) h cs ss = (K 173 L st h cs ss) := by
  rw [dL_claims_169, ey_ok, nx_goto_29]
  exact and_l (by unfold jok; decide)
theorem qL_claims_172 : ey F ini rt fin K0 K (decode cL_claims 172) 172 L (st) h cs ss = (K 173 L (.int 0 :: st) h cs ss) := by
  rw [dL_claims_172, ey_ok, nx_iconst_11] <;> rfl
theorem qL_claims_173 : ey F ini rt fin K0 K (decode cL_claims 173) 173 L (.int x :: r) h cs ss = (11 < L.length ∧ K 175 (L.set 11 (some (.int x))) r h cs ss) := by
  rw [dL_claims_173, ey_ok, nx_istore_4] <;> rfl
theorem qL_claims_175 : ey F ini rt fin K0 K (decode cL_claims 175) 175 L (st) h cs ss = (lhas L 1 ∧ isI (lgt L 1) ∧ K 176 L (lgt L 1 :: st) h cs ss) := by
  rw [dL_claims_175, ey_ok, nx_iload_n_1] <;> rfl
theorem qL_claims_176 : ey F ini rt fin K0 K (decode cL_claims 176) 176 L (st) h cs ss = (K 177 L (.int 1 :: st) h cs ss) := by
  rw [dL_claims_176, ey_ok, nx_iconst_11] <;> rfl
theorem qL_claims_177 : ey F ini rt fin K0 K (decode cL_claims 177) 177 L (.int y :: .int x :: r) h cs ss = (if ¬ x = y then K 252 L r h cs ss else K 180 L r h cs ss) := by
  rw [dL_claims_177, ey_ok, nx_if_icmp_37]
  exact and_l (by unfold jok; decide)
theorem qL_claims_180 : ey F ini rt fin K0 K (decode cL_claims 180) 180 L (st) h cs ss = (lhas L 10 ∧ isI (lgt L 10) ∧ K 182 L (lgt L 10 :: st) h cs ss) := by
  rw [dL_claims_180, ey_ok, nx_iload_0] <;> rfl
theorem qL_claims_182 : ey F ini rt fin K0 K (decode cL_claims 182) 182 L (.int x :: r) h cs ss = (if ¬ x = 0 then K 191 L r h cs ss else K 185 L r h cs ss) := by
  rw [dL_claims_182, ey_ok, nx_ifond_31]
  exact and_l (by unfold jok; decide)
theorem qL_claims_185 : ey F ini rt fin K0 K (decode cL_claims 185) 185 L (st) h cs ss = (K 188 L (.int (-1001) :: st) h cs ss) := by
  rw [dL_claims_185, ey_ok, nx_sipush_13] <;> rfl
theorem qL_claims_188 : ey F ini rt fin K0 K (decode cL_claims 188) 188 L (st) h cs ss = (K 216 L st h cs ss) := by
  rw [dL_claims_188, ey_ok, nx_goto_29]
  exact and_l (by unfold jok; decide)
theorem qL_claims_191 : ey F ini rt fin K0 K (decode cL_claims 191) 191 L (st) h cs ss = (lhas L 11 ∧ isI (lgt L 11) ∧ K 193 L (lgt L 11 :: st) h cs ss) := by
  rw [dL_claims_191, ey_ok, nx_iload_0] <;> rfl
theorem qL_claims_193 : ey F ini rt fin K0 K (decode cL_claims 193) 193 L (.int x :: r) h cs ss = (if x = 0 then K 202 L r h cs ss else K 196 L r h cs ss) := by
  rw [dL_claims_193, ey_ok, nx_ifond_30]
  exact and_l (by unfold jok; decide)
theorem qL_claims_196 : ey F ini rt fin K0 K (decode cL_claims 196) 196 L (st) h cs ss = (K 199 L (.int (-1003) :: st) h cs ss) := by
  rw [dL_claims_196, ey_ok, nx_sipush_13] <;> rfl
theorem qL_claims_199 : ey F ini rt fin K0 K (decode cL_claims 199) 199 L (st) h cs ss = (K 216 L st h cs ss) := by
  rw [dL_claims_199, ey_ok, nx_goto_29]
  exact and_l (by unfold jok; decide)
theorem qL_claims_202 : ey F ini rt fin K0 K (decode cL_claims 202) 202 L (st) h cs ss = (lhas L 4 ∧ isRf (lgt L 4) ∧ K 204 L (lgt L 4 :: st) h cs ss) := by
  rw [dL_claims_202, ey_ok, nx_aload_2] <;> rfl
theorem qL_claims_204 : ey F ini rt fin K0 K (decode cL_claims 204) 204 L (st) h cs ss = (lhas L 5 ∧ isRf (lgt L 5) ∧ K 206 L (lgt L 5 :: st) h cs ss) := by
  rw [dL_claims_204, ey_ok, nx_aload_2] <;> rfl
theorem qL_claims_206 : ey F ini rt fin K0 K (decode cL_claims 206) 206 L (st) h cs ss = (lhas L 6 ∧ isRf (lgt L 6) ∧ K 208 L (lgt L 6 :: st) h cs ss) := by
  rw [dL_claims_206, ey_ok, nx_aload_2] <;> rfl
theorem qL_claims_208 : ey F ini rt fin K0 K (decode cL_claims 208) 208 L (st) h cs ss = (lhas L 7 ∧ isRf (lgt L 7) ∧ K 210 L (lgt L 7 :: st) h cs ss) := by
  rw [dL_claims_208, ey_ok, nx_aload_2] <;> rfl
theorem qL_claims_210 : ey F ini rt fin K0 K (decode cL_claims 210) 210 L (st) h cs ss = (lhas L 9 ∧ isI (lgt L 9) ∧ K 212 L (lgt L 9 :: st) h cs ss) := by
  rw [dL_claims_210, ey_ok, nx_iload_0] <;> rfl
theorem qL_claims_212 : ey F ini rt fin K0 K (decode cL_claims 212) 212 L (.int i :: .ref a :: r) h cs ss = (isA (h.1 a) (fun k m => k = 0 ∧ vp_in i m) ∧ K 213 L (h.2 a i.toNatClampNeg :: r) h cs ss) := by
  rw [dL_claims_212, ey_ok, nx_iaload_57]
theorem qL_claims_213 : ey F ini rt fin K0 K (decode cL_claims 213) 213 L (st) h cs ss = (K0 213 L st h cs ss) := by
  rw [dL_claims_213, ey_ok, nx_invokestatic_73]
theorem qL_claims_216 : ey F ini rt fin K0 K (decode cL_claims 216) 216 L (.int x :: r) h cs ss = (12 < L.length ∧ K 218 (L.set 12 (some (.int x))) r h cs ss) := by
  rw [dL_claims_216, ey_ok, nx_istore_4] <;> rfl
theorem qL_claims_218 : ey F ini rt fin K0 K (decode cL_claims 218) 218 L (st) h cs ss = (lhas L 12 ∧ isI (lgt L 12) ∧ K 220 L (lgt L 12 :: st) h cs ss) := by
  rw [dL_claims_218, ey_ok, nx_iload_0] <;> rfl
theorem qL_claims_220 : ey F ini rt fin K0 K (decode cL_claims 220) 220 L (.int x :: r) h cs ss = (if x < 0 then K 234 L r h cs ss else K 223 L r h cs ss) := by
  rw [dL_claims_220, ey_ok, nx_ifond_32]
  exact and_l (by unfold jok; decide)
theorem qL_claims_223 : ey F ini rt fin K0 K (decode cL_claims 223) 223 L (st) h cs ss = (lhas L 8 ∧ isRf (lgt L 8) ∧ K 225 L (lgt L 8 :: st) h cs ss) := by
  rw [dL_claims_223, ey_ok, nx_aload_2] <;> rfl
theorem qL_claims_225 : ey F ini rt fin K0 K (decode cL_claims 225) 225 L (st) h cs ss = (lhas L 9 ∧ isI (lgt L 9) ∧ K 227 L (lgt L 9 :: st) h cs ss) := by
  rw [dL_claims_225, ey_ok, nx_iload_0] <;> rfl
theorem qL_claims_227 : ey F ini rt fin K0 K (decode cL_claims 227) 227 L (st) h cs ss = (K 228 L (.int 1 :: st) h cs ss) := by
  rw [dL_claims_227, ey_ok, nx_iconst_11] <;> rfl
theorem qL_claims_228 : ey F ini rt fin K0 K (decode cL_claims 228) 228 L (st) h cs ss = (K 229 L (.int 4 :: st) h cs ss) := by
  rw [dL_claims_228, ey_ok, nx_iconst_11] <;> rfl
theorem qL_claims_229 : ey F ini rt fin K0 K (decode cL_claims 229) 229 L (st) h cs ss = (lhas L 12 ∧ isI (lgt L 12) ∧ K 231 L (lgt L 12 :: st) h cs ss) := by
  rw [dL_claims_229, ey_ok, nx_iload_0] <;> rfl
theorem qL_claims_231 : ey F ini rt fin K0 K (decode cL_claims 231) 231 L (.int y :: .int x :: r) h cs ss = (K 232 L (.int (x * y) :: r) h cs ss) := by
  rw [dL_claims_231, ey_ok, nx_imul_18]
theorem qL_claims_232 : ey F ini rt fin K0 K (decode cL_claims 232) 232 L (.int y :: .int x :: r) h cs ss = (K 233 L (.int (x + y) :: r) h cs ss) := by
  rw [dL_claims_232, ey_ok, nx_iadd_16]
theorem qL_claims_233 : ey F ini rt fin K0 K (decode cL_claims 233) 233 L (.int x :: .int i :: .ref a :: r) h cs ss = (isA (h.1 a) (fun k m => k = 0 ∧ vp_in i m) ∧ K 234 L r (h.1, hup h.2 a i.toNatClampNeg (.int x)) cs ss) := by
  rw [dL_claims_233, ey_ok, nx_iastore_62]
theorem qL_claims_234 : ey F ini rt fin K0 K (decode cL_claims 234) 234 L (st) h cs ss = (lhas L 0 ∧ isRf (lgt L 0) ∧ K 235 L (lgt L 0 :: st) h cs ss) := by
  rw [dL_claims_234, ey_ok, nx_aload_n_3] <;> rfl
theorem qL_claims_235 : ey F ini rt fin K0 K (decode cL_claims 235) 235 L (st) h cs ss = (K 236 L (.int 1 :: st) h cs ss) := by
  rw [dL_claims_235, ey_ok, nx_iconst_11] <;> rfl
theorem qL_claims_236 : ey F ini rt fin K0 K (decode cL_claims 236) 236 L (st) h cs ss = (lhas L 9 ∧ isI (lgt L 9) ∧ K 238 L (lgt L 9 :: st) h cs ss) := by
  rw [dL_claims_236, ey_ok, nx_iload_0] <;> rfl
theorem qL_claims_238 : ey F ini rt fin K0 K (decode cL_claims 238) 238 L (st) h cs ss = (K0 238 L st h cs ss) := by
  rw [dL_claims_238, ey_ok, nx_invokestatic_73]
theorem qL_claims_241 : ey F ini rt fin K0 K (decode cL_claims 241) 241 L (st) h cs ss = (lhas L 12 ∧ isI (lgt L 12) ∧ K 243 L (lgt L 12 :: st) h cs ss) := by
  rw [dL_claims_241, ey_ok, nx_iload_0] <;> rfl
theorem qL_claims_243 : ey F ini rt fin K0 K (decode cL_claims 243) 243 L (.int y :: .int x :: r) h cs ss = (if ¬ x = y then K 250 L r h cs ss else K 246 L r h cs ss) := by
  rw [dL_claims_243, ey_ok, nx_if_icmp_37]
  exact and_l (by unfold jok; decide)
theorem qL_claims_246 : ey F ini rt fin K0 K (decode cL_claims 246) 246 L (st) h cs ss = (K 247 L (.int 1 :: st) h cs ss) := by
  rw [dL_claims_246, ey_ok, nx_iconst_11] <;> rfl
theorem qL_claims_247 : ey F ini rt fin K0 K (decode cL_claims 247) 247 L (st) h cs ss = (K 251 L st h cs ss) := by
  rw [dL_claims_247, ey_ok, nx_goto_29]
  exact and_l (by unfold jok; decide)
theorem qL_claims_250 : ey F ini rt fin K0 K (decode cL_claims 250) 250 L (st) h cs ss = (K 251 L (.int 0 :: st) h cs ss) := by
  rw [dL_claims_250, ey_ok, nx_iconst_11] <;> rfl
theorem qL_claims_251 : ey F ini rt fin K0 K (decode cL_claims 251) 251 L ([.int x]) h cs ss = (rokI rt x ∧ fin (some (.int x)) h cs ss) := by
  rw [dL_claims_251, ey_ok, nx_ireturn_68]
theorem qL_claims_252 : ey F ini rt fin K0 K (decode cL_claims 252) 252 L (st) h cs ss = (lhas L 10 ∧ isI (lgt L 10) ∧ K 254 L (lgt L 10 :: st) h cs ss) := by
  rw [dL_claims_252, ey_ok, nx_iload_0] <;> rfl
theorem qL_claims_254 : ey F ini rt fin K0 K (decode cL_claims 254) 254 L (.int x :: r) h cs ss = (if ¬ x = 0 then K 263 L r h cs ss else K 257 L r h cs ss) := by
  rw [dL_claims_254, ey_ok, nx_ifond_31]
  exact and_l (by unfold jok; decide)
theorem qL_claims_257 : ey F ini rt fin K0 K (decode cL_claims 257) 257 L (st) h cs ss = (K 260 L (.int (-1001) :: st) h cs ss) := by
  rw [dL_claims_257, ey_ok, nx_sipush_13] <;> rfl
theorem qL_claims_260 : ey F ini rt fin K0 K (decode cL_claims 260) 260 L (st) h cs ss = (K 282 L st h cs ss) := by
  rw [dL_claims_260, ey_ok, nx_goto_29]
  exact and_l (by unfold jok; decide)
theorem qL_claims_263 : ey F ini rt fin K0 K (decode cL_claims 263) 263 L (st) h cs ss = (lhas L 11 ∧ isI (lgt L 11) ∧ K 265 L (lgt L 11 :: st) h cs ss) := by
  rw [dL_claims_263, ey_ok, nx_iload_0] <;> rfl
theorem qL_claims_265 : ey F ini rt fin K0 K (decode cL_claims 265) 265 L (st) h cs ss = (K 266 L (.int 3 :: st) h cs ss) := by
  rw [dL_claims_265, ey_ok, nx_iconst_11] <;> rfl
theorem qL_claims_266 : ey F ini rt fin K0 K (decode cL_claims 266) 266 L (.int y :: .int x :: r) h cs ss = (if x = y then K 275 L r h cs ss else K 269 L r h cs ss) := by
  rw [dL_claims_266, ey_ok, nx_if_icmp_36]
  exact and_l (by unfold jok; decide)
theorem qL_claims_269 : ey F ini rt fin K0 K (decode cL_claims 269) 269 L (st) h cs ss = (K 272 L (.int (-1003) :: st) h cs ss) := by
  rw [dL_claims_269, ey_ok, nx_sipush_13] <;> rfl
theorem qL_claims_272 : ey F ini rt fin K0 K (decode cL_claims 272) 272 L (st) h cs ss = (K 282 L st h cs ss) := by
  rw [dL_claims_272, ey_ok, nx_goto_29]
  exact and_l (by unfold jok; decide)
theorem qL_claims_275 : ey F ini rt fin K0 K (decode cL_claims 275) 275 L (st) h cs ss = (lhas L 8 ∧ isRf (lgt L 8) ∧ K 277 L (lgt L 8 :: st) h cs ss) := by
  rw [dL_claims_275, ey_ok, nx_aload_2] <;> rfl
theorem qL_claims_277 : ey F ini rt fin K0 K (decode cL_claims 277) 277 L (st) h cs ss = (lhas L 9 ∧ isI (lgt L 9) ∧ K 279 L (lgt L 9 :: st) h cs ss) := by
  rw [dL_claims_277, ey_ok, nx_iload_0] <;> rfl
theorem qL_claims_279 : ey F ini rt fin K0 K (decode cL_claims 279) 279 L (.int i :: .ref a :: r) h cs ss = (isA (h.1 a) (fun k m => k = 0 ∧ vp_in i m) ∧ K 280 L (h.2 a i.toNatClampNeg :: r) h cs ss) := by
  rw [dL_claims_279, ey_ok, nx_iaload_57]
theorem qL_claims_280 : ey F ini rt fin K0 K (decode cL_claims 280) 280 L (st) h cs ss = (K 281 L (.int 4 :: st) h cs ss) := by
  rw [dL_claims_280, ey_ok, nx_iconst_11] <;> rfl
theorem qL_claims_281 : ey F ini rt fin K0 K (decode cL_claims 281) 281 L (.int y :: .int x :: r) h cs ss = (¬ y = 0 ∧ K 282 L (.int (x / y) :: r) h cs ss) := by
  rw [dL_claims_281, ey_ok, nx_idiv_23]
theorem qL_claims_282 : ey F ini rt fin K0 K (decode cL_claims 282) 282 L (.int x :: r) h cs ss = (12 < L.length ∧ K 284 (L.set 12 (some (.int x))) r h cs ss) := by
  rw [dL_claims_282, ey_ok, nx_istore_4] <;> rfl
theorem qL_claims_284 : ey F ini rt fin K0 K (decode cL_claims 284) 284 L (st) h cs ss = (lhas L 12 ∧ isI (lgt L 12) ∧ K 286 L (lgt L 12 :: st) h cs ss) := by
  rw [dL_claims_284, ey_ok, nx_iload_0] <;> rfl
theorem qL_claims_286 : ey F ini rt fin K0 K (decode cL_claims 286) 286 L (.int x :: r) h cs ss = (if x < 0 then K 295 L r h cs ss else K 289 L r h cs ss) := by
  rw [dL_claims_286, ey_ok, nx_ifond_32]
  exact and_l (by unfold jok; decide)
theorem qL_claims_289 : ey F ini rt fin K0 K (decode cL_claims 289) 289 L (st) h cs ss = (lhas L 8 ∧ isRf (lgt L 8) ∧ K 291 L (lgt L 8 :: st) h cs ss) := by
  rw [dL_claims_289, ey_ok, nx_aload_2] <;> rfl
theorem qL_claims_291 : ey F ini rt fin K0 K (decode cL_claims 291) 291 L (st) h cs ss = (lhas L 9 ∧ isI (lgt L 9) ∧ K 293 L (lgt L 9 :: st) h cs ss) := by
  rw [dL_claims_291, ey_ok, nx_iload_0] <;> rfl
theorem qL_claims_293 : ey F ini rt fin K0 K (decode cL_claims 293) 293 L (st) h cs ss = (K 294 L (.int 2 :: st) h cs ss) := by
  rw [dL_claims_293, ey_ok, nx_iconst_11] <;> rfl
theorem qL_claims_294 : ey F ini rt fin K0 K (decode cL_claims 294) 294 L (.int x :: .int i :: .ref a :: r) h cs ss = (isA (h.1 a) (fun k m => k = 0 ∧ vp_in i m) ∧ K 295 L r (h.1, hup h.2 a i.toNatClampNeg (.int x)) cs ss) := by
  rw [dL_claims_294, ey_ok, nx_iastore_62]
theorem qL_claims_295 : ey F ini rt fin K0 K (decode cL_claims 295) 295 L (st) h cs ss = (lhas L 0 ∧ isRf (lgt L 0) ∧ K 296 L (lgt L 0 :: st) h cs ss) := by
  rw [dL_claims_295, ey_ok, nx_aload_n_3] <;> rfl
theorem qL_claims_296 : ey F ini rt fin K0 K (decode cL_claims 296) 296 L (st) h cs ss = (K 297 L (.int 2 :: st) h cs ss) := by
  rw [dL_claims_296, ey_ok, nx_iconst_11] <;> rfl
theorem qL_claims_297 : ey F ini rt fin K0 K (decode cL_claims 297) 297 L (st) h cs ss = (lhas L 9 ∧ isI (lgt L 9) ∧ K 299 L (lgt L 9 :: st) h cs ss) := by
  rw [dL_claims_297, ey_ok, nx_iload_0] <;> rfl
theorem qL_claims_299 : ey F ini rt fin K0 K (decode cL_claims 299) 299 L (st) h cs ss = (K0 299 L st h cs ss) := by
  rw [dL_claims_299, ey_ok, nx_invokestatic_73]
theorem qL_claims_302 : ey F ini rt fin K0 K (decode cL_claims 302) 302 L (st) h cs ss = (lhas L 12 ∧ isI (lgt L 12) ∧ K 304 L (lgt L 12 :: st) h cs ss) := by
  rw [dL_claims_302, ey_ok, nx_iload_0] <;> rfl
theorem qL_claims_304 : ey F ini rt fin K0 K (decode cL_claims 304) 304 L (.int y :: .int x :: r) h cs ss = (if ¬ x = y then K 311 L r h cs ss else K 307 L r h cs ss) := by
  rw [dL_claims_304, ey_ok, nx_if_icmp_37]
  exact and_l (by unfold jok; decide)
theorem qL_claims_307 : ey F ini rt fin K0 K (decode cL_claims 307) 307 L (st) h cs ss = (K 308 L (.int 1 :: st) h cs ss) := by
  rw [dL_claims_307, ey_ok, nx_iconst_11] <;> rfl
theorem qL_claims_308 : ey F ini rt fin K0 K (decode cL_claims 308) 308 L (st) h cs ss = (K 312 L st h cs ss) := by
  rw [dL_claims_308, ey_ok, nx_goto_29]
  exact and_l (by unfold jok; decide)
theorem qL_claims_311 : ey F ini rt fin K0 K (decode cL_claims 311) 311 L (st) h cs ss = (K 312 L (.int 0 :: st) h cs ss) := by
  rw [dL_claims_311, ey_ok, nx_iconst_11] <;> rfl
theorem qL_claims_312 : ey F ini rt fin K0 K (decode cL_claims 312) 312 L ([.int x]) h cs ss = (rokI rt x ∧ fin (some (.int x)) h cs ss) := by
  rw [dL_claims_312, ey_ok, nx_ireturn_68]
theorem qL_offers_0 : ey F ini rt fin K0 K (decode cL_offers 0) 0 L (st) h cs ss = (lhas L 2 ∧ isI (lgt L 2) ∧ K 1 L (lgt L 2 :: st) h cs ss) := by
  rw [dL_offers_0, ey_ok, nx_iload_n_1] <;> rfl
theorem qL_offers_1 : ey F ini rt fin K0 K (decode cL_offers 1) 1 L (st) h cs ss = (lhas L 3 ∧ isRf (lgt L 3) ∧ K 2 L (lgt L 3 :: st) h cs ss) := by
  rw [dL_offers_1, ey_ok, nx_aload_n_3] <;> rfl
theorem qL_offers_2 : ey F ini rt fin K0 K (decode cL_offers 2) 2 L (st) h cs ss = (K 3 L (.int 4 :: st) h cs ss) := by
  rw [dL_offers_2, ey_ok, nx_iconst_11] <;> rfl
theorem qL_offers_3 : ey F ini rt fin K0 K (decode cL_offers 3) 3 L (.int i :: .ref a :: r) h cs ss = (isA (h.1 a) (fun k m => k = 0 ∧ vp_in i m) ∧ K 4 L (h.2 a i.toNatClampNeg :: r) h cs ss) := by
  rw [dL_offers_3, ey_ok, nx_iaload_57]
theorem qL_offers_4 : ey F ini rt fin K0 K (decode cL_offers 4) 4 L (st) h cs ss = (K 5 L (.int 1 :: st) h cs ss) := by
  rw [dL_offers_4, ey_ok, nx_iconst_11] <;> rfl
theorem qL_offers_5 : ey F ini rt fin K0 K (decode cL_offers 5) 5 L (.int y :: .int x :: r) h cs ss = (K 6 L (.int (x + y) :: r) h cs ss) := by
  rw [dL_offers_5, ey_ok, nx_iadd_16]
theorem qL_offers_6 : ey F ini rt fin K0 K (decode cL_offers 6) 6 L (st) h cs ss = (K0 6 L st h cs ss) := by
  rw [dL_offers_6, ey_ok, nx_invokestatic_73]
theorem qL_offers_9 : ey F ini rt fin K0 K (decode cL_offers 9) 9 L (st) h cs ss = (lhas L 2 ∧ isI (lgt L 2) ∧ K 10 L (lgt L 2 :: st) h cs ss) := by
  rw [dL_offers_9, ey_ok, nx_iload_n_1] <;> rfl
theorem qL_offers_10 : ey F ini rt fin K0 K (decode cL_offers 10) 10 L (st) h cs ss = (K 12 L (.int 11 :: st) h cs ss) := by
  rw [dL_offers_10, ey_ok, nx_bipush_12] <;> rfl
theorem qL_offers_12 : ey F ini rt fin K0 K (decode cL_offers 12) 12 L (.int y :: .int x :: r) h cs ss = (K 13 L (.int (x >>> (y &&& 31)) :: r) h cs ss) := by
  rw [dL_offers_12, ey_ok, nx_ishr_21]
theorem qL_offers_13 : ey F ini rt fin K0 K (decode cL_offers 13) 13 L (st) h cs ss = (K 15 L (.int 19 :: st) h cs ss) := by
  rw [dL_offers_13, ey_ok, nx_bipush_12] <;> rfl
theorem qL_offers_15 : ey F ini rt fin K0 K (decode cL_offers 15) 15 L (st) h cs ss = (K0 15 L st h cs ss) := by
  rw [dL_offers_15, ey_ok, nx_invokestatic_73]
theorem qL_offers_18 : ey F ini rt fin K0 K (decode cL_offers 18) 18 L (.int x :: r) h cs ss = (if ¬ x = 0 then K 25 L r h cs ss else K 21 L r h cs ss) := by
  rw [dL_offers_18, ey_ok, nx_ifond_31]
  exact and_l (by unfold jok; decide)
theorem qL_offers_21 : ey F ini rt fin K0 K (decode cL_offers 21) 21 L (st) h cs ss = (K 22 L (.int 1 :: st) h cs ss) := by
  rw [dL_offers_21, ey_ok, nx_iconst_11] <;> rfl
theorem qL_offers_22 : ey F ini rt fin K0 K (decode cL_offers 22) 22 L (st) h cs ss = (K 26 L st h cs ss) := by
  rw [dL_offers_22, ey_ok, nx_goto_29]
  exact and_l (by unfold jok; decide)
theorem qL_offers_25 : ey F ini rt fin K0 K (decode cL_offers 25) 25 L (st) h cs ss = (K 26 L (.int 0 :: st) h cs ss) := by
  rw [dL_offers_25, ey_ok, nx_iconst_11] <;> rfl
theorem qL_offers_26 : ey F ini rt fin K0 K (decode cL_offers 26) 26 L (.int y :: .int x :: r) h cs ss = (K 27 L (.int (x - y) :: r) h cs ss) := by
  rw [dL_offers_26, ey_ok, nx_isub_17]
theorem qL_offers_27 : ey F ini rt fin K0 K (decode cL_offers 27) 27 L (.int x :: r) h cs ss = (10 < L.length ∧ K 29 (L.set 10 (some (.int x))) r h cs ss) := by
  rw [dL_offers_27, ey_ok, nx_istore_4] <;> rfl
theorem qL_offers_29 : ey F ini rt fin K0 K (decode cL_offers 29) 29 L (st) h cs ss = (lhas L 10 ∧ isI (lgt L 10) ∧ K 31 L (lgt L 10 :: st) h cs ss) := by
  rw [dL_offers_29, ey_ok, nx_iload_0] <;> rfl
theorem qL_offers_31 : ey F ini rt fin K0 K (decode cL_offers 31) 31 L (.int x :: r) h cs ss = (if x < 0 then K 46 L r h cs ss else K 34 L r h cs ss) := by
  rw [dL_offers_31, ey_ok, nx_ifond_32]
  exact and_l (by unfold jok; decide)
theorem qL_offers_34 : ey F ini rt fin K0 K (decode cL_offers 34) 34 L (st) h cs ss = (lhas L 10 ∧ isI (lgt L 10) ∧ K 36 L (lgt L 10 :: st) h cs ss) := by
  rw [dL_offers_34, ey_ok, nx_iload_0] <;> rfl
theorem qL_offers_36 : ey F ini rt fin K0 K (decode cL_offers 36) 36 L (st) h cs ss = (lhas L 3 ∧ isRf (lgt L 3) ∧ K 37 L (lgt L 3 :: st) h cs ss) := by
  rw [dL_offers_36, ey_ok, nx_aload_n_3] <;> rfl
theorem qL_offers_37 : ey F ini rt fin K0 K (decode cL_offers 37) 37 L (st) h cs ss = (K 38 L (.int 4 :: st) h cs ss) := by
  rw [dL_offers_37, ey_ok, nx_iconst_11] <;> rfl
theorem qL_offers_38 : ey F ini rt fin K0 K (decode cL_offers 38) 38 L (.int i :: .ref a :: r) h cs ss = (isA (h.1 a) (fun k m => k = 0 ∧ vp_in i m) ∧ K 39 L (h.2 a i.toNatClampNeg :: r) h cs ss) := by
  rw [dL_offers_38, ey_ok, nx_iaload_57]
theorem qL_offers_39 : ey F ini rt fin K0 K (decode cL_offers 39) 39 L (.int y :: .int x :: r) h cs ss = (if y ≤ x then K 46 L r h cs ss else K 42 L r h cs ss) := by
  rw [dL_offers_39, ey_ok, nx_if_icmp_39]
  exact and_l (by unfold jok; decide)
theorem qL_offers_42 : ey F ini rt fin K0 K (decode cL_offers 42) 42 L (st) h cs ss = (K 43 L (.int 1 :: st) h cs ss) := by
  rw [dL_offers_42, ey_ok, nx_iconst_11] <;> rfl
theorem qL_offers_43 : ey F ini rt fin K0 K (decode cL_offers 43) 43 L (st) h cs ss = (K 47 L st h cs ss) := by
  rw [dL_offers_43, ey_ok, nx_goto_29]
  exact and_l (by unfold jok; decide)
theorem qL_offers_46 : ey F ini rt fin K0 K (decode cL_offers 46) 46 L (st) h cs ss = (K 47 L (.int 0 :: st) h cs ss) := by
  rw [dL_offers_46, ey_ok, nx_iconst_11] <;> rfl
theorem qL_offers_47 : ey F ini rt fin K0 K (decode cL_offers 47) 47 L (.int x :: r) h cs ss = (11 < L.length ∧ K 49 (L.set 11 (some (.int x))) r h cs ss) := by
  rw [dL_offers_47, ey_ok, nx_istore_4] <;> rfl
theorem qL_offers_49 : ey F ini rt fin K0 K (decode cL_offers 49) 49 L (st) h cs ss = (lhas L 1 ∧ isI (lgt L 1) ∧ K 50 L (lgt L 1 :: st) h cs ss) := by
  rw [dL_offers_49, ey_ok, nx_iload_n_1] <;> rfl
theorem qL_offers_50 : ey F ini rt fin K0 K (decode cL_offers 50) 50 L (.int x :: r) h cs ss = (if ¬ x = 0 then K 276 L r h cs ss else K 53 L r h cs ss) := by
  rw [dL_offers_50, ey_ok, nx_ifond_31]
  exact and_l (by unfold jok; decide)
theorem qL_offers_53 : ey F ini rt fin K0 K (decode cL_offers 53) 53 L (st) h cs ss = (lhas L 2 ∧ isI (lgt L 2) ∧ K 54 L (lgt L 2 :: st) h cs ss) := by
  rw [dL_offers_53, ey_ok, nx_iload_n_1] <;> rfl
theorem qL_offers_54 : ey F ini rt fin K0 K (decode cL_offers 54) 54 L (st) h cs ss = (lhas L 3 ∧ isRf (lgt L 3) ∧ K 55 L (lgt L 3 :: st) h cs ss) := by
  rw [dL_offers_54, ey_ok, nx_aload_n_3] <;> rfl
theorem qL_offers_55 : ey F ini rt fin K0 K (decode cL_offers 55) 55 L (st) h cs ss = (K 56 L (.int 1 :: st) h cs ss) := by
  rw [dL_offers_55, ey_ok, nx_iconst_11] <;> rfl
theorem qL_offers_56 : ey F ini rt fin K0 K (decode cL_offers 56) 56 L (.int i :: .ref a :: r) h cs ss = (isA (h.1 a) (fun k m => k = 0 ∧ vp_in i m) ∧ K 57 L (h.2 a i.toNatClampNeg :: r) h cs ss) := by
  rw [dL_offers_56, ey_ok, nx_iaload_57]
theorem qL_offers_57 : ey F ini rt fin K0 K (decode cL_offers 57) 57 L (st) h cs ss = (K 58 L (.int 1 :: st) h cs ss) := by
  rw [dL_offers_57, ey_ok, nx_iconst_11] <;> rfl
theorem qL_offers_58 : ey F ini rt fin K0 K (decode cL_offers 58) 58 L (.int y :: .int x :: r) h cs ss = (K 59 L (.int (x + y) :: r) h cs ss) := by
  rw [dL_offers_58, ey_ok, nx_iadd_16]
theorem qL_offers_59 : ey F ini rt fin K0 K (decode cL_offers 59) 59 L (st) h cs ss = (K0 59 L st h cs ss) := by
  rw [dL_offers_59, ey_ok, nx_invokestatic_73]
theorem qL_offers_62 : ey F ini rt fin K0 K (decode cL_offers 62) 62 L (.int x :: r) h cs ss = (12 < L.length ∧ K 64 (L.set 12 (some (.int x))) r h cs ss) := by
  rw [dL_offers_62, ey_ok, nx_istore_4] <;> rfl
theorem qL_offers_64 : ey F ini rt fin K0 K (decode cL_offers 64) 64 L (st) h cs ss = (lhas L 2 ∧ isI (lgt L 2) ∧ K 65 L (lgt L 2 :: st) h cs ss) := by
  rw [dL_offers_64, ey_ok, nx_iload_n_1] <;> rfl
theorem qL_offers_65 : ey F ini rt fin K0 K (decode cL_offers 65) 65 L (st) h cs ss = (K 66 L (.int 4 :: st) h cs ss) := by
  rw [dL_offers_65, ey_ok, nx_iconst_11] <;> rfl
theorem qL_offers_66 : ey F ini rt fin K0 K (decode cL_offers 66) 66 L (.int y :: .int x :: r) h cs ss = (K 67 L (.int (x >>> (y &&& 31)) :: r) h cs ss) := by
  rw [dL_offers_66, ey_ok, nx_ishr_21]
theorem qL_offers_67 : ey F ini rt fin K0 K (decode cL_offers 67) 67 L (st) h cs ss = (lhas L 3 ∧ isRf (lgt L 3) ∧ K 68 L (lgt L 3 :: st) h cs ss) := by
  rw [dL_offers_67, ey_ok, nx_aload_n_3] <;> rfl
theorem qL_offers_68 : ey F ini rt fin K0 K (decode cL_offers 68) 68 L (st) h cs ss = (K 69 L (.int 1 :: st) h cs ss) := by
  rw [dL_offers_68, ey_ok, nx_iconst_11] <;> rfl
theorem qL_offers_69 : ey F ini rt fin K0 K (decode cL_offers 69) 69 L (.int i :: .ref a :: r) h cs ss = (isA (h.1 a) (fun k m => k = 0 ∧ vp_in i m) ∧ K 70 L (h.2 a i.toNatClampNeg :: r) h cs ss) := by
  rw [dL_offers_69, ey_ok, nx_iaload_57]
theorem qL_offers_70 : ey F ini rt fin K0 K (decode cL_offers 70) 70 L (st) h cs ss = (K 71 L (.int 1 :: st) h cs ss) := by
  rw [dL_offers_70, ey_ok, nx_iconst_11] <;> rfl
theorem qL_offers_71 : ey F ini rt fin K0 K (decode cL_offers 71) 71 L (.int y :: .int x :: r) h cs ss = (K 72 L (.int (x + y) :: r) h cs ss) := by
  rw [dL_offers_71, ey_ok, nx_iadd_16]
theorem qL_offers_72 : ey F ini rt fin K0 K (decode cL_offers 72) 72 L (st) h cs ss = (K0 72 L st h cs ss) := by
  rw [dL_offers_72, ey_ok, nx_invokestatic_73]
theorem qL_offers_75 : ey F ini rt fin K0 K (decode cL_offers 75) 75 L (.int x :: r) h cs ss = (13 < L.length ∧ K 77 (L.set 13 (some (.int x))) r h cs ss) := by
  rw [dL_offers_75, ey_ok, nx_istore_4] <;> rfl
theorem qL_offers_77 : ey F ini rt fin K0 K (decode cL_offers 77) 77 L (st) h cs ss = (lhas L 12 ∧ isI (lgt L 12) ∧ K 79 L (lgt L 12 :: st) h cs ss) := by
  rw [dL_offers_77, ey_ok, nx_iload_0] <;> rfl
theorem qL_offers_79 : ey F ini rt fin K0 K (decode cL_offers 79) 79 L (st) h cs ss = (lhas L 3 ∧ isRf (lgt L 3) ∧ K 80 L (lgt L 3 :: st) h cs ss) := by
  rw [dL_offers_79, ey_ok, nx_aload_n_3] <;> rfl
theorem qL_offers_80 : ey F ini rt fin K0 K (decode cL_offers 80) 80 L (st) h cs ss = (K 81 L (.int 1 :: st) h cs ss) := by
  rw [dL_offers_80, ey_ok, nx_iconst_11] <;> rfl
theorem qL_offers_81 : ey F ini rt fin K0 K (decode cL_offers 81) 81 L (.int i :: .ref a :: r) h cs ss = (isA (h.1 a) (fun k m => k = 0 ∧ vp_in i m) ∧ K 82 L (h.2 a i.toNatClampNeg :: r) h cs ss) := by
  rw [dL_offers_81, ey_ok, nx_iaload_57]
theorem qL_offers_82 : ey F ini rt fin K0 K (decode cL_offers 82) 82 L (.int y :: .int x :: r) h cs ss = (if y ≤ x then K 97 L r h cs ss else K 85 L r h cs ss) := by
  rw [dL_offers_82, ey_ok, nx_if_icmp_39]
  exact and_l (by unfold jok; decide)
theorem qL_offers_85 : ey F ini rt fin K0 K (decode cL_offers 85) 85 L (st) h cs ss = (lhas L 13 ∧ isI (lgt L 13) ∧ K 87 L (lgt L 13 :: st) h cs ss) := by
  rw [dL_offers_85, ey_ok, nx_iload_0] <;> rfl
theorem qL_offers_87 : ey F ini rt fin K0 K (decode cL_offers 87) 87 L (st) h cs ss = (lhas L 3 ∧ isRf (lgt L 3) ∧ K 88 L (lgt L 3 :: st) h cs ss) := by
  rw [dL_offers_87, ey_ok, nx_aload_n_3] <;> rfl
theorem qL_offers_88 : ey F ini rt fin K0 K (decode cL_offers 88) 88 L (st) h cs ss = (K 89 L (.int 1 :: st) h cs ss) := by
  rw [dL_offers_88, ey_ok, nx_iconst_11] <;> rfl
theorem qL_offers_89 : ey F ini rt fin K0 K (decode cL_offers 89) 89 L (.int i :: .ref a :: r) h cs ss = (isA (h.1 a) (fun k m => k = 0 ∧ vp_in i m) ∧ K 90 L (h.2 a i.toNatClampNeg :: r) h cs ss) := by
  rw [dL_offers_89, ey_ok, nx_iaload_57]
theorem qL_offers_90 : ey F ini rt fin K0 K (decode cL_offers 90) 90 L (.int y :: .int x :: r) h cs ss = (if y ≤ x then K 97 L r h cs ss else K 93 L r h cs ss) := by
  rw [dL_offers_90, ey_ok, nx_if_icmp_39]
  exact and_l (by unfold jok; decide)
theorem qL_offers_93 : ey F ini rt fin K0 K (decode cL_offers 93) 93 L (st) h cs ss = (K 94 L (.int 1 :: st) h cs ss) := by
  rw [dL_offers_93, ey_ok, nx_iconst_11] <;> rfl
theorem qL_offers_94 : ey F ini rt fin K0 K (decode cL_offers 94) 94 L (st) h cs ss = (K 98 L st h cs ss) := by
  rw [dL_offers_94, ey_ok, nx_goto_29]
  exact and_l (by unfold jok; decide)
theorem qL_offers_97 : ey F ini rt fin K0 K (decode cL_offers 97) 97 L (st) h cs ss = (K 98 L (.int 0 :: st) h cs ss) := by
  rw [dL_offers_97, ey_ok, nx_iconst_11] <;> rfl
theorem qL_offers_98 : ey F ini rt fin K0 K (decode cL_offers 98) 98 L (.int x :: r) h cs ss = (14 < L.length ∧ K 100 (L.set 14 (some (.int x))) r h cs ss) := by
  rw [dL_offers_98, ey_ok, nx_istore_4] <;> rfl
theorem qL_offers_100 : ey F ini rt fin K0 K (decode cL_offers 100) 100 L (st) h cs ss = (lhas L 14 ∧ isI (lgt L 14) ∧ K 102 L (lgt L 14 :: st) h cs ss) := by
  rw [dL_offers_100, ey_ok, nx_iload_0] <;> rfl
theorem qL_offers_102 : ey F ini rt fin K0 K (decode cL_offers 102) 102 L (.int x :: r) h cs ss = (if x = 0 then K 172 L r h cs ss else K 105 L r h cs ss) := by
  rw [dL_offers_102, ey_ok, nx_ifond_30]
  exact and_l (by unfold jok; decide)
theorem qL_offers_105 : ey F ini rt fin K0 K (decode cL_offers 105) 105 L (st) h cs ss = (lhas L 5 ∧ isRf (lgt L 5) ∧ K 107 L (lgt L 5 :: st) h cs ss) := by
  rw [dL_offers_105, ey_ok, nx_aload_2] <;> rfl
theorem qL_offers_107 : ey F ini rt fin K0 K (decode cL_offers 107) 107 L (st) h cs ss = (K 109 L (.int 30 :: st) h cs ss) := by
  rw [dL_offers_107, ey_ok, nx_bipush_12] <;> rfl
theorem qL_offers_109 : ey F ini rt fin K0 K (decode cL_offers 109) 109 L (st) h cs ss = (lhas L 12 ∧ isI (lgt L 12) ∧ K 111 L (lgt L 12 :: st) h cs ss) := by
  rw [dL_offers_109, ey_ok, nx_iload_0] <;> rfl
theorem qL_offers_111 : ey F ini rt fin K0 K (decode cL_offers 111) 111 L (.int y :: .int x :: r) h cs ss = (K 112 L (.int (x + y) :: r) h cs ss) := by
  rw [dL_offers_111, ey_ok, nx_iadd_16]
theorem qL_offers_112 : ey F ini rt fin K0 K (decode cL_offers 112) 112 L (.int i :: .ref a :: r) h cs ss = (isA (h.1 a) (fun k m => k = 0 ∧ vp_in i m) ∧ K 113 L (h.2 a i.toNatClampNeg :: r) h cs ss) := by
  rw [dL_offers_112, ey_ok, nx_iaload_57]
theorem qL_offers_113 : ey F ini rt fin K0 K (decode cL_offers 113) 113 L (.int x :: r) h cs ss = (if x < 0 then K 172 L r h cs ss else K 116 L r h cs ss) := by
  rw [dL_offers_113, ey_ok, nx_ifond_32]
  exact and_l (by unfold jok; decide)
theorem qL_offers_116 : ey F ini rt fin K0 K (decode cL_offers 116) 116 L (st) h cs ss = (lhas L 5 ∧ isRf (lgt L 5) ∧ K 118 L (lgt L 5 :: st) h cs ss) := by
  rw [dL_offers_116, ey_ok, nx_aload_2] <;> rfl
theorem qL_offers_118 : ey F ini rt fin K0 K (decode cL_offers 118) 118 L (st) h cs ss = (K 120 L (.int 30 :: st) h cs ss) := by
  rw [dL_offers_118, ey_ok, nx_bipush_12] <;> rfl
theorem qL_offers_120 : ey F ini rt fin K0 K (decode cL_offers 120) 120 L (st) h cs ss = (lhas L 13 ∧ isI (lgt L 13) ∧ K 122 L (lgt L 13 :: st) h cs ss) := by
  rw [dL_offers_120, ey_ok, nx_iload_0] <;> rfl
theorem qL_offers_122 : ey F ini rt fin K0 K (decode cL_offers 122) 122 L (.int y :: .int x :: r) h cs ss = (K 123 L (.int (x + y) :: r) h cs ss) := by
  rw [dL_offers_122, ey_ok, nx_iadd_16]
theorem qL_offers_123 : ey F ini rt fin K0 K (decode cL_offers 123) 123 L (.int i :: .ref a :: r) h cs ss = (isA (h.1 a) (fun k m => k = 0 ∧ vp_in i m) ∧ K 124 L (h.2 a i.toNatClampNeg :: r) h cs ss) := by
  rw [dL_offers_123, ey_ok, nx_iaload_57]
theorem qL_offers_124 : ey F ini rt fin K0 K (decode cL_offers 124) 124 L (.int x :: r) h cs ss = (if x < 0 then K 172 L r h cs ss else K 127 L r h cs ss) := by
  rw [dL_offers_124, ey_ok, nx_ifond_32]
  exact and_l (by unfold jok; decide)
theorem qL_offers_127 : ey F ini rt fin K0 K (decode cL_offers 127) 127 L (st) h cs ss = (lhas L 5 ∧ isRf (lgt L 5) ∧ K 129 L (lgt L 5 :: st) h cs ss) := by
  rw [dL_offers_127, ey_ok, nx_aload_2] <;> rfl
theorem qL_offers_129 : ey F ini rt fin K0 K (decode cL_offers 129) 129 L (st) h cs ss = (K 131 L (.int 30 :: st) h cs ss) := by
  rw [dL_offers_129, ey_ok, nx_bipush_12] <;> rfl
theorem qL_offers_131 : ey F ini rt fin K0 K (decode cL_offers 131) 131 L (st) h cs ss = (lhas L 12 ∧ isI (lgt L 12) ∧ K 133 L (lgt L 12 :: st) h cs ss) := by
  rw [dL_offers_131, ey_ok, nx_iload_0] <;> rfl
theorem qL_offers_133 : ey F ini rt fin K0 K (decode cL_offers 133) 133 L (.int y :: .int x :: r) h cs ss = (K 134 L (.int (x + y) :: r) h cs ss) := by
  rw [dL_offers_133, ey_ok, nx_iadd_16]
theorem qL_offers_134 : ey F ini rt fin K0 K (decode cL_offers 134) 134 L (.int i :: .ref a :: r) h cs ss = (isA (h.1 a) (fun k m => k = 0 ∧ vp_in i m) ∧ K 135 L (h.2 a i.toNatClampNeg :: r) h cs ss) := by
  rw [dL_offers_134, ey_ok, nx_iaload_57]
theorem qL_offers_135 : ey F ini rt fin K0 K (decode cL_offers 135) 135 L (st) h cs ss = (lhas L 5 ∧ isRf (lgt L 5) ∧ K 137 L (lgt L 5 :: st) h cs ss) := by
  rw [dL_offers_135, ey_ok, nx_aload_2] <;> rfl
theorem qL_offers_137 : ey F ini rt fin K0 K (decode cL_offers 137) 137 L (st) h cs ss = (K 139 L (.int 30 :: st) h cs ss) := by
  rw [dL_offers_137, ey_ok, nx_bipush_12] <;> rfl
theorem qL_offers_139 : ey F ini rt fin K0 K (decode cL_offers 139) 139 L (st) h cs ss = (lhas L 13 ∧ isI (lgt L 13) ∧ K 141 L (lgt L 13 :: st) h cs ss) := by
  rw [dL_offers_139, ey_ok, nx_iload_0] <;> rfl
theorem qL_offers_141 : ey F ini rt fin K0 K (decode cL_offers 141) 141 L (.int y :: .int x :: r) h cs ss = (K 142 L (.int (x + y) :: r) h cs ss) := by
  rw [dL_offers_141, ey_ok, nx_iadd_16]
theorem qL_offers_142 : ey F ini rt fin K0 K (decode cL_offers 142) 142 L (.int i :: .ref a :: r) h cs ss = (isA (h.1 a) (fun k m => k = 0 ∧ vp_in i m) ∧ K 143 L (h.2 a i.toNatClampNeg :: r) h cs ss) := by
  rw [dL_offers_142, ey_ok, nx_iaload_57]
theorem qL_offers_143 : ey F ini rt fin K0 K (decode cL_offers 143) 143 L (.int y :: .int x :: r) h cs ss = (if x = y then K 172 L r h cs ss else K 146 L r h cs ss) := by
  rw [dL_offers_143, ey_ok, nx_if_icmp_36]
  exact and_l (by unfold jok; decide)
theorem qL_offers_146 : ey F ini rt fin K0 K (decode cL_offers 146) 146 L (st) h cs ss = (lhas L 5 ∧ isRf (lgt L 5) ∧ K 148 L (lgt L 5 :: st) h cs ss) := by
  rw [dL_offers_146, ey_ok, nx_aload_2] <;> rfl
theorem qL_offers_148 : ey F ini rt fin K0 K (decode cL_offers 148) 148 L (st) h cs ss = (lhas L 12 ∧ isI (lgt L 12) ∧ K 150 L (lgt L 12 :: st) h cs ss) := by
  rw [dL_offers_148, ey_ok, nx_iload_0] <;> rfl
theorem qL_offers_150 : ey F ini rt fin K0 K (decode cL_offers 150) 150 L (.int i :: .ref a :: r) h cs ss = (isA (h.1 a) (fun k m => k = 0 ∧ vp_in i m) ∧ K 151 L (h.2 a i.toNatClampNeg :: r) h cs ss) := by
  rw [dL_offers_150, ey_ok, nx_iaload_57]
theorem qL_offers_151 : ey F ini rt fin K0 K (decode cL_offers 151) 151 L (st) h cs ss = (lhas L 3 ∧ isRf (lgt L 3) ∧ K 152 L (lgt L 3 :: st) h cs ss) := by
  rw [dL_offers_151, ey_ok, nx_aload_n_3] <;> rfl
theorem qL_offers_152 : ey F ini rt fin K0 K (decode cL_offers 152) 152 L (st) h cs ss = (K 153 L (.int 0 :: st) h cs ss) := by
  rw [dL_offers_152, ey_ok, nx_iconst_11] <;> rfl
theorem qL_offers_153 : ey F ini rt fin K0 K (decode cL_offers 153) 153 L (.int i :: .ref a :: r) h cs ss = (isA (h.1 a) (fun k m => k = 0 ∧ vp_in i m) ∧ K 154 L (h.2 a i.toNatClampNeg :: r) h cs ss) := by
  rw [dL_offers_153, ey_ok, nx_iaload_57]
theorem qL_offers_154 : ey F ini rt fin K0 K (decode cL_offers 154) 154 L (.int y :: .int x :: r) h cs ss = (if x ≤ y then K 172 L r h cs ss else K 157 L r h cs ss) := by
  rw [dL_offers_154, ey_ok, nx_if_icmp_41]
  exact and_l (by unfold jok; decide)
theorem qL_offers_157 : ey F ini rt fin K0 K (decode cL_offers 157) 157 L (st) h cs ss = (lhas L 5 ∧ isRf (lgt L 5) ∧ K 159 L (lgt L 5 :: st) h cs ss) := by
  rw [dL_offers_157, ey_ok, nx_aload_2] <;> rfl
theorem qL_offers_159 : ey F ini rt fin K0 K (decode cL_offers 159) 159 L (st) h cs ss = (lhas L 13 ∧ isI (lgt L 13) ∧ K 161 L (lgt L 13 :: st) h cs ss) := by
  rw [dL_offers_159, ey_ok, nx_iload_0] <;> rfl
theorem qL_offers_161 : ey F ini rt fin K0 K (decode cL_offers 161) 161 L (.int i :: .ref a :: r) h cs ss = (isA (h.1 a) (fun k m => k = 0 ∧ vp_in i m) ∧ K 162 L (h.2 a i.toNatClampNeg :: r) h cs ss) := by
  rw [dL_offers_161, ey_ok, nx_iaload_57]
theorem qL_offers_162 : ey F ini rt fin K0 K (decode cL_offers 162) 162 L (st) h cs ss = (lhas L 3 ∧ isRf (lgt L 3) ∧ K 163 L (lgt L 3 :: st) h cs ss) := by
  rw [dL_offers_162, ey_ok, nx_aload_n_3] <;> rfl
theorem qL_offers_163 : ey F ini rt fin K0 K (decode cL_offers 163) 163 L (st) h cs ss = (K 164 L (.int 0 :: st) h cs ss) := by
  rw [dL_offers_163, ey_ok, nx_iconst_11] <;> rfl
theorem qL_offers_164 : ey F ini rt fin K0 K (decode cL_offers 164) 164 L (.int i :: .ref a :: r) h cs ss = (isA (h.1 a) (fun k m => k = 0 ∧ vp_in i m) ∧ K 165 L (h.2 a i.toNatClampNeg :: r) h cs ss) := by
  rw [dL_offers_164, ey_ok, nx_iaload_57]
theorem qL_offers_165 : ey F ini rt fin K0 K (decode cL_offers 165) 165 L (.int y :: .int x :: r) h cs ss = (if x ≤ y then K 172 L r h cs ss else K 168 L r h cs ss) := by
  rw [dL_offers_165, ey_ok, nx_if_icmp_41]
  exact and_l (by unfold jok; decide)
theorem qL_offers_168 : ey F ini rt fin K0 K (decode cL_offers 168) 168 L (st) h cs ss = (K 169 L (.int 1 :: st) h cs ss) := by
  rw [dL_offers_168, ey_ok, nx_iconst_11] <;> rfl
theorem qL_offers_169 : ey F ini rt fin K0 K (decode cL_offers 169) 169 L (st) h cs ss = (K 173 L st h cs ss) := by
  rw [dL_offers_169, ey_ok, nx_goto_29]
  exact and_l (by unfold jok; decide)
theorem qL_offers_172 : ey F ini rt fin K0 K (decode cL_offers 172) 172 L (st) h cs ss = (K 173 L (.int 0 :: st) h cs ss) := by
  rw [dL_offers_172, ey_ok, nx_iconst_11] <;> rfl
theorem qL_offers_173 : ey F ini rt fin K0 K (decode cL_offers 173) 173 L (.int x :: r) h cs ss = (15 < L.length ∧ K 175 (L.set 15 (some (.int x))) r h cs ss) := by
  rw [dL_offers_173, ey_ok, nx_istore_4] <;> rfl
theorem qL_offers_175 : ey F ini rt fin K0 K (decode cL_offers 175) 175 L (st) h cs ss = (lhas L 15 ∧ isI (lgt L 15) ∧ K 177 L (lgt L 15 :: st) h cs ss) := by
  rw [dL_offers_175, ey_ok, nx_iload_0] <;> rfl
theorem qL_offers_177 : ey F ini rt fin K0 K (decode cL_offers 177) 177 L (.int x :: r) h cs ss = (if x = 0 then K 190 L r h cs ss else K 180 L r h cs ss) := by
  rw [dL_offers_177, ey_ok, nx_ifond_30]
  exact and_l (by unfold jok; decide)
theorem qL_offers_180 : ey F ini rt fin K0 K (decode cL_offers 180) 180 L (st) h cs ss = (lhas L 3 ∧ isRf (lgt L 3) ∧ K 181 L (lgt L 3 :: st) h cs ss) := by
  rw [dL_offers_180, ey_ok, nx_aload_n_3] <;> rfl
theorem qL_offers_181 : ey F ini rt fin K0 K (decode cL_offers 181) 181 L (st) h cs ss = (K 182 L (.int 4 :: st) h cs ss) := by
  rw [dL_offers_181, ey_ok, nx_iconst_11] <;> rfl
theorem qL_offers_182 : ey F ini rt fin K0 K (decode cL_offers 182) 182 L (.int i :: .ref a :: r) h cs ss = (isA (h.1 a) (fun k m => k = 0 ∧ vp_in i m) ∧ K 183 L (h.2 a i.toNatClampNeg :: r) h cs ss) := by
  rw [dL_offers_182, ey_ok, nx_iaload_57]
theorem qL_offers_183 : ey F ini rt fin K0 K (decode cL_offers 183) 183 L (st) h cs ss = (K 185 L (.int 12 :: st) h cs ss) := by
  rw [dL_offers_183, ey_ok, nx_bipush_12] <;> rfl
theorem qL_offers_185 : ey F ini rt fin K0 K (decode cL_offers 185) 185 L (.int y :: .int x :: r) h cs ss = (if ¬ x = y then K 190 L r h cs ss else K 188 L r h cs ss) := by
  rw [dL_offers_185, ey_ok, nx_if_icmp_37]
  exact and_l (by unfold jok; decide)
theorem qL_offers_188 : ey F ini rt fin K0 K (decode cL_offers 188) 188 L (st) h cs ss = (K 189 L (.int 1 :: st) h cs ss) := by
  rw [dL_offers_188, ey_ok, nx_iconst_11] <;> rfl
theorem qL_offers_189 : ey F ini rt fin K0 K (decode cL_offers 189) 189 L ([.int x]) h cs ss = (rokI rt x ∧ fin (some (.int x)) h cs ss) := by
  rw [dL_offers_189, ey_ok, nx_ireturn_68]
theorem qL_offers_190 : ey F ini rt fin K0 K (decode cL_offers 190) 190 L (st) h cs ss = (lhas L 15 ∧ isI (lgt L 15) ∧ K 192 L (lgt L 15 :: st) h cs ss) := by
  rw [dL_offers_190, ey_ok, nx_iload_0] <;> rfl
theorem qL_offers_192 : ey F ini rt fin K0 K (decode cL_offers 192) 192 L (.int x :: r) h cs ss = (if x = 0 then K 231 L r h cs ss else K 195 L r h cs ss) := by
  rw [dL_offers_192, ey_ok, nx_ifond_30]
  exact and_l (by unfold jok; decide)
theorem qL_offers_195 : ey F ini rt fin K0 K (decode cL_offers 195) 195 L (st) h cs ss = (lhas L 9 ∧ isRf (lgt L 9) ∧ K 197 L (lgt L 9 :: st) h cs ss) := by
  rw [dL_offers_195, ey_ok, nx_aload_2] <;> rfl
theorem qL_offers_197 : ey F ini rt fin K0 K (decode cL_offers 197) 197 L (st) h cs ss = (lhas L 3 ∧ isRf (lgt L 3) ∧ K 198 L (lgt L 3 :: st) h cs ss) := by
  rw [dL_offers_197, ey_ok, nx_aload_n_3] <;> rfl
theorem qL_offers_198 : ey F ini rt fin K0 K (decode cL_offers 198) 198 L (st) h cs ss = (K 199 L (.int 4 :: st) h cs ss) := by
  rw [dL_offers_198, ey_ok, nx_iconst_11] <;> rfl
theorem qL_offers_199 : ey F ini rt fin K0 K (decode cL_offers 199) 199 L (.int i :: .ref a :: r) h cs ss = (isA (h.1 a) (fun k m => k = 0 ∧ vp_in i m) ∧ K 200 L (h.2 a i.toNatClampNeg :: r) h cs ss) := by
  rw [dL_offers_199, ey_ok, nx_iaload_57]
theorem qL_offers_200 : ey F ini rt fin K0 K (decode cL_offers 200) 200 L (st) h cs ss = (lhas L 12 ∧ isI (lgt L 12) ∧ K 202 L (lgt L 12 :: st) h cs ss) := by
  rw [dL_offers_200, ey_ok, nx_iload_0] <;> rfl
theorem qL_offers_202 : ey F ini rt fin K0 K (decode cL_offers 202) 202 L (.int x :: .int i :: .ref a :: r) h cs ss = (isA (h.1 a) (fun k m => k = 0 ∧ vp_in i m) ∧ K 203 L r (h.1, hup h.2 a i.toNatClampNeg (.int x)) cs ss) := by
  rw [dL_offers_202, ey_ok, nx_iastore_62]
theorem qL_offers_203 : ey F ini rt fin K0 K (decode cL_offers 203) 203 L (st) h cs ss = (lhas L 9 ∧ isRf (lgt L 9) ∧ K 205 L (lgt L 9 :: st) h cs ss) := by
  rw [dL_offers_203, ey_ok, nx_aload_2] <;> rfl
theorem qL_offers_205 : ey F ini rt fin K0 K (decode cL_offers 205) 205 L (st) h cs ss = (K 207 L (.int 12 :: st) h cs ss) := by
  rw [dL_offers_205, ey_ok, nx_bipush_12] <;> rfl
theorem qL_offers_207 : ey F ini rt fin K0 K (decode cL_offers 207) 207 L (st) h cs ss = (lhas L 3 ∧ isRf (lgt L 3) ∧ K 208 L (lgt L 3 :: st) h cs ss) := by
  rw [dL_offers_207, ey_ok, nx_aload_n_3] <;> rfl
theorem qL_offers_208 : ey F ini rt fin K0 K (decode cL_offers 208) 208 L (st) h cs ss = (K 209 L (.int 4 :: st) h cs ss) := by
  rw [dL_offers_208, ey_ok, nx_iconst_11] <;> rfl
theorem qL_offers_209 : ey F ini rt fin K0 K (decode cL_offers 209) 209 L (.int i :: .ref a :: r) h cs ss = (isA (h.1 a) (fun k m => k = 0 ∧ vp_in i m) ∧ K 210 L (h.2 a i.toNatClampNeg :: r) h cs ss) := by
  rw [dL_offers_209, ey_ok, nx_iaload_57]
theorem qL_offers_210 : ey F ini rt fin K0 K (decode cL_offers 210) 210 L (.int y :: .int x :: r) h cs ss = (K 211 L (.int (x + y) :: r) h cs ss) := by
  rw [dL_offers_210, ey_ok, nx_iadd_16]
theorem qL_offers_211 : ey F ini rt fin K0 K (decode cL_offers 211) 211 L (st) h cs ss = (lhas L 13 ∧ isI (lgt L 13) ∧ K 213 L (lgt L 13 :: st) h cs ss) := by
  rw [dL_offers_211, ey_ok, nx_iload_0] <;> rfl
theorem qL_offers_213 : ey F ini rt fin K0 K (decode cL_offers 213) 213 L (.int x :: .int i :: .ref a :: r) h cs ss = (isA (h.1 a) (fun k m => k = 0 ∧ vp_in i m) ∧ K 214 L r (h.1, hup h.2 a i.toNatClampNeg (.int x)) cs ss) := by
  rw [dL_offers_213, ey_ok, nx_iastore_62]
theorem qL_offers_214 : ey F ini rt fin K0 K (decode cL_offers 214) 214 L (st) h cs ss = (lhas L 9 ∧ isRf (lgt L 9) ∧ K 216 L (lgt L 9 :: st) h cs ss) := by
  rw [dL_offers_214, ey_ok, nx_aload_2] <;> rfl
theorem qL_offers_216 : ey F ini rt fin K0 K (decode cL_offers 216) 216 L (st) h cs ss = (K 218 L (.int 24 :: st) h cs ss) := by
  rw [dL_offers_216, ey_ok, nx_bipush_12] <;> rfl
theorem qL_offers_218 : ey F ini rt fin K0 K (decode cL_offers 218) 218 L (st) h cs ss = (lhas L 3 ∧ isRf (lgt L 3) ∧ K 219 L (lgt L 3 :: st) h cs ss) := by
  rw [dL_offers_218, ey_ok, nx_aload_n_3] <;> rfl
theorem qL_offers_219 : ey F ini rt fin K0 K (decode cL_offers 219) 219 L (st) h cs ss = (K 220 L (.int 4 :: st) h cs ss) := by
  rw [dL_offers_219, ey_ok, nx_iconst_11] <;> rfl
theorem qL_offers_220 : ey F ini rt fin K0 K (decode cL_offers 220) 220 L (.int i :: .ref a :: r) h cs ss = (isA (h.1 a) (fun k m => k = 0 ∧ vp_in i m) ∧ K 221 L (h.2 a i.toNatClampNeg :: r) h cs ss) := by
  rw [dL_offers_220, ey_ok, nx_iaload_57]
theorem qL_offers_221 : ey F ini rt fin K0 K (decode cL_offers 221) 221 L (.int y :: .int x :: r) h cs ss = (K 222 L (.int (x + y) :: r) h cs ss) := by
  rw [dL_offers_221, ey_ok, nx_iadd_16]
theorem qL_offers_222 : ey F ini rt fin K0 K (decode cL_offers 222) 222 L (st) h cs ss = (K 223 L (.int 1 :: st) h cs ss) := by
  rw [dL_offers_222, ey_ok, nx_iconst_11] <;> rfl
theorem qL_offers_223 : ey F ini rt fin K0 K (decode cL_offers 223) 223 L (.int x :: .int i :: .ref a :: r) h cs ss = (isA (h.1 a) (fun k m => k = 0 ∧ vp_in i m) ∧ K 224 L r (h.1, hup h.2 a i.toNatClampNeg (.int x)) cs ss) := by
  rw [dL_offers_223, ey_ok, nx_iastore_62]
theorem qL_offers_224 : ey F ini rt fin K0 K (decode cL_offers 224) 224 L (st) h cs ss = (lhas L 3 ∧ isRf (lgt L 3) ∧ K 225 L (lgt L 3 :: st) h cs ss) := by
  rw [dL_offers_224, ey_ok, nx_aload_n_3] <;> rfl
theorem qL_offers_225 : ey F ini rt fin K0 K (decode cL_offers 225) 225 L (st) h cs ss = (K 226 L (.int 4 :: st) h cs ss) := by
  rw [dL_offers_225, ey_ok, nx_iconst_11] <;> rfl
theorem qL_offers_226 : ey F ini rt fin K0 K (decode cL_offers 226) 226 L (v :: v2 :: r) h cs ss = (v.category = 1 ∧ v2.category = 1 ∧ K 227 L (v :: v2 :: v :: v2 :: r) h cs ss) := by
  rw [dL_offers_226, ey_ok, nx_dup2_84]
theorem qL_offers_227 : ey F ini rt fin K0 K (decode cL_offers 227) 227 L (.int i :: .ref a :: r) h cs ss = (isA (h.1 a) (fun k m => k = 0 ∧ vp_in i m) ∧ K 228 L (h.2 a i.toNatClampNeg :: r) h cs ss) := by
  rw [dL_offers_227, ey_ok, nx_iaload_57]
theorem qL_offers_228 : ey F ini rt fin K0 K (decode cL_offers 228) 228 L (st) h cs ss = (K 229 L (.int 1 :: st) h cs ss) := by
  rw [dL_offers_228, ey_ok, nx_iconst_11] <;> rfl
theorem qL_offers_229 : ey F ini rt fin K0 K (decode cL_offers 229) 229 L (.int y :: .int x :: r) h cs ss = (K 230 L (.int (x + y) :: r) h cs ss) := by
  rw [dL_offers_229, ey_ok, nx_iadd_16]
theorem qL_offers_230 : ey F ini rt fin K0 K (decode cL_offers 230) 230 L (.int x :: .int i :: .ref a :: r) h cs ss = (isA (h.1 a) (fun k m => k = 0 ∧ vp_in i m) ∧ K 231 L r (h.1, hup h.2 a i.toNatClampNeg (.int x)) cs ss) := by
  rw [dL_offers_230, ey_ok, nx_iastore_62]
theorem qL_offers_231 : ey F ini rt fin K0 K (decode cL_offers 231) 231 L (st) h cs ss = (lhas L 0 ∧ isRf (lgt L 0) ∧ K 232 L (lgt L 0 :: st) h cs ss) := by
  rw [dL_offers_231, ey_ok, nx_aload_n_3] <;> rfl
theorem qL_offers_232 : ey F ini rt fin K0 K (decode cL_offers 232) 232 L (st) h cs ss = (K 233 L (.int 1 :: st) h cs ss) := by
  rw [dL_offers_232, ey_ok, nx_iconst_11] <;> rfl
theorem qL_offers_233 : ey F ini rt fin K0 K (decode cL_offers 233) 233 L (st) h cs ss = (lhas L 12 ∧ isI (lgt L 12) ∧ K 235 L (lgt L 12 :: st) h cs ss) := by
  rw [dL_offers_233, ey_ok, nx_iload_0] <;> rfl
theorem qL_offers_235 : ey F ini rt fin K0 K (decode cL_offers 235) 235 L (st) h cs ss = (lhas L 13 ∧ isI (lgt L 13) ∧ K 237 L (lgt L 13 :: st) h cs ss) := by
  rw [dL_offers_235, ey_ok, nx_iload_0] <;> rfl
theorem qL_offers_237 : ey F ini rt fin K0 K (decode cL_offers 237) 237 L (st) h cs ss = (K0 237 L st h cs ss) := by
  rw [dL_offers_237, ey_ok, nx_invokestatic_73]
theorem qL_offers_240 : ey F ini rt fin K0 K (decode cL_offers 240) 240 L (st) h cs ss = (lhas L 14 ∧ isI (lgt L 14) ∧ K 242 L (lgt L 14 :: st) h cs ss) := by
  rw [dL_offers_240, ey_ok, nx_iload_0] <;> rfl
theorem qL_offers_242 : ey F ini rt fin K0 K (decode cL_offers 242) 242 L (.int x :: r) h cs ss = (if ¬ x = 0 then K 251 L r h cs ss else K 245 L r h cs ss) := by
  rw [dL_offers_242, ey_ok, nx_ifond_31]
  exact and_l (by unfold jok; decide)
theorem qL_offers_245 : ey F ini rt fin K0 K (decode cL_offers 245) 245 L (st) h cs ss = (K 248 L (.int (-1001) :: st) h cs ss) := by
  rw [dL_offers_245, ey_ok, nx_sipush_13] <;> rfl
theorem qL_offers_248 : ey F ini rt fin K0 K (decode cL_offers 248) 248 L (st) h cs ss = (K 267 L st h cs ss) := by
  rw [dL_offers_248, ey_ok, nx_goto_29]
  exact and_l (by unfold jok; decide)
theorem qL_offers_251 : ey F ini rt fin K0 K (decode cL_offers 251) 251 L (st) h cs ss = (lhas L 15 ∧ isI (lgt L 15) ∧ K 253 L (lgt L 15 :: st) h cs ss) := by
  rw [dL_offers_251, ey_ok, nx_iload_0] <;> rfl
theorem qL_offers_253 : ey F ini rt fin K0 K (decode cL_offers 253) 253 L (.int x :: r) h cs ss = (if x = 0 then K 264 L r h cs ss else K 256 L r h cs ss) := by
  rw [dL_offers_253, ey_ok, nx_ifond_30]
  exact and_l (by unfold jok; decide)
theorem qL_offers_256 : ey F ini rt fin K0 K (decode cL_offers 256) 256 L (st) h cs ss = (lhas L 3 ∧ isRf (lgt L 3) ∧ K 257 L (lgt L 3 :: st) h cs ss) := by
  rw [dL_offers_256, ey_ok, nx_aload_n_3] <;> rfl
theorem qL_offers_257 : ey F ini rt fin K0 K (decode cL_offers 257) 257 L (st) h cs ss = (K 258 L (.int 4 :: st) h cs ss) := by
  rw [dL_offers_257, ey_ok, nx_iconst_11] <;> rfl
theorem qL_offers_258 : ey F ini rt fin K0 K (decode cL_offers 258) 258 L (.int i :: .ref a :: r) h cs ss = (isA (h.1 a) (fun k m => k = 0 ∧ vp_in i m) ∧ K 259 L (h.2 a i.toNatClampNeg :: r) h cs ss) := by
  rw [dL_offers_258, ey_ok, nx_iaload_57]
theorem qL_offers_259 : ey F ini rt fin K0 K (decode cL_offers 259) 259 L (st) h cs ss = (K 260 L (.int 1 :: st) h cs ss) := by
  rw [dL_offers_259, ey_ok, nx_iconst_11] <;> rfl
theorem qL_offers_260 : ey F ini rt fin K0 K (decode cL_offers 260) 260 L (.int y :: .int x :: r) h cs ss = (K 261 L (.int (x - y) :: r) h cs ss) := by
  rw [dL_offers_260, ey_ok, nx_isub_17]
theorem qL_offers_261 : ey F ini rt fin K0 K (decode cL_offers 261) 261 L (st) h cs ss = (K 267 L st h cs ss) := by
  rw [dL_offers_261, ey_ok, nx_goto_29]
  exact and_l (by unfold jok; decide)
theorem qL_offers_264 : ey F ini rt fin K0 K (decode cL_offers 264) 264 L (st) h cs ss = (K 267 L (.int (-1003) :: st) h cs ss) := by
  rw [dL_offers_264, ey_ok, nx_sipush_13] <;> rfl
theorem qL_offers_267 : ey F ini rt fin K0 K (decode cL_offers 267) 267 L (.int y :: .int x :: r) h cs ss = (if ¬ x = y then K 274 L r h cs ss else K 270 L r h cs ss) := by
  rw [dL_offers_267, ey_ok, nx_if_icmp_37]
  exact and_l (by unfold jok; decide)
theorem qL_offers_270 : ey F ini rt fin K0 K (decode cL_offers 270) 270 L (st) h cs ss = (K 271 L (.int 1 :: st) h cs ss) := by
  rw [dL_offers_270, ey_ok, nx_iconst_11] <;> rfl
theorem qL_offers_271 : ey F ini rt fin K0 K (decode cL_offers 271) 271 L (st) h cs ss = (K 275 L st h cs ss) := by
  rw [dL_offers_271, ey_ok, nx_goto_29]
  exact and_l (by unfold jok; decide)
theorem qL_offers_274 : ey F ini rt fin K0 K (decode cL_offers 274) 274 L (st) h cs ss = (K 275 L (.int 0 :: st) h cs ss) := by
  rw [dL_offers_274, ey_ok, nx_iconst_11] <;> rfl
theorem qL_offers_275 : ey F ini rt fin K0 K (decode cL_offers 275) 275 L ([.int x]) h cs ss = (rokI rt x ∧ fin (some (.int x)) h cs ss) := by
  rw [dL_offers_275, ey_ok, nx_ireturn_68]
theorem qL_offers_276 : ey F ini rt fin K0 K (decode cL_offers 276) 276 L (st) h cs ss = (lhas L 1 ∧ isI (lgt L 1) ∧ K 277 L (lgt L 1 :: st) h cs ss) := by
  rw [dL_offers_276, ey_ok, nx_iload_n_1] <;> rfl
theorem qL_offers_277 : ey F ini rt fin K0 K (decode cL_offers 277) 277 L (st) h cs ss = (K 278 L (.int 1 :: st) h cs ss) := by
  rw [dL_offers_277, ey_ok, nx_iconst_11] <;> rfl
theorem qL_offers_278 : ey F ini rt fin K0 K (decode cL_offers 278) 278 L (.int y :: .int x :: r) h cs ss = (if ¬ x = y then K 352 L r h cs ss else K 281 L r h cs ss) := by
  rw [dL_offers_278, ey_ok, nx_if_icmp_37]
  exact and_l (by unfold jok; decide)
theorem qL_offers_281 : ey F ini rt fin K0 K (decode cL_offers 281) 281 L (st) h cs ss = (lhas L 11 ∧ isI (lgt L 11) ∧ K 283 L (lgt L 11 :: st) h cs ss) := by
  rw [dL_offers_281, ey_ok, nx_iload_0] <;> rfl
theorem qL_offers_283 : ey F ini rt fin K0 K (decode cL_offers 283) 283 L (.int x :: r) h cs ss = (if ¬ x = 0 then K 292 L r h cs ss else K 286 L r h cs ss) := by
  rw [dL_offers_283, ey_ok, nx_ifond_31]
  exact and_l (by unfold jok; decide)
theorem qL_offers_286 : ey F ini rt fin K0 K (decode cL_offers 286) 286 L (st) h cs ss = (K 289 L (.int (-1001) :: st) h cs ss) := by
  rw [dL_offers_286, ey_ok, nx_sipush_13] <;> rfl
theorem qL_offers_289 : ey F ini rt fin K0 K (decode cL_offers 289) 289 L (st) h cs ss = (K 310 L st h cs ss) := by
  rw [dL_offers_289, ey_ok, nx_goto_29]
  exact and_l (by unfold jok; decide)
theorem qL_offers_292 : ey F ini rt fin K0 K (decode cL_offers 292) 292 L (st) h cs ss = (lhas L 9 ∧ isRf (lgt L 9) ∧ K 294 L (lgt L 9 :: st) h cs ss) := by
  rw [dL_offers_292, ey_ok, nx_aload_2] <;> rfl
theorem qL_offers_294 : ey F ini rt fin K0 K (decode cL_offers 294) 294 L (st) h cs ss = (K 296 L (.int 24 :: st) h cs ss) := by
  rw [dL_offers_294, ey_ok, nx_bipush_12] <;> rfl
theorem qL_offers_296 : ey F ini rt fin K0 K (decode cL_offers 296) 296 L (st) h cs ss = (lhas L 10 ∧ isI (lgt L 10) ∧ K 298 L (lgt L 10 :: st) h cs ss) := by
  rw [dL_offers_296, ey_ok, nx_iload_0] <;> rfl
theorem qL_offers_298 : ey F ini rt fin K0 K (decode cL_offers 298) 298 L (.int y :: .int x :: r) h cs ss = (K 299 L (.int (x + y) :: r) h cs ss) := by
  rw [dL_offers_298, ey_ok, nx_iadd_16]
theorem qL_offers_299 : ey F ini rt fin K0 K (decode cL_offers 299) 299 L (.int i :: .ref a :: r) h cs ss = (isA (h.1 a) (fun k m => k = 0 ∧ vp_in i m) ∧ K 300 L (h.2 a i.toNatClampNeg :: r) h cs ss) := by
  rw [dL_offers_299, ey_ok, nx_iaload_57]
theorem qL_offers_300 : ey F ini rt fin K0 K (decode cL_offers 300) 300 L (.int x :: r) h cs ss = (if ¬ x = 0 then K 309 L r h cs ss else K 303 L r h cs ss) := by
  rw [dL_offers_300, ey_ok, nx_ifond_31]
  exact and_l (by unfold jok; decide)
theorem qL_offers_303 : ey F ini rt fin K0 K (decode cL_offers 303) 303 L (st) h cs ss = (K 306 L (.int (-1003) :: st) h cs ss) := by
  rw [dL_offers_303, ey_ok, nx_sipush_13] <;> rfl
theorem qL_offers_306 : ey F ini rt fin K0 K (decode cL_offers 306) 306 L (st) h cs ss = (K 310 L st h cs ss) := by
  rw [dL_offers_306, ey_ok, nx_goto_29]
  exact and_l (by unfold jok; decide)
theorem qL_offers_309 : ey F ini rt fin K0 K (decode cL_offers 309) 309 L (st) h cs ss = (K 310 L (.int 0 :: st) h cs ss) := by
  rw [dL_offers_309, ey_ok, nx_iconst_11] <;> rfl
theorem qL_offers_310 : ey F ini rt fin K0 K (decode cL_offers 310) 310 L (.int x :: r) h cs ss = (12 < L.length ∧ K 312 (L.set 12 (some (.int x))) r h cs ss) := by
  rw [dL_offers_310, ey_ok, nx_istore_4] <;> rfl
theorem qL_offers_312 : ey F ini rt fin K0 K (decode cL_offers 312) 312 L (st) h cs ss = (lhas L 12 ∧ isI (lgt L 12) ∧ K 314 L (lgt L 12 :: st) h cs ss) := by
  rw [dL_offers_312, ey_ok, nx_iload_0] <;> rfl
theorem qL_offers_314 : ey F ini rt fin K0 K (decode cL_offers 314) 314 L (.int x :: r) h cs ss = (if ¬ x = 0 then K 334 L r h cs ss else K 317 L r h cs ss) := by
  rw [dL_offers_314, ey_ok, nx_ifond_31]
  exact and_l (by unfold jok; decide)
theorem qL_offers_317 : ey F ini rt fin K0 K (decode cL_offers 317) 317 L (st) h cs ss = (lhas L 9 ∧ isRf (lgt L 9) ∧ K 319 L (lgt L 9 :: st) h cs ss) := by
  rw [dL_offers_317, ey_ok, nx_aload_2] <;> rfl
theorem qL_offers_319 : ey F ini rt fin K0 K (decode cL_offers 319) 319 L (st) h cs ss = (K 321 L (.int 24 :: st) h cs ss) := by
  rw [dL_offers_319, ey_ok, nx_bipush_12] <;> rfl
theorem qL_offers_321 : ey F ini rt fin K0 K (decode cL_offers 321) 321 L (st) h cs ss = (lhas L 10 ∧ isI (lgt L 10) ∧ K 323 L (lgt L 10 :: st) h cs ss) := by
  rw [dL_offers_321, ey_ok, nx_iload_0] <;> rfl
theorem qL_offers_323 : ey F ini rt fin K0 K (decode cL_offers 323) 323 L (.int y :: .int x :: r) h cs ss = (K 324 L (.int (x + y) :: r) h cs ss) := by
  rw [dL_offers_323, ey_ok, nx_iadd_16]
theorem qL_offers_324 : ey F ini rt fin K0 K (decode cL_offers 324) 324 L (st) h cs ss = (K 325 L (.int 0 :: st) h cs ss) := by
  rw [dL_offers_324, ey_ok, nx_iconst_11] <;> rfl
theorem qL_offers_325 : ey F ini rt fin K0 K (decode cL_offers 325) 325 L (.int x :: .int i :: .ref a :: r) h cs ss = (isA (h.1 a) (fun k m => k = 0 ∧ vp_in i m) ∧ K 326 L r (h.1, hup h.2 a i.toNatClampNeg (.int x)) cs ss) := by
  rw [dL_offers_325, ey_ok, nx_iastore_62]
theorem qL_offers_326 : ey F ini rt fin K0 K (decode cL_offers 326) 326 L (st) h cs ss = (lhas L 3 ∧ isRf (lgt L 3) ∧ K 327 L (lgt L 3 :: st) h cs ss) := by
  rw [dL_offers_326, ey_ok, nx_aload_n_3] <;> rfl
theorem qL_offers_327 : ey F ini rt fin K0 K (decode cL_offers 327) 327 L (st) h cs ss = (lhas L 9 ∧ isRf (lgt L 9) ∧ K 329 L (lgt L 9 :: st) h cs ss) := by
  rw [dL_offers_327, ey_ok, nx_aload_2] <;> rfl
theorem qL_offers_329 : ey F ini rt fin K0 K (decode cL_offers 329) 329 L (st) h cs ss = (K0 329 L st h cs ss) := by
  rw [dL_offers_329, ey_ok, nx_invokestatic_73]
theorem qL_offers_332 : ey F ini rt fin K0 K (decode cL_offers 332) 332 L (.int x :: r) h cs ss = (12 < L.length ∧ K 334 (L.set 12 (some (.int x))) r h cs ss) := by
  rw [dL_offers_332, ey_ok, nx_istore_4] <;> rfl
theorem qL_offers_334 : ey F ini rt fin K0 K (decode cL_offers 334) 334 L (st) h cs ss = (lhas L 0 ∧ isRf (lgt L 0) ∧ K 335 L (lgt L 0 :: st) h cs ss) := by
  rw [dL_offers_334, ey_ok, nx_aload_n_3] <;> rfl
theorem qL_offers_335 : ey F ini rt fin K0 K (decode cL_offers 335) 335 L (st) h cs ss = (K 336 L (.int 3 :: st) h cs ss) := by
  rw [dL_offers_335, ey_ok, nx_iconst_11] <;> rfl
theorem qL_offers_336 : ey F ini rt fin K0 K (decode cL_offers 336) 336 L (st) h cs ss = (lhas L 10 ∧ isI (lgt L 10) ∧ K 338 L (lgt L 10 :: st) h cs ss) := by
  rw [dL_offers_336, ey_ok, nx_iload_0] <;> rfl
theorem qL_offers_338 : ey F ini rt fin K0 K (decode cL_offers 338) 338 L (st) h cs ss = (K0 338 L st h cs ss) := by
  rw [dL_offers_338, ey_ok, nx_invokestatic_73]
theorem qL_offers_341 : ey F ini rt fin K0 K (decode cL_offers 341) 341 L (st) h cs ss = (lhas L 12 ∧ isI (lgt L 12) ∧ K 343 L (lgt L 12 :: st) h cs ss) := by
  rw [dL_offers_341, ey_ok, nx_iload_0] <;> rfl
theorem qL_offers_343 : ey F ini rt fin K0 K (decode cL_offers 343) 343 L (.int y :: .int x :: r) h cs ss = (if ¬ x = y then K 350 L r h cs ss else K 346 L r h cs ss) := by
  rw [dL_offers_343, ey_ok, nx_if_icmp_37]
  exact and_l (by unfold jok; decide)
theorem qL_offers_346 : ey F ini rt fin K0 K (decode cL_offers 346) 346 L (st) h cs ss = (K 347 L (.int 1 :: st) h cs ss) := by
  rw [dL_offers_346, ey_ok, nx_iconst_11] <;> rfl
theorem qL_offers_347 : ey F ini rt fin K0 K (decode cL_offers 347) 347 L (st) h cs ss = (K 351 L st h cs ss) := by
  rw [dL_offers_347, ey_ok, nx_goto_29]
  exact and_l (by unfold jok; decide)
theorem qL_offers_350 : ey F ini rt fin K0 K (decode cL_offers 350) 350 L (st) h cs ss = (K 351 L (.int 0 :: st) h cs ss) := by
  rw [dL_offers_350, ey_ok, nx_iconst_11] <;> rfl
theorem qL_offers_351 : ey F ini rt fin K0 K (decode cL_offers 351) 351 L ([.int x]) h cs ss = (rokI rt x ∧ fin (some (.int x)) h cs ss) := by
  rw [dL_offers_351, ey_ok, nx_ireturn_68]
theorem qL_offers_352 : ey F ini rt fin K0 K (decode cL_offers 352) 352 L (st) h cs ss = (K 354 L (.int 8 :: st) h cs ss) := by
  rw [dL_offers_352, ey_ok, nx_bipush_12] <;> rfl
theorem qL_offers_354 : ey F ini rt fin K0 K (decode cL_offers 354) 354 L (st) h cs ss = (K0 354 L st h cs ss) := by
  rw [dL_offers_354, ey_ok, nx_newarray_76]
theorem qL_offers_356r : ey F ini rt fin K0 K (decode cL_offers 356) 356 L (.ref a :: r) h cs ss = (12 < L.length ∧ K 358 (L.set 12 (some (.ref a))) r h cs ss) := by
  rw [dL_offers_356, ey_ok, nx_astore_6] <;> rfl
theorem qL_offers_356n : ey F ini rt fin K0 K (decode cL_offers 356) 356 L (.null :: r) h cs ss = (12 < L.length ∧ K 358 (L.set 12 (some .null)) r h cs ss) := by
  rw [dL_offers_356, ey_ok, nx_astore_7] <;> rfl
theorem qL_offers_358 : ey F ini rt fin K0 K (decode cL_offers 358) 358 L (st) h cs ss = (lhas L 11 ∧ isI (lgt L 11) ∧ K 360 L (lgt L 11 :: st) h cs ss) := by
  rw [dL_offers_358, ey_ok, nx_iload_0] <;> rfl
theorem qL_offers_360 : ey F ini rt fin K0 K (decode cL_offers 360) 360 L (.int x :: r) h cs ss = (if x = 0 then K 378 L r h cs ss else K 363 L r h cs ss) := by
  rw [dL_offers_360, ey_ok, nx_ifond_30]
  exact and_l (by unfold jok; decide)
theorem qL_offers_363 : ey F ini rt fin K0 K (decode cL_offers 363) 363 L (st) h cs ss = (lhas L 3 ∧ isRf (lgt L 3) ∧ K 364 L (lgt L 3 :: st) h cs ss) := by
  rw [dL_offers_363, ey_ok, nx_aload_n_3] <;> rfl
theorem qL_offers_364 : ey F ini rt fin K0 K (decode cL_offers 364) 364 L (st) h cs ss = (lhas L 5 ∧ isRf (lgt L 5) ∧ K 366 L (lgt L 5 :: st) h cs ss) := by
  rw [dL_offers_364, ey_ok, nx_aload_2] <;> rfl
theorem qL_offers_366 : ey F ini rt fin K0 K (decode cL_offers 366) 366 L (st) h cs ss = (lhas L 9 ∧ isRf (lgt L 9) ∧ K 368 L (lgt L 9 :: st) h cs ss) := by
  rw [dL_offers_366, ey_ok, nx_aload_2] <;> rfl
theorem qL_offers_368 : ey F ini rt fin K0 K (decode cL_offers 368) 368 L (st) h cs ss = (lhas L 12 ∧ isRf (lgt L 12) ∧ K 370 L (lgt L 12 :: st) h cs ss) := by
  rw [dL_offers_368, ey_ok, nx_aload_2] <;> rfl
theorem qL_offers_370 : ey F ini rt fin K0 K (decode cL_offers 370) 370 L (st) h cs ss = (lhas L 10 ∧ isI (lgt L 10) ∧ K 372 L (lgt L 10 :: st) h cs ss) := by
  rw [dL_offers_370, ey_ok, nx_iload_0] <;> rfl
theorem qL_offers_372 : ey F ini rt fin K0 K (decode cL_offers 372) 372 L (st) h cs ss = (K0 372 L st h cs ss) := by
  rw [dL_offers_372, ey_ok, nx_invokestatic_73]
theorem qL_offers_375 : ey F ini rt fin K0 K (decode cL_offers 375) 375 L (st) h cs ss = (K 379 L st h cs ss) := by
  rw [dL_offers_375, ey_ok, nx_goto_29]
  exact and_l (by unfold jok; decide)
theorem qL_offers_378 : ey F ini rt fin K0 K (decode cL_offers 378) 378 L (st) h cs ss = (K 379 L (.int 0 :: st) h cs ss) := by
  rw [dL_offers_378, ey_ok, nx_iconst_11] <;> rfl
theorem qL_offers_379 : ey F ini rt fin K0 K (decode cL_offers 379) 379 L (.int x :: r) h cs ss = (13 < L.length ∧ K 381 (L.set 13 (some (.int x))) r h cs ss) := by
  rw [dL_offers_379, ey_ok, nx_istore_4] <;> rfl
theorem qL_offers_381 : ey F ini rt fin K0 K (decode cL_offers 381) 381 L (st) h cs ss = (lhas L 13 ∧ isI (lgt L 13) ∧ K 383 L (lgt L 13 :: st) h cs ss) := by
  rw [dL_offers_381, ey_ok, nx_iload_0] <;> rfl
theorem qL_offers_383 : ey F ini rt fin K0 K (decode cL_offers 383) 383 L (.int x :: r) h cs ss = (if x ≤ 0 then K 390 L r h cs ss else K 386 L r h cs ss) := by
  rw [dL_offers_383, ey_ok, nx_ifond_35]
  exact and_l (by unfold jok; decide)
theorem qL_offers_386 : ey F ini rt fin K0 K (decode cL_offers 386) 386 L (st) h cs ss = (K 387 L (.int 1 :: st) h cs ss) := by
  rw [dL_offers_386, ey_ok, nx_iconst_11] <;> rfl
theorem qL_offers_387 : ey F ini rt fin K0 K (decode cL_offers 387) 387 L (st) h cs ss = (K 391 L st h cs ss) := by
  rw [dL_offers_387, ey_ok, nx_goto_29]
  exact and_l (by unfold jok; decide)
theorem qL_offers_390 : ey F ini rt fin K0 K (decode cL_offers 390) 390 L (st) h cs ss = (K 391 L (.int 0 :: st) h cs ss) := by
  rw [dL_offers_390, ey_ok, nx_iconst_11] <;> rfl
theorem qL_offers_391 : ey F ini rt fin K0 K (decode cL_offers 391) 391 L (.int x :: r) h cs ss = (14 < L.length ∧ K 393 (L.set 14 (some (.int x))) r h cs ss) := by
  rw [dL_offers_391, ey_ok, nx_istore_4] <;> rfl
theorem qL_offers_393 : ey F ini rt fin K0 K (decode cL_offers 393) 393 L (st) h cs ss = (K 394 L (.int 0 :: st) h cs ss) := by
  rw [dL_offers_393, ey_ok, nx_iconst_11] <;> rfl
theorem qL_offers_394 : ey F ini rt fin K0 K (decode cL_offers 394) 394 L (.int x :: r) h cs ss = (15 < L.length ∧ K 396 (L.set 15 (some (.int x))) r h cs ss) := by
  rw [dL_offers_394, ey_ok, nx_istore_4] <;> rfl
theorem qL_offers_396 : ey F ini rt fin K0 K (decode cL_offers 396) 396 L (st) h cs ss = (lhas L 15 ∧ isI (lgt L 15) ∧ K 398 L (lgt L 15 :: st) h cs ss) := by
  rw [dL_offers_396, ey_ok, nx_iload_0] <;> rfl
theorem qL_offers_398 : ey F ini rt fin K0 K (decode cL_offers 398) 398 L (st) h cs ss = (lhas L 13 ∧ isI (lgt L 13) ∧ K 400 L (lgt L 13 :: st) h cs ss) := by
  rw [dL_offers_398, ey_ok, nx_iload_0] <;> rfl
theorem qL_offers_400 : ey F ini rt fin K0 K (decode cL_offers 400) 400 L (.int y :: .int x :: r) h cs ss = (if y ≤ x then K 482 L r h cs ss else K 403 L r h cs ss) := by
  rw [dL_offers_400, ey_ok, nx_if_icmp_39]
  exact and_l (by unfold jok; decide)
theorem qL_offers_403 : ey F ini rt fin K0 K (decode cL_offers 403) 403 L (st) h cs ss = (lhas L 14 ∧ isI (lgt L 14) ∧ K 405 L (lgt L 14 :: st) h cs ss) := by
  rw [dL_offers_403, ey_ok, nx_iload_0] <;> rfl
theorem qL_offers_405 : ey F ini rt fin K0 K (decode cL_offers 405) 405 L (.int x :: r) h cs ss = (if x = 0 then K 473 L r h cs ss else K 408 L r h cs ss) := by
  rw [dL_offers_405, ey_ok, nx_ifond_30]
  exact and_l (by unfold jok; decide)
theorem qL_offers_408 : ey F ini rt fin K0 K (decode cL_offers 408) 408 L (st) h cs ss = (lhas L 5 ∧ isRf (lgt L 5) ∧ K 410 L (lgt L 5 :: st) h cs ss) := by
  rw [dL_offers_408, ey_ok, nx_aload_2] <;> rfl
theorem qL_offers_410 : ey F ini rt fin K0 K (decode cL_offers 410) 410 L (st) h cs ss = (lhas L 9 ∧ isRf (lgt L 9) ∧ K 412 L (lgt L 9 :: st) h cs ss) := by
  rw [dL_offers_410, ey_ok, nx_aload_2] <;> rfl
theorem qL_offers_412 : ey F ini rt fin K0 K (decode cL_offers 412) 412 L (st) h cs ss = (lhas L 12 ∧ isRf (lgt L 12) ∧ K 414 L (lgt L 12 :: st) h cs ss) := by
  rw [dL_offers_412, ey_ok, nx_aload_2] <;> rfl
theorem qL_offers_414 : ey F ini rt fin K0 K (decode cL_offers 414) 414 L (st) h cs ss = (lhas L 15 ∧ isI (lgt L 15) ∧ K 416 L (lgt L 15 :: st) h cs ss) := by
  rw [dL_offers_414, ey_ok, nx_iload_0] <;> rfl
theorem qL_offers_416 : ey F ini rt fin K0 K (decode cL_offers 416) 416 L (.int i :: .ref a :: r) h cs ss = (isA (h.1 a) (fun k m => k = 0 ∧ vp_in i m) ∧ K 417 L (h.2 a i.toNatClampNeg :: r) h cs ss) := by
  rw [dL_offers_416, ey_ok, nx_iaload_57]
theorem qL_offers_417 : ey F ini rt fin K0 K (decode cL_offers 417) 417 L (.int i :: .ref a :: r) h cs ss = (isA (h.1 a) (fun k m => k = 0 ∧ vp_in i m) ∧ K 418 L (h.2 a i.toNatClampNeg :: r) h cs ss) := by
  rw [dL_offers_417, ey_ok, nx_iaload_57]
theorem qL_offers_418 : ey F ini rt fin K0 K (decode cL_offers 418) 418 L (.int i :: .ref a :: r) h cs ss = (isA (h.1 a) (fun k m => k = 0 ∧ vp_in i m) ∧ K 419 L (h.2 a i.toNatClampNeg :: r) h cs ss) := by
  rw [dL_offers_418, ey_ok, nx_iaload_57]
theorem qL_offers_419 : ey F ini rt fin K0 K (decode cL_offers 419) 419 L (st) h cs ss = (lhas L 3 ∧ isRf (lgt L 3) ∧ K 420 L (lgt L 3 :: st) h cs ss) := by
  rw [dL_offers_419, ey_ok, nx_aload_n_3] <;> rfl
theorem qL_offers_420 : ey F ini rt fin K0 K (decode cL_offers 420) 420 L (st) h cs ss = (K 421 L (.int 0 :: st) h cs ss) := by
  rw [dL_offers_420, ey_ok, nx_iconst_11] <;> rfl
theorem qL_offers_421 : ey F ini rt fin K0 K (decode cL_offers 421) 421 L (.int i :: .ref a :: r) h cs ss = (isA (h.1 a) (fun k m => k = 0 ∧ vp_in i m) ∧ K 422 L (h.2 a i.toNatClampNeg :: r) h cs ss) := by
  rw [dL_offers_421, ey_ok, nx_iaload_57]
theorem qL_offers_422 : ey F ini rt fin K0 K (decode cL_offers 422) 422 L (.int y :: .int x :: r) h cs ss = (if x ≤ y then K 473 L r h cs ss else K 425 L r h cs ss) := by
  rw [dL_offers_422, ey_ok, nx_if_icmp_41]
  exact and_l (by unfold jok; decide)
theorem qL_offers_425 : ey F ini rt fin K0 K (decode cL_offers 425) 425 L (st) h cs ss = (lhas L 3 ∧ isRf (lgt L 3) ∧ K 426 L (lgt L 3 :: st) h cs ss) := by
  rw [dL_offers_425, ey_ok, nx_aload_n_3] <;> rfl
theorem qL_offers_426 : ey F ini rt fin K0 K (decode cL_offers 426) 426 L (st) h cs ss = (lhas L 4 ∧ isRf (lgt L 4) ∧ K 428 L (lgt L 4 :: st) h cs ss) := by
  rw [dL_offers_426, ey_ok, nx_aload_2] <;> rfl
theorem qL_offers_428 : ey F ini rt fin K0 K (decode cL_offers 428) 428 L (st) h cs ss = (lhas L 5 ∧ isRf (lgt L 5) ∧ K 430 L (lgt L 5 :: st) h cs ss) := by
  rw [dL_offers_428, ey_ok, nx_aload_2] <;> rfl
theorem qL_offers_430 : ey F ini rt fin K0 K (decode cL_offers 430) 430 L (st) h cs ss = (lhas L 5 ∧ isRf (lgt L 5) ∧ K 432 L (lgt L 5 :: st) h cs ss) := by
  rw [dL_offers_430, ey_ok, nx_aload_2] <;> rfl
theorem qL_offers_432 : ey F ini rt fin K0 K (decode cL_offers 432) 432 L (st) h cs ss = (K 434 L (.int 30 :: st) h cs ss) := by
  rw [dL_offers_432, ey_ok, nx_bipush_12] <;> rfl
theorem qL_offers_434 : ey F ini rt fin K0 K (decode cL_offers 434) 434 L (st) h cs ss = (lhas L 9 ∧ isRf (lgt L 9) ∧ K 436 L (lgt L 9 :: st) h cs ss) := by
  rw [dL_offers_434, ey_ok, nx_aload_2] <;> rfl
theorem qL_offers_436 : ey F ini rt fin K0 K (decode cL_offers 436) 436 L (st) h cs ss = (lhas L 12 ∧ isRf (lgt L 12) ∧ K 438 L (lgt L 12 :: st) h cs ss) := by
  rw [dL_offers_436, ey_ok, nx_aload_2] <;> rfl
theorem qL_offers_438 : ey F ini rt fin K0 K (decode cL_offers 438) 438 L (st) h cs ss = (lhas L 15 ∧ isI (lgt L 15) ∧ K 440 L (lgt L 15 :: st) h cs ss) := by
  rw [dL_offers_438, ey_ok, nx_iload_0] <;> rfl
theorem qL_offers_440 : ey F ini rt fin K0 K (decode cL_offers 440) 440 L (.int i :: .ref a :: r) h cs ss = (isA (h.1 a) (fun k m => k = 0 ∧ vp_in i m) ∧ K 441 L (h.2 a i.toNatClampNeg :: r) h cs ss) := by
  rw [dL_offers_440, ey_ok, nx_iaload_57]
theorem qL_offers_441 : ey F ini rt fin K0 K (decode cL_offers 441) 441 L (.int i :: .ref a :: r) h cs ss = (isA (h.1 a) (fun k m => k = 0 ∧ vp_in i m) ∧ K 442 L (h.2 a i.toNatClampNeg :: r) h cs ss) := by
  rw [dL_offers_441, ey_ok, nx_iaload_57]
theorem qL_offers_442 : ey F ini rt fin K0 K (decode cL_offers 442) 442 L (.int y :: .int x :: r) h cs ss = (K 443 L (.int (x + y) :: r) h cs ss) := by
  rw [dL_offers_442, ey_ok, nx_iadd_16]
theorem qL_offers_443 : ey F ini rt fin K0 K (decode cL_offers 443) 443 L (.int i :: .ref a :: r) h cs ss = (isA (h.1 a) (fun k m => k = 0 ∧ vp_in i m) ∧ K 444 L (h.2 a i.toNatClampNeg :: r) h cs ss) := by
  rw [dL_offers_443, ey_ok, nx_iaload_57]
theorem qL_offers_444 : ey F ini rt fin K0 K (decode cL_offers 444) 444 L (st) h cs ss = (lhas L 9 ∧ isRf (lgt L 9) ∧ K 446 L (lgt L 9 :: st) h cs ss) := by
  rw [dL_offers_444, ey_ok, nx_aload_2] <;> rfl
theorem qL_offers_446 : ey F ini rt fin K0 K (decode cL_offers 446) 446 L (st) h cs ss = (K 448 L (.int 12 :: st) h cs ss) := by
  rw [dL_offers_446, ey_ok, nx_bipush_12] <;> rfl
theorem qL_offers_448 : ey F ini rt fin K0 K (decode cL_offers 448) 448 L (st) h cs ss = (lhas L 12 ∧ isRf (lgt L 12) ∧ K 450 L (lgt L 12 :: st) h cs ss) := by
  rw [dL_offers_448, ey_ok, nx_aload_2] <;> rfl
theorem qL_offers_450 : ey F ini rt fin K0 K (decode cL_offers 450) 450 L (st) h cs ss = (lhas L 15 ∧ isI (lgt L 15) ∧ K 452 L (lgt L 15 :: st) h cs ss) := by
  rw [dL_offers_450, ey_ok, nx_iload_0] <;> rfl
theorem qL_offers_452 : ey F ini rt fin K0 K (decode cL_offers 452) 452 L (.int i :: .ref a :: r) h cs ss = (isA (h.1 a) (fun k m => k = 0 ∧ vp_in i m) ∧ K 453 L (h.2 a i.toNatClampNeg :: r) h cs ss) := by
  rw [dL_offers_452, ey_ok, nx_iaload_57]
theorem qL_offers_453 : ey F ini rt fin K0 K (decode cL_offers 453) 453 L (.int y :: .int x :: r) h cs ss = (K 454 L (.int (x + y) :: r) h cs ss) := by
  rw [dL_offers_453, ey_ok, nx_iadd_16]
theorem qL_offers_454 : ey F ini rt fin K0 K (decode cL_offers 454) 454 L (.int i :: .ref a :: r) h cs ss = (isA (h.1 a) (fun k m => k = 0 ∧ vp_in i m) ∧ K 455 L (h.2 a i.toNatClampNeg :: r) h cs ss) := by
  rw [dL_offers_454, ey_ok, nx_iaload_57]
theorem qL_offers_455 : ey F ini rt fin K0 K (decode cL_offers 455) 455 L (st) h cs ss = (lhas L 9 ∧ isRf (lgt L 9) ∧ K 457 L (lgt L 9 :: st) h cs ss) := by
  rw [dL_offers_455, ey_ok, nx_aload_2] <;> rfl
theorem qL_offers_457 : ey F ini rt fin K0 K (decode cL_offers 457) 457 L (st) h cs ss = (lhas L 12 ∧ isRf (lgt L 12) ∧ K 459 L (lgt L 12 :: st) h cs ss) := by
  rw [dL_offers_457, ey_ok, nx_aload_2] <;> rfl
theorem qL_offers_459 : ey F ini rt fin K0 K (decode cL_offers 459) 459 L (st) h cs ss = (lhas L 15 ∧ isI (lgt L 15) ∧ K 461 L (lgt L 15 :: st) h cs ss) := by
  rw [dL_offers_459, ey_ok, nx_iload_0] <;> rfl
theorem qL_offers_461 : ey F ini rt fin K0 K (decode cL_offers 461) 461 L (.int i :: .ref a :: r) h cs ss = (isA (h.1 a) (fun k m => k = 0 ∧ vp_in i m) ∧ K 462 L (h.2 a i.toNatClampNeg :: r) h cs ss) := by
  rw [dL_offers_461, ey_ok, nx_iaload_57]
theorem qL_offers_462 : ey F ini rt fin K0 K (decode cL_offers 462) 462 L (.int i :: .ref a :: r) h cs ss = (isA (h.1 a) (fun k m => k = 0 ∧ vp_in i m) ∧ K 463 L (h.2 a i.toNatClampNeg :: r) h cs ss) := by
  rw [dL_offers_462, ey_ok, nx_iaload_57]
theorem qL_offers_463 : ey F ini rt fin K0 K (decode cL_offers 463) 463 L (st) h cs ss = (K0 463 L st h cs ss) := by
  rw [dL_offers_463, ey_ok, nx_invokestatic_73]
theorem qL_offers_466 : ey F ini rt fin K0 K (decode cL_offers 466) 466 L (.int x :: r) h cs ss = (if x = 0 then K 473 L r h cs ss else K 469 L r h cs ss) := by
  rw [dL_offers_466, ey_ok, nx_ifond_30]
  exact and_l (by unfold jok; decide)
theorem qL_offers_469 : ey F ini rt fin K0 K (decode cL_offers 469) 469 L (st) h cs ss = (K 470 L (.int 1 :: st) h cs ss) := by
  rw [dL_offers_469, ey_ok, nx_iconst_11] <;> rfl
theorem qL_offers_470 : ey F ini rt fin K0 K (decode cL_offers 470) 470 L (st) h cs ss = (K 474 L st h cs ss) := by
  rw [dL_offers_470, ey_ok, nx_goto_29]
  exact and_l (by unfold jok; decide)
theorem qL_offers_473 : ey F ini rt fin K0 K (decode cL_offers 473) 473 L (st) h cs ss = (K 474 L (.int 0 :: st) h cs ss) := by
  rw [dL_offers_473, ey_ok, nx_iconst_11] <;> rfl
theorem qL_offers_474 : ey F ini rt fin K0 K (decode cL_offers 474) 474 L (.int x :: r) h cs ss = (14 < L.length ∧ K 476 (L.set 14 (some (.int x))) r h cs ss) := by
  rw [dL_offers_474, ey_ok, nx_istore_4] <;> rfl
theorem qL_offers_476 : ey F ini rt fin K0 K (decode cL_offers 476) 476 L (st) h cs ss = (lhas L 15 ∧ isI (lgt L 15) ∧ K 479 (L.set 15 (some (inc (lgt L 15) 1))) st h cs ss) := by
  rw [dL_offers_476, ey_ok, nx_iinc_10] <;> rfl
theorem qL_offers_479 : ey F ini rt fin K0 K (decode cL_offers 479) 479 L (st) h cs ss = (K 396 L st h cs ss) := by
  rw [dL_offers_479, ey_ok, nx_goto_29]
  exact and_l (by unfold jok; decide)
theorem qL_offers_482 : ey F ini rt fin K0 K (decode cL_offers 482) 482 L (st) h cs ss = (lhas L 3 ∧ isRf (lgt L 3) ∧ K 483 L (lgt L 3 :: st) h cs ss) := by
  rw [dL_offers_482, ey_ok, nx_aload_n_3] <;> rfl
theorem qL_offers_483 : ey F ini rt fin K0 K (decode cL_offers 483) 483 L (st) h cs ss = (K 484 L (.int 3 :: st) h cs ss) := by
  rw [dL_offers_483, ey_ok, nx_iconst_11] <;> rfl
theorem qL_offers_484 : ey F ini rt fin K0 K (decode cL_offers 484) 484 L (.int i :: .ref a :: r) h cs ss = (isA (h.1 a) (fun k m => k = 0 ∧ vp_in i m) ∧ K 485 L (h.2 a i.toNatClampNeg :: r) h cs ss) := by
  rw [dL_offers_484, ey_ok, nx_iaload_57]
theorem qL_offers_485 : ey F ini rt fin K0 K (decode cL_offers 485) 485 L (.int x :: r) h cs ss = (15 < L.length ∧ K 487 (L.set 15 (some (.int x))) r h cs ss) := by
  rw [dL_offers_485, ey_ok, nx_istore_4] <;> rfl
theorem qL_offers_487 : ey F ini rt fin K0 K (decode cL_offers 487) 487 L (st) h cs ss = (lhas L 14 ∧ isI (lgt L 14) ∧ K 489 L (lgt L 14 :: st) h cs ss) := by
  rw [dL_offers_487, ey_ok, nx_iload_0] <;> rfl
theorem qL_offers_489 : ey F ini rt fin K0 K (decode cL_offers 489) 489 L (.int x :: r) h cs ss = (if x = 0 then K 586 L r h cs ss else K 492 L r h cs ss) := by
  rw [dL_offers_489, ey_ok, nx_ifond_30]
  exact and_l (by unfold jok; decide)
theorem qL_offers_492 : ey F ini rt fin K0 K (decode cL_offers 492) 492 L (st) h cs ss = (K 494 L (.int 8 :: st) h cs ss) := by
  rw [dL_offers_492, ey_ok, nx_bipush_12] <;> rfl
theorem qL_offers_494 : ey F ini rt fin K0 K (decode cL_offers 494) 494 L (st) h cs ss = (K0 494 L st h cs ss) := by
  rw [dL_offers_494, ey_ok, nx_newarray_76]
theorem qL_offers_496r : ey F ini rt fin K0 K (decode cL_offers 496) 496 L (.ref a :: r) h cs ss = (16 < L.length ∧ K 498 (L.set 16 (some (.ref a))) r h cs ss) := by
  rw [dL_offers_496, ey_ok, nx_astore_6] <;> rfl
theorem qL_offers_496n : ey F ini rt fin K0 K (decode cL_offers 496) 496 L (.null :: r) h cs ss = (16 < L.length ∧ K 498 (L.set 16 (some .null)) r h cs ss) := by
  rw [dL_offers_496, ey_ok, nx_astore_7] <;> rfl
theorem qL_offers_498 : ey F ini rt fin K0 K (decode cL_offers 498) 498 L (st) h cs ss = (K 499 L (.int 0 :: st) h cs ss) := by
  rw [dL_offers_498, ey_ok, nx_iconst_11] <;> rfl
theorem qL_offers_499 : ey F ini rt fin K0 K (decode cL_offers 499) 499 L (.int x :: r) h cs ss = (17 < L.length ∧ K 501 (L.set 17 (some (.int x))) r h cs ss) := by
  rw [dL_offers_499, ey_ok, nx_istore_4] <;> rfl
theorem qL_offers_501 : ey F ini rt fin K0 K (decode cL_offers 501) 501 L (st) h cs ss = (lhas L 17 ∧ isI (lgt L 17) ∧ K 503 L (lgt L 17 :: st) h cs ss) := by
  rw [dL_offers_501, ey_ok, nx_iload_0] <;> rfl
theorem qL_offers_503 : ey F ini rt fin K0 K (decode cL_offers 503) 503 L (st) h cs ss = (lhas L 13 ∧ isI (lgt L 13) ∧ K 505 L (lgt L 13 :: st) h cs ss) := by
  rw [dL_offers_503, ey_ok, nx_iload_0] <;> rfl
theorem qL_offers_505 : ey F ini rt fin K0 K (decode cL_offers 505) 505 L (.int y :: .int x :: r) h cs ss = (if y ≤ x then K 533 L r h cs ss else K 508 L r h cs ss) := by
  rw [dL_offers_505, ey_ok, nx_if_icmp_39]
  exact and_l (by unfold jok; decide)
theorem qL_offers_508 : ey F ini rt fin K0 K (decode cL_offers 508) 508 L (st) h cs ss = (lhas L 16 ∧ isRf (lgt L 16) ∧ K 510 L (lgt L 16 :: st) h cs ss) := by
  rw [dL_offers_508, ey_ok, nx_aload_2] <;> rfl
theorem qL_offers_510 : ey F ini rt fin K0 K (decode cL_offers 510) 510 L (st) h cs ss = (lhas L 17 ∧ isI (lgt L 17) ∧ K 512 L (lgt L 17 :: st) h cs ss) := by
  rw [dL_offers_510, ey_ok, nx_iload_0] <;> rfl
theorem qL_offers_512 : ey F ini rt fin K0 K (decode cL_offers 512) 512 L (st) h cs ss = (lhas L 5 ∧ isRf (lgt L 5) ∧ K 514 L (lgt L 5 :: st) h cs ss) := by
  rw [dL_offers_512, ey_ok, nx_aload_2] <;> rfl
theorem qL_offers_514 : ey F ini rt fin K0 K (decode cL_offers 514) 514 L (st) h cs ss = (K 516 L (.int 30 :: st) h cs ss) := by
  rw [dL_offers_514, ey_ok, nx_bipush_12] <;> rfl
theorem qL_offers_516 : ey F ini rt fin K0 K (decode cL_offers 516) 516 L (st) h cs ss = (lhas L 9 ∧ isRf (lgt L 9) ∧ K 518 L (lgt L 9 :: st) h cs ss) := by
  rw [dL_offers_516, ey_ok, nx_aload_2] <;> rfl
theorem qL_offers_518 : ey F ini rt fin K0 K (decode cL_offers 518) 518 L (st) h cs ss = (lhas L 12 ∧ isRf (lgt L 12) ∧ K 520 L (lgt L 12 :: st) h cs ss) := by
  rw [dL_offers_518, ey_ok, nx_aload_2] <;> rfl
theorem qL_offers_520 : ey F ini rt fin K0 K (decode cL_offers 520) 520 L (st) h cs ss = (lhas L 17 ∧ isI (lgt L 17) ∧ K 522 L (lgt L 17 :: st) h cs ss) := by
  rw [dL_offers_520, ey_ok, nx_iload_0] <;> rfl
theorem qL_offers_522 : ey F ini rt fin K0 K (decode cL_offers 522) 522 L (.int i :: .ref a :: r) h cs ss = (isA (h.1 a) (fun k m => k = 0 ∧ vp_in i m) ∧ K 523 L (h.2 a i.toNatClampNeg :: r) h cs ss) := by
  rw [dL_offers_522, ey_ok, nx_iaload_57]
theorem qL_offers_523 : ey F ini rt fin K0 K (decode cL_offers 523) 523 L (.int i :: .ref a :: r) h cs ss = (isA (h.1 a) (fun k m => k = 0 ∧ vp_in i m) ∧ K 524 L (h.2 a i.toNatClampNeg :: r) h cs ss) := by
  rw [dL_offers_523, ey_ok, nx_iaload_57]
theorem qL_offers_524 : ey F ini rt fin K0 K (decode cL_offers 524) 524 L (.int y :: .int x :: r) h cs ss = (K 525 L (.int (x + y) :: r) h cs ss) := by
  rw [dL_offers_524, ey_ok, nx_iadd_16]
theorem qL_offers_525 : ey F ini rt fin K0 K (decode cL_offers 525) 525 L (.int i :: .ref a :: r) h cs ss = (isA (h.1 a) (fun k m => k = 0 ∧ vp_in i m) ∧ K 526 L (h.2 a i.toNatClampNeg :: r) h cs ss) := by
  rw [dL_offers_525, ey_ok, nx_iaload_57]
theorem qL_offers_526 : ey F ini rt fin K0 K (decode cL_offers 526) 526 L (.int x :: .int i :: .ref a :: r) h cs ss = (isA (h.1 a) (fun k m => k = 0 ∧ vp_in i m) ∧ K 527 L r (h.1, hup h.2 a i.toNatClampNeg (.int x)) cs ss) := by
  rw [dL_offers_526, ey_ok, nx_iastore_62]
theorem qL_offers_527 : ey F ini rt fin K0 K (decode cL_offers 527) 527 L (st) h cs ss = (lhas L 17 ∧ isI (lgt L 17) ∧ K 530 (L.set 17 (some (inc (lgt L 17) 1))) st h cs ss) := by
  rw [dL_offers_527, ey_ok, nx_iinc_10] <;> rfl
theorem qL_offers_530 : ey F ini rt fin K0 K (decode cL_offers 530) 530 L (st) h cs ss = (K 501 L st h cs ss) := by
  rw [dL_offers_530, ey_ok, nx_goto_29]
  exact and_l (by unfold jok; decide)
theorem qL_offers_533 : ey F ini rt fin K0 K (decode cL_offers 533) 533 L (st) h cs ss = (K 534 L (.int 0 :: st) h cs ss) := by
  rw [dL_offers_533, ey_ok, nx_iconst_11] <;> rfl
theorem qL_offers_534 : ey F ini rt fin K0 K (decode cL_offers 534) 534 L (.int x :: r) h cs ss = (17 < L.length ∧ K 536 (L.set 17 (some (.int x))) r h cs ss) := by
  rw [dL_offers_534, ey_ok, nx_istore_4] <;> rfl
theorem qL_offers_536 : ey F ini rt fin K0 K (decode cL_offers 536) 536 L (st) h cs ss = (lhas L 17 ∧ isI (lgt L 17) ∧ K 538 L (lgt L 17 :: st) h cs ss) := by
  rw [dL_offers_536, ey_ok, nx_iload_0] <;> rfl
theorem qL_offers_538 : ey F ini rt fin K0 K (decode cL_offers 538) 538 L (st) h cs ss = (lhas L 13 ∧ isI (lgt L 13) ∧ K 540 L (lgt L 13 :: st) h cs ss) := by
  rw [dL_offers_538, ey_ok, nx_iload_0] <;> rfl
theorem qL_offers_540 : ey F ini rt fin K0 K (decode cL_offers 540) 540 L (.int y :: .int x :: r) h cs ss = (if y ≤ x then K 573 L r h cs ss else K 543 L r h cs ss) := by
  rw [dL_offers_540, ey_ok, nx_if_icmp_39]
  exact and_l (by unfold jok; decide)
theorem qL_offers_543 : ey F ini rt fin K0 K (decode cL_offers 543) 543 L (st) h cs ss = (lhas L 3 ∧ isRf (lgt L 3) ∧ K 544 L (lgt L 3 :: st) h cs ss) := by
  rw [dL_offers_543, ey_ok, nx_aload_n_3] <;> rfl
theorem qL_offers_544 : ey F ini rt fin K0 K (decode cL_offers 544) 544 L (st) h cs ss = (lhas L 5 ∧ isRf (lgt L 5) ∧ K 546 L (lgt L 5 :: st) h cs ss) := by
  rw [dL_offers_544, ey_ok, nx_aload_2] <;> rfl
theorem qL_offers_546 : ey F ini rt fin K0 K (decode cL_offers 546) 546 L (st) h cs ss = (lhas L 9 ∧ isRf (lgt L 9) ∧ K 548 L (lgt L 9 :: st) h cs ss) := by
  rw [dL_offers_546, ey_ok, nx_aload_2] <;> rfl
theorem qL_offers_548 : ey F ini rt fin K0 K (decode cL_offers 548) 548 L (st) h cs ss = (lhas L 9 ∧ isRf (lgt L 9) ∧ K 550 L (lgt L 9 :: st) h cs ss) := by
  rw [dL_offers_548, ey_ok, nx_aload_2] <;> rfl
theorem qL_offers_550 : ey F ini rt fin K0 K (decode cL_offers 550) 550 L (st) h cs ss = (K 552 L (.int 12 :: st) h cs ss) := by
  rw [dL_offers_550, ey_ok, nx_bipush_12] <;> rfl
theorem qL_offers_552 : ey F ini rt fin K0 K (decode cL_offers 552) 552 L (st) h cs ss = (lhas L 12 ∧ isRf (lgt L 12) ∧ K 554 L (lgt L 12 :: st) h cs ss) := by
  rw [dL_offers_552, ey_ok, nx_aload_2] <;> rfl
theorem qL_offers_554 : ey F ini rt fin K0 K (decode cL_offers 554) 554 L (st) h cs ss = (lhas L 17 ∧ isI (lgt L 17) ∧ K 556 L (lgt L 17 :: st) h cs ss) := by
  rw [dL_offers_554, ey_ok, nx_iload_0] <;> rfl
theorem qL_offers_556 : ey F ini rt fin K0 K (decode cL_offers 556) 556 L (.int i :: .ref a :: r) h cs ss = (isA (h.1 a) (fun k m => k = 0 ∧ vp_in i m) ∧ K 557 L (h.2 a i.toNatClampNeg :: r) h cs ss) := by
  rw [dL_offers_556, ey_ok, nx_iaload_57]
theorem qL_offers_557 : ey F ini rt fin K0 K (decode cL_offers 557) 557 L (.int y :: .int x :: r) h cs ss = (K 558 L (.int (x + y) :: r) h cs ss) := by
  rw [dL_offers_557, ey_ok, nx_iadd_16]
theorem qL_offers_558 : ey F ini rt fin K0 K (decode cL_offers 558) 558 L (.int i :: .ref a :: r) h cs ss = (isA (h.1 a) (fun k m => k = 0 ∧ vp_in i m) ∧ K 559 L (h.2 a i.toNatClampNeg :: r) h cs ss) := by
  rw [dL_offers_558, ey_ok, nx_iaload_57]
theorem qL_offers_559 : ey F ini rt fin K0 K (decode cL_offers 559) 559 L (st) h cs ss = (lhas L 16 ∧ isRf (lgt L 16) ∧ K 561 L (lgt L 16 :: st) h cs ss) := by
  rw [dL_offers_559, ey_ok, nx_aload_2] <;> rfl
theorem qL_offers_561 : ey F ini rt fin K0 K (decode cL_offers 561) 561 L (st) h cs ss = (lhas L 17 ∧ isI (lgt L 17) ∧ K 563 L (lgt L 17 :: st) h cs ss) := by
  rw [dL_offers_561, ey_ok, nx_iload_0] <;> rfl
theorem qL_offers_563 : ey F ini rt fin K0 K (decode cL_offers 563) 563 L (.int i :: .ref a :: r) h cs ss = (isA (h.1 a) (fun k m => k = 0 ∧ vp_in i m) ∧ K 564 L (h.2 a i.toNatClampNeg :: r) h cs ss) := by
  rw [dL_offers_563, ey_ok, nx_iaload_57]
theorem qL_offers_564 : ey F ini rt fin K0 K (decode cL_offers 564) 564 L (st) h cs ss = (K0 564 L st h cs ss) := by
  rw [dL_offers_564, ey_ok, nx_invokestatic_73]
theorem qL_offers_567 : ey F ini rt fin K0 K (decode cL_offers 567) 567 L (st) h cs ss = (lhas L 17 ∧ isI (lgt L 17) ∧ K 570 (L.set 17 (some (inc (lgt L 17) 1))) st h cs ss) := by
  rw [dL_offers_567, ey_ok, nx_iinc_10] <;> rfl
theorem qL_offers_570 : ey F ini rt fin K0 K (decode cL_offers 570) 570 L (st) h cs ss = (K 536 L st h cs ss) := by
  rw [dL_offers_570, ey_ok, nx_goto_29]
  exact and_l (by unfold jok; decide)
theorem qL_offers_573 : ey F ini rt fin K0 K (decode cL_offers 573) 573 L (st) h cs ss = (lhas L 3 ∧ isRf (lgt L 3) ∧ K 574 L (lgt L 3 :: st) h cs ss) := by
  rw [dL_offers_573, ey_ok, nx_aload_n_3] <;> rfl
theorem qL_offers_574 : ey F ini rt fin K0 K (decode cL_offers 574) 574 L (st) h cs ss = (lhas L 5 ∧ isRf (lgt L 5) ∧ K 576 L (lgt L 5 :: st) h cs ss) := by
  rw [dL_offers_574, ey_ok, nx_aload_2] <;> rfl
theorem qL_offers_576 : ey F ini rt fin K0 K (decode cL_offers 576) 576 L (st) h cs ss = (lhas L 6 ∧ isRf (lgt L 6) ∧ K 578 L (lgt L 6 :: st) h cs ss) := by
  rw [dL_offers_576, ey_ok, nx_aload_2] <;> rfl
theorem qL_offers_578 : ey F ini rt fin K0 K (decode cL_offers 578) 578 L (st) h cs ss = (lhas L 7 ∧ isRf (lgt L 7) ∧ K 580 L (lgt L 7 :: st) h cs ss) := by
  rw [dL_offers_578, ey_ok, nx_aload_2] <;> rfl
theorem qL_offers_580 : ey F ini rt fin K0 K (decode cL_offers 580) 580 L (st) h cs ss = (lhas L 8 ∧ isRf (lgt L 8) ∧ K 582 L (lgt L 8 :: st) h cs ss) := by
  rw [dL_offers_580, ey_ok, nx_aload_2] <;> rfl
theorem qL_offers_582 : ey F ini rt fin K0 K (decode cL_offers 582) 582 L (st) h cs ss = (K0 582 L st h cs ss) := by
  rw [dL_offers_582, ey_ok, nx_invokestatic_73]
theorem qL_offers_585 : ey F ini rt fin K0 K (decode cL_offers 585) 585 L (v :: r) h cs ss = (v.category = 1 ∧ K 586 L r h cs ss) := by
  rw [dL_offers_585, ey_ok, nx_pop_28]
theorem qL_offers_586 : ey F ini rt fin K0 K (decode cL_offers 586) 586 L (st) h cs ss = (lhas L 0 ∧ isRf (lgt L 0) ∧ K 587 L (lgt L 0 :: st) h cs ss) := by
  rw [dL_offers_586, ey_ok, nx_aload_n_3] <;> rfl
theorem qL_offers_587 : ey F ini rt fin K0 K (decode cL_offers 587) 587 L (st) h cs ss = (K 588 L (.int 4 :: st) h cs ss) := by
  rw [dL_offers_587, ey_ok, nx_iconst_11] <;> rfl
theorem qL_offers_588 : ey F ini rt fin K0 K (decode cL_offers 588) 588 L (st) h cs ss = (lhas L 10 ∧ isI (lgt L 10) ∧ K 590 L (lgt L 10 :: st) h cs ss) := by
  rw [dL_offers_588, ey_ok, nx_iload_0] <;> rfl
theorem qL_offers_590 : ey F ini rt fin K0 K (decode cL_offers 590) 590 L (st) h cs ss = (K0 590 L st h cs ss) := by
  rw [dL_offers_590, ey_ok, nx_invokestatic_73]
theorem qL_offers_593 : ey F ini rt fin K0 K (decode cL_offers 593) 593 L (st) h cs ss = (lhas L 11 ∧ isI (lgt L 11) ∧ K 595 L (lgt L 11 :: st) h cs ss) := by
  rw [dL_offers_593, ey_ok, nx_iload_0] <;> rfl
theorem qL_offers_595 : ey F ini rt fin K0 K (decode cL_offers 595) 595 L (.int x :: r) h cs ss = (if ¬ x = 0 then K 604 L r h cs ss else K 598 L r h cs ss) := by
  rw [dL_offers_595, ey_ok, nx_ifond_31]
  exact and_l (by unfold jok; decide)
theorem qL_offers_598 : ey F ini rt fin K0 K (decode cL_offers 598) 598 L (st) h cs ss = (K 601 L (.int (-1001) :: st) h cs ss) := by
  rw [dL_offers_598, ey_ok, nx_sipush_13] <;> rfl
theorem qL_offers_601 : ey F ini rt fin K0 K (decode cL_offers 601) 601 L (st) h cs ss = (K 621 L st h cs ss) := by
  rw [dL_offers_601, ey_ok, nx_goto_29]
  exact and_l (by unfold jok; decide)
theorem qL_offers_604 : ey F ini rt fin K0 K (decode cL_offers 604) 604 L (st) h cs ss = (lhas L 14 ∧ isI (lgt L 14) ∧ K 606 L (lgt L 14 :: st) h cs ss) := by
  rw [dL_offers_604, ey_ok, nx_iload_0] <;> rfl
theorem qL_offers_606 : ey F ini rt fin K0 K (decode cL_offers 606) 606 L (.int x :: r) h cs ss = (if x = 0 then K 618 L r h cs ss else K 609 L r h cs ss) := by
  rw [dL_offers_606, ey_ok, nx_ifond_30]
  exact and_l (by unfold jok; decide)
theorem qL_offers_609 : ey F ini rt fin K0 K (decode cL_offers 609) 609 L (st) h cs ss = (lhas L 3 ∧ isRf (lgt L 3) ∧ K 610 L (lgt L 3 :: st) h cs ss) := by
  rw [dL_offers_609, ey_ok, nx_aload_n_3] <;> rfl
theorem qL_offers_610 : ey F ini rt fin K0 K (decode cL_offers 610) 610 L (st) h cs ss = (K 611 L (.int 3 :: st) h cs ss) := by
  rw [dL_offers_610, ey_ok, nx_iconst_11] <;> rfl
theorem qL_offers_611 : ey F ini rt fin K0 K (decode cL_offers 611) 611 L (.int i :: .ref a :: r) h cs ss = (isA (h.1 a) (fun k m => k = 0 ∧ vp_in i m) ∧ K 612 L (h.2 a i.toNatClampNeg :: r) h cs ss) := by
  rw [dL_offers_611, ey_ok, nx_iaload_57]
theorem qL_offers_612 : ey F ini rt fin K0 K (decode cL_offers 612) 612 L (st) h cs ss = (lhas L 15 ∧ isI (lgt L 15) ∧ K 614 L (lgt L 15 :: st) h cs ss) := by
  rw [dL_offers_612, ey_ok, nx_iload_0] <;> rfl
theorem qL_offers_614 : ey F ini rt fin K0 K (decode cL_offers 614) 614 L (.int y :: .int x :: r) h cs ss = (K 615 L (.int (x - y) :: r) h cs ss) := by
  rw [dL_offers_614, ey_ok, nx_isub_17]
theorem qL_offers_615 : ey F ini rt fin K0 K (decode cL_offers 615) 615 L (st) h cs ss = (K 621 L st h cs ss) := by
  rw [dL_offers_615, ey_ok, nx_goto_29]
  exact and_l (by unfold jok; decide)
theorem qL_offers_618 : ey F ini rt fin K0 K (decode cL_offers 618) 618 L (st) h cs ss = (K 621 L (.int (-1003) :: st) h cs ss) := by
  rw [dL_offers_618, ey_ok, nx_sipush_13] <;> rfl
theorem qL_offers_621 : ey F ini rt fin K0 K (decode cL_offers 621) 621 L (.int y :: .int x :: r) h cs ss = (if ¬ x = y then K 628 L r h cs ss else K 624 L r h cs ss) := by
  rw [dL_offers_621, ey_ok, nx_if_icmp_37]
  exact and_l (by unfold jok; decide)
theorem qL_offers_624 : ey F ini rt fin K0 K (decode cL_offers 624) 624 L (st) h cs ss = (K 625 L (.int 1 :: st) h cs ss) := by
  rw [dL_offers_624, ey_ok, nx_iconst_11] <;> rfl
theorem qL_offers_625 : ey F ini rt fin K0 K (decode cL_offers 625) 625 L (st) h cs ss = (K 629 L st h cs ss) := by
  rw [dL_offers_625, ey_ok, nx_goto_29]
  exact and_l (by unfold jok; decide)
theorem qL_offers_628 : ey F ini rt fin K0 K (decode cL_offers 628) 628 L (st) h cs ss = (K 629 L (.int 0 :: st) h cs ss) := by
  rw [dL_offers_628, ey_ok, nx_iconst_11] <;> rfl
theorem qL_offers_629 : ey F ini rt fin K0 K (decode cL_offers 629) 629 L ([.int x]) h cs ss = (rokI rt x ∧ fin (some (.int x)) h cs ss) := by
  rw [dL_offers_629, ey_ok, nx_ireturn_68]
theorem qL_asks_0 : ey F ini rt fin K0 K (decode cL_asks 0) 0 L (st) h cs ss = (K 2 L (.int 8 :: st) h cs ss) := by
  rw [dL_asks_0, ey_ok, nx_bipush_12] <;> rfl
theorem qL_asks_2 : ey F ini rt fin K0 K (decode cL_asks 2) 2 L (st) h cs ss = (K0 2 L st h cs ss) := by
  rw [dL_asks_2, ey_ok, nx_newarray_76]
theorem qL_asks_4r : ey F ini rt fin K0 K (decode cL_asks 4) 4 L (.ref a :: r) h cs ss = (9 < L.length ∧ K 6 (L.set 9 (some (.ref a))) r h cs ss) := by
  rw [dL_asks_4, ey_ok, nx_astore_6] <;> rfl
theorem qL_asks_4n : ey F ini rt fin K0 K (decode cL_asks 4) 4 L (.null :: r) h cs ss = (9 < L.length ∧ K 6 (L.set 9 (some .null)) r h cs ss) := by
  rw [dL_asks_4, ey_ok, nx_astore_7] <;> rfl
theorem qL_asks_6 : ey F ini rt fin K0 K (decode cL_asks 6) 6 L (st) h cs ss = (lhas L 1 ∧ isI (lgt L 1) ∧ K 7 L (lgt L 1 :: st) h cs ss) := by
  rw [dL_asks_6, ey_ok, nx_iload_n_1] <;> rfl
theorem qL_asks_7 : ey F ini rt fin K0 K (decode cL_asks 7) 7 L (st) h cs ss = (K 8 L (.int 3 :: st) h cs ss) := by
  rw [dL_asks_7, ey_ok, nx_iconst_11] <;> rfl
theorem qL_asks_8 : ey F ini rt fin K0 K (decode cL_asks 8) 8 L (.int y :: .int x :: r) h cs ss = (K 9 L (.int (x >>> (y &&& 31)) :: r) h cs ss) := by
  rw [dL_asks_8, ey_ok, nx_ishr_21]
theorem qL_asks_9 : ey F ini rt fin K0 K (decode cL_asks 9) 9 L (st) h cs ss = (lhas L 2 ∧ isRf (lgt L 2) ∧ K 10 L (lgt L 2 :: st) h cs ss) := by
  rw [dL_asks_9, ey_ok, nx_aload_n_3] <;> rfl
theorem qL_asks_10 : ey F ini rt fin K0 K (decode cL_asks 10) 10 L (st) h cs ss = (K 11 L (.int 1 :: st) h cs ss) := by
  rw [dL_asks_10, ey_ok, nx_iconst_11] <;> rfl
theorem qL_asks_11 : ey F ini rt fin K0 K (decode cL_asks 11) 11 L (.int i :: .ref a :: r) h cs ss = (isA (h.1 a) (fun k m => k = 0 ∧ vp_in i m) ∧ K 12 L (h.2 a i.toNatClampNeg :: r) h cs ss) := by
  rw [dL_asks_11, ey_ok, nx_iaload_57]
theorem qL_asks_12 : ey F ini rt fin K0 K (decode cL_asks 12) 12 L (st) h cs ss = (K 13 L (.int 1 :: st) h cs ss) := by
  rw [dL_asks_12, ey_ok, nx_iconst_11] <;> rfl
theorem qL_asks_13 : ey F ini rt fin K0 K (decode cL_asks 13) 13 L (.int y :: .int x :: r) h cs ss = (K 14 L (.int (x + y) :: r) h cs ss) := by
  rw [dL_asks_13, ey_ok, nx_iadd_16]
theorem qL_asks_14 : ey F ini rt fin K0 K (decode cL_asks 14) 14 L (st) h cs ss = (K0 14 L st h cs ss) := by
  rw [dL_asks_14, ey_ok, nx_invokestatic_73]
theorem qL_asks_17 : ey F ini rt fin K0 K (decode cL_asks 17) 17 L (.int x :: r) h cs ss = (10 < L.length ∧ K 19 (L.set 10 (some (.int x))) r h cs ss) := by
  rw [dL_asks_17, ey_ok, nx_istore_4] <;> rfl
theorem qL_asks_19 : ey F ini rt fin K0 K (decode cL_asks 19) 19 L (st) h cs ss = (lhas L 10 ∧ isI (lgt L 10) ∧ K 21 L (lgt L 10 :: st) h cs ss) := by
  rw [dL_asks_19, ey_ok, nx_iload_0] <;> rfl
theorem qL_asks_21 : ey F ini rt fin K0 K (decode cL_asks 21) 21 L (st) h cs ss = (lhas L 2 ∧ isRf (lgt L 2) ∧ K 22 L (lgt L 2 :: st) h cs ss) := by
  rw [dL_asks_21, ey_ok, nx_aload_n_3] <;> rfl
theorem qL_asks_22 : ey F ini rt fin K0 K (decode cL_asks 22) 22 L (st) h cs ss = (K 23 L (.int 1 :: st) h cs ss) := by
  rw [dL_asks_22, ey_ok, nx_iconst_11] <;> rfl
theorem qL_asks_23 : ey F ini rt fin K0 K (decode cL_asks 23) 23 L (.int i :: .ref a :: r) h cs ss = (isA (h.1 a) (fun k m => k = 0 ∧ vp_in i m) ∧ K 24 L (h.2 a i.toNatClampNeg :: r) h cs ss) := by
  rw [dL_asks_23, ey_ok, nx_iaload_57]
theorem qL_asks_24 : ey F ini rt fin K0 K (decode cL_asks 24) 24 L (.int y :: .int x :: r) h cs ss = (if y ≤ x then K 31 L r h cs ss else K 27 L r h cs ss) := by
  rw [dL_asks_24, ey_ok, nx_if_icmp_39]
  exact and_l (by unfold jok; decide)
theorem qL_asks_27 : ey F ini rt fin K0 K (decode cL_asks 27) 27 L (st) h cs ss = (K 28 L (.int 1 :: st) h cs ss) := by
  rw [dL_asks_27, ey_ok, nx_iconst_11] <;> rfl
theorem qL_asks_28 : ey F ini rt fin K0 K (decode cL_asks 28) 28 L (st) h cs ss = (K 32 L st h cs ss) := by
  rw [dL_asks_28, ey_ok, nx_goto_29]
  exact and_l (by unfold jok; decide)
theorem qL_asks_31 : ey F ini rt fin K0 K (decode cL_asks 31) 31 L (st) h cs ss = (K 32 L (.int 0 :: st) h cs ss) := by
  rw [dL_asks_31, ey_ok, nx_iconst_11] <;> rfl
theorem qL_asks_32 : ey F ini rt fin K0 K (decode cL_asks 32) 32 L (.int x :: r) h cs ss = (11 < L.length ∧ K 34 (L.set 11 (some (.int x))) r h cs ss) := by
  rw [dL_asks_32, ey_ok, nx_istore_4] <;> rfl
theorem qL_asks_34 : ey F ini rt fin K0 K (decode cL_asks 34) 34 L (st) h cs ss = (lhas L 11 ∧ isI (lgt L 11) ∧ K 36 L (lgt L 11 :: st) h cs ss) := by
  rw [dL_asks_34, ey_ok, nx_iload_0] <;> rfl
theorem qL_asks_36 : ey F ini rt fin K0 K (decode cL_asks 36) 36 L (.int x :: r) h cs ss = (if x = 0 then K 61 L r h cs ss else K 39 L r h cs ss) := by
  rw [dL_asks_36, ey_ok, nx_ifond_30]
  exact and_l (by unfold jok; decide)
theorem qL_asks_39 : ey F ini rt fin K0 K (decode cL_asks 39) 39 L (st) h cs ss = (lhas L 4 ∧ isRf (lgt L 4) ∧ K 41 L (lgt L 4 :: st) h cs ss) := by
  rw [dL_asks_39, ey_ok, nx_aload_2] <;> rfl
theorem qL_asks_41 : ey F ini rt fin K0 K (decode cL_asks 41) 41 L (st) h cs ss = (K 43 L (.int 30 :: st) h cs ss) := by
  rw [dL_asks_41, ey_ok, nx_bipush_12] <;> rfl
theorem qL_asks_43 : ey F ini rt fin K0 K (decode cL_asks 43) 43 L (st) h cs ss = (lhas L 10 ∧ isI (lgt L 10) ∧ K 45 L (lgt L 10 :: st) h cs ss) := by
  rw [dL_asks_43, ey_ok, nx_iload_0] <;> rfl
theorem qL_asks_45 : ey F ini rt fin K0 K (decode cL_asks 45) 45 L (.int y :: .int x :: r) h cs ss = (K 46 L (.int (x + y) :: r) h cs ss) := by
  rw [dL_asks_45, ey_ok, nx_iadd_16]
theorem qL_asks_46 : ey F ini rt fin K0 K (decode cL_asks 46) 46 L (.int i :: .ref a :: r) h cs ss = (isA (h.1 a) (fun k m => k = 0 ∧ vp_in i m) ∧ K 47 L (h.2 a i.toNatClampNeg :: r) h cs ss) := by
  rw [dL_asks_46, ey_ok, nx_iaload_57]
theorem qL_asks_47 : ey F ini rt fin K0 K (decode cL_asks 47) 47 L (.int x :: r) h cs ss = (if x < 0 then K 61 L r h cs ss else K 50 L r h cs ss) := by
  rw [dL_asks_47, ey_ok, nx_ifond_32]
  exact and_l (by unfold jok; decide)
theorem qL_asks_50 : ey F ini rt fin K0 K (decode cL_asks 50) 50 L (st) h cs ss = (lhas L 2 ∧ isRf (lgt L 2) ∧ K 51 L (lgt L 2 :: st) h cs ss) := by
  rw [dL_asks_50, ey_ok, nx_aload_n_3] <;> rfl
theorem qL_asks_51 : ey F ini rt fin K0 K (decode cL_asks 51) 51 L (st) h cs ss = (lhas L 4 ∧ isRf (lgt L 4) ∧ K 53 L (lgt L 4 :: st) h cs ss) := by
  rw [dL_asks_51, ey_ok, nx_aload_2] <;> rfl
theorem qL_asks_53 : ey F ini rt fin K0 K (decode cL_asks 53) 53 L (st) h cs ss = (lhas L 10 ∧ isI (lgt L 10) ∧ K 55 L (lgt L 10 :: st) h cs ss) := by
  rw [dL_asks_53, ey_ok, nx_iload_0] <;> rfl
theorem qL_asks_55 : ey F ini rt fin K0 K (decode cL_asks 55) 55 L (st) h cs ss = (K0 55 L st h cs ss) := by
  rw [dL_asks_55, ey_ok, nx_invokestatic_73]
theorem qL_asks_58 : ey F ini rt fin K0 K (decode cL_asks 58) 58 L (st) h cs ss = (K 62 L st h cs ss) := by
  rw [dL_asks_58, ey_ok, nx_goto_29]
  exact and_l (by unfold jok; decide)
theorem qL_asks_61 : ey F ini rt fin K0 K (decode cL_asks 61) 61 L (st) h cs ss = (K 62 L (.int (-1) :: st) h cs ss) := by
  rw [dL_asks_61, ey_ok, nx_iconst_11] <;> rfl
theorem qL_asks_62 : ey F ini rt fin K0 K (decode cL_asks 62) 62 L (.int x :: r) h cs ss = (12 < L.length ∧ K 64 (L.set 12 (some (.int x))) r h cs ss) := by
  rw [dL_asks_62, ey_ok, nx_istore_4] <;> rfl
theorem qL_asks_64 : ey F ini rt fin K0 K (decode cL_asks 64) 64 L (st) h cs ss = (lhas L 0 ∧ isRf (lgt L 0) ∧ K 65 L (lgt L 0 :: st) h cs ss) := by
  rw [dL_asks_64, ey_ok, nx_aload_n_3] <;> rfl
theorem qL_asks_65 : ey F ini rt fin K0 K (decode cL_asks 65) 65 L (st) h cs ss = (K 67 L (.int 6 :: st) h cs ss) := by
  rw [dL_asks_65, ey_ok, nx_bipush_12] <;> rfl
theorem qL_asks_67 : ey F ini rt fin K0 K (decode cL_asks 67) 67 L (st) h cs ss = (lhas L 10 ∧ isI (lgt L 10) ∧ K 69 L (lgt L 10 :: st) h cs ss) := by
  rw [dL_asks_67, ey_ok, nx_iload_0] <;> rfl
theorem qL_asks_69 : ey F ini rt fin K0 K (decode cL_asks 69) 69 L (st) h cs ss = (K0 69 L st h cs ss) := by
  rw [dL_asks_69, ey_ok, nx_invokestatic_73]
theorem qL_asks_72 : ey F ini rt fin K0 K (decode cL_asks 72) 72 L (st) h cs ss = (lhas L 11 ∧ isI (lgt L 11) ∧ K 74 L (lgt L 11 :: st) h cs ss) := by
  rw [dL_asks_72, ey_ok, nx_iload_0] <;> rfl
theorem qL_asks_74 : ey F ini rt fin K0 K (decode cL_asks 74) 74 L (.int x :: r) h cs ss = (if x = 0 then K 88 L r h cs ss else K 77 L r h cs ss) := by
  rw [dL_asks_74, ey_ok, nx_ifond_30]
  exact and_l (by unfold jok; decide)
theorem qL_asks_77 : ey F ini rt fin K0 K (decode cL_asks 77) 77 L (st) h cs ss = (lhas L 4 ∧ isRf (lgt L 4) ∧ K 79 L (lgt L 4 :: st) h cs ss) := by
  rw [dL_asks_77, ey_ok, nx_aload_2] <;> rfl
theorem qL_asks_79 : ey F ini rt fin K0 K (decode cL_asks 79) 79 L (st) h cs ss = (K 81 L (.int 30 :: st) h cs ss) := by
  rw [dL_asks_79, ey_ok, nx_bipush_12] <;> rfl
theorem qL_asks_81 : ey F ini rt fin K0 K (decode cL_asks 81) 81 L (st) h cs ss = (lhas L 10 ∧ isI (lgt L 10) ∧ K 83 L (lgt L 10 :: st) h cs ss) := by
  rw [dL_asks_81, ey_ok, nx_iload_0] <;> rfl
theorem qL_asks_83 : ey F ini rt fin K0 K (decode cL_asks 83) 83 L (.int y :: .int x :: r) h cs ss = (K 84 L (.int (x + y) :: r) h cs ss) := by
  rw [dL_asks_83, ey_ok, nx_iadd_16]
theorem qL_asks_84 : ey F ini rt fin K0 K (decode cL_asks 84) 84 L (.int i :: .ref a :: r) h cs ss = (isA (h.1 a) (fun k m => k = 0 ∧ vp_in i m) ∧ K 85 L (h.2 a i.toNatClampNeg :: r) h cs ss) := by
  rw [dL_asks_84, ey_ok, nx_iaload_57]
theorem qL_asks_85 : ey F ini rt fin K0 K (decode cL_asks 85) 85 L (st) h cs ss = (K 91 L st h cs ss) := by
  rw [dL_asks_85, ey_ok, nx_goto_29]
  exact and_l (by unfold jok; decide)
theorem qL_asks_88 : ey F ini rt fin K0 K (decode cL_asks 88) 88 L (st) h cs ss = (K 91 L (.int (-1001) :: st) h cs ss) := by
  rw [dL_asks_88, ey_ok, nx_sipush_13] <;> rfl
theorem qL_asks_91 : ey F ini rt fin K0 K (decode cL_asks 91) 91 L (.int y :: .int x :: r) h cs ss = (if ¬ x = y then K 144 L r h cs ss else K 94 L r h cs ss) := by
  rw [dL_asks_91, ey_ok, nx_if_icmp_37]
  exact and_l (by unfold jok; decide)
theorem qL_asks_94 : ey F ini rt fin K0 K (decode cL_asks 94) 94 L (st) h cs ss = (lhas L 0 ∧ isRf (lgt L 0) ∧ K 95 L (lgt L 0 :: st) h cs ss) := by
  rw [dL_asks_94, ey_ok, nx_aload_n_3] <;> rfl
theorem qL_asks_95 : ey F ini rt fin K0 K (decode cL_asks 95) 95 L (st) h cs ss = (K 97 L (.int 7 :: st) h cs ss) := by
  rw [dL_asks_95, ey_ok, nx_bipush_12] <;> rfl
theorem qL_asks_97 : ey F ini rt fin K0 K (decode cL_asks 97) 97 L (st) h cs ss = (lhas L 10 ∧ isI (lgt L 10) ∧ K 99 L (lgt L 10 :: st) h cs ss) := by
  rw [dL_asks_97, ey_ok, nx_iload_0] <;> rfl
theorem qL_asks_99 : ey F ini rt fin K0 K (decode cL_asks 99) 99 L (st) h cs ss = (K0 99 L st h cs ss) := by
  rw [dL_asks_99, ey_ok, nx_invokestatic_73]
theorem qL_asks_102 : ey F ini rt fin K0 K (decode cL_asks 102) 102 L (st) h cs ss = (lhas L 11 ∧ isI (lgt L 11) ∧ K 104 L (lgt L 11 :: st) h cs ss) := by
  rw [dL_asks_102, ey_ok, nx_iload_0] <;> rfl
theorem qL_asks_104 : ey F ini rt fin K0 K (decode cL_asks 104) 104 L (.int x :: r) h cs ss = (if ¬ x = 0 then K 113 L r h cs ss else K 107 L r h cs ss) := by
  rw [dL_asks_104, ey_ok, nx_ifond_31]
  exact and_l (by unfold jok; decide)
theorem qL_asks_107 : ey F ini rt fin K0 K (decode cL_asks 107) 107 L (st) h cs ss = (K 110 L (.int (-1001) :: st) h cs ss) := by
  rw [dL_asks_107, ey_ok, nx_sipush_13] <;> rfl
theorem qL_asks_110 : ey F ini rt fin K0 K (decode cL_asks 110) 110 L (st) h cs ss = (K 141 L st h cs ss) := by
  rw [dL_asks_110, ey_ok, nx_goto_29]
  exact and_l (by unfold jok; decide)
theorem qL_asks_113 : ey F ini rt fin K0 K (decode cL_asks 113) 113 L (st) h cs ss = (lhas L 12 ∧ isI (lgt L 12) ∧ K 115 L (lgt L 12 :: st) h cs ss) := by
  rw [dL_asks_113, ey_ok, nx_iload_0] <;> rfl
theorem qL_asks_115 : ey F ini rt fin K0 K (decode cL_asks 115) 115 L (.int x :: r) h cs ss = (if 0 ≤ x then K 124 L r h cs ss else K 118 L r h cs ss) := by
  rw [dL_asks_115, ey_ok, nx_ifond_33]
  exact and_l (by unfold jok; decide)
theorem qL_asks_118 : ey F ini rt fin K0 K (decode cL_asks 118) 118 L (st) h cs ss = (K 121 L (.int 10000 :: st) h cs ss) := by
  rw [dL_asks_118, ey_ok, nx_sipush_13] <;> rfl
theorem qL_asks_121 : ey F ini rt fin K0 K (decode cL_asks 121) 121 L (st) h cs ss = (K 141 L st h cs ss) := by
  rw [dL_asks_121, ey_ok, nx_goto_29]
  exact and_l (by unfold jok; decide)
theorem qL_asks_124 : ey F ini rt fin K0 K (decode cL_asks 124) 124 L (st) h cs ss = (lhas L 4 ∧ isRf (lgt L 4) ∧ K 126 L (lgt L 4 :: st) h cs ss) := by
  rw [dL_asks_124, ey_ok, nx_aload_2] <;> rfl
theorem qL_asks_126 : ey F ini rt fin K0 K (decode cL_asks 126) 126 L (st) h cs ss = (K 128 L (.int 40 :: st) h cs ss) := by
  rw [dL_asks_126, ey_ok, nx_bipush_12] <;> rfl
theorem qL_asks_128 : ey F ini rt fin K0 K (decode cL_asks 128) 128 L (st) h cs ss = (lhas L 10 ∧ isI (lgt L 10) ∧ K 130 L (lgt L 10 :: st) h cs ss) := by
  rw [dL_asks_128, ey_ok, nx_iload_0] <;> rfl
theorem qL_asks_130 : ey F ini rt fin K0 K (decode cL_asks 130) 130 L (.int y :: .int x :: r) h cs ss = (K 131 L (.int (x + y) :: r) h cs ss) := by
  rw [dL_asks_130, ey_ok, nx_iadd_16]
theorem qL_asks_131 : ey F ini rt fin K0 K (decode cL_asks 131) 131 L (.int i :: .ref a :: r) h cs ss = (isA (h.1 a) (fun k m => k = 0 ∧ vp_in i m) ∧ K 132 L (h.2 a i.toNatClampNeg :: r) h cs ss) := by
  rw [dL_asks_131, ey_ok, nx_iaload_57]
theorem qL_asks_132 : ey F ini rt fin K0 K (decode cL_asks 132) 132 L (st) h cs ss = (lhas L 4 ∧ isRf (lgt L 4) ∧ K 134 L (lgt L 4 :: st) h cs ss) := by
  rw [dL_asks_132, ey_ok, nx_aload_2] <;> rfl
theorem qL_asks_134 : ey F ini rt fin K0 K (decode cL_asks 134) 134 L (st) h cs ss = (K 136 L (.int 50 :: st) h cs ss) := by
  rw [dL_asks_134, ey_ok, nx_bipush_12] <;> rfl
theorem qL_asks_136 : ey F ini rt fin K0 K (decode cL_asks 136) 136 L (st) h cs ss = (lhas L 12 ∧ isI (lgt L 12) ∧ K 138 L (lgt L 12 :: st) h cs ss) := by
  rw [dL_asks_136, ey_ok, nx_iload_0] <;> rfl
theorem qL_asks_138 : ey F ini rt fin K0 K (decode cL_asks 138) 138 L (.int y :: .int x :: r) h cs ss = (K 139 L (.int (x + y) :: r) h cs ss) := by
  rw [dL_asks_138, ey_ok, nx_iadd_16]
theorem qL_asks_139 : ey F ini rt fin K0 K (decode cL_asks 139) 139 L (.int i :: .ref a :: r) h cs ss = (isA (h.1 a) (fun k m => k = 0 ∧ vp_in i m) ∧ K 140 L (h.2 a i.toNatClampNeg :: r) h cs ss) := by
  rw [dL_asks_139, ey_ok, nx_iaload_57]
theorem qL_asks_140 : ey F ini rt fin K0 K (decode cL_asks 140) 140 L (.int y :: .int x :: r) h cs ss = (K 141 L (.int (x - y) :: r) h cs ss) := by
  rw [dL_asks_140, ey_ok, nx_isub_17]
theorem qL_asks_141 : ey F ini rt fin K0 K (decode cL_asks 141) 141 L (.int y :: .int x :: r) h cs ss = (if x = y then K 146 L r h cs ss else K 144 L r h cs ss) := by
  rw [dL_asks_141, ey_ok, nx_if_icmp_36]
  exact and_l (by unfold jok; decide)
theorem qL_asks_144 : ey F ini rt fin K0 K (decode cL_asks 144) 144 L (st) h cs ss = (K 145 L (.int 0 :: st) h cs ss) := by
  rw [dL_asks_144, ey_ok, nx_iconst_11] <;> rfl
theorem qL_asks_145 : ey F ini rt fin K0 K (decode cL_asks 145) 145 L ([.int x]) h cs ss = (rokI rt x ∧ fin (some (.int x)) h cs ss) := by
  rw [dL_asks_145, ey_ok, nx_ireturn_68]
theorem qL_asks_146 : ey F ini rt fin K0 K (decode cL_asks 146) 146 L (st) h cs ss = (K 147 L (.int 0 :: st) h cs ss) := by
  rw [dL_asks_146, ey_ok, nx_iconst_11] <;> rfl
theorem qL_asks_147 : ey F ini rt fin K0 K (decode cL_asks 147) 147 L (.int x :: r) h cs ss = (13 < L.length ∧ K 149 (L.set 13 (some (.int x))) r h cs ss) := by
  rw [dL_asks_147, ey_ok, nx_istore_4] <;> rfl
theorem qL_asks_149 : ey F ini rt fin K0 K (decode cL_asks 149) 149 L (st) h cs ss = (lhas L 13 ∧ isI (lgt L 13) ∧ K 151 L (lgt L 13 :: st) h cs ss) := by
  rw [dL_asks_149, ey_ok, nx_iload_0] <;> rfl
theorem qL_asks_151 : ey F ini rt fin K0 K (decode cL_asks 151) 151 L (st) h cs ss = (lhas L 2 ∧ isRf (lgt L 2) ∧ K 152 L (lgt L 2 :: st) h cs ss) := by
  rw [dL_asks_151, ey_ok, nx_aload_n_3] <;> rfl
theorem qL_asks_152 : ey F ini rt fin K0 K (decode cL_asks 152) 152 L (st) h cs ss = (K 153 L (.int 2 :: st) h cs ss) := by
  rw [dL_asks_152, ey_ok, nx_iconst_11] <;> rfl
theorem qL_asks_153 : ey F ini rt fin K0 K (decode cL_asks 153) 153 L (.int i :: .ref a :: r) h cs ss = (isA (h.1 a) (fun k m => k = 0 ∧ vp_in i m) ∧ K 154 L (h.2 a i.toNatClampNeg :: r) h cs ss) := by
  rw [dL_asks_153, ey_ok, nx_iaload_57]
theorem qL_asks_154 : ey F ini rt fin K0 K (decode cL_asks 154) 154 L (.int y :: .int x :: r) h cs ss = (if y < x then K 216 L r h cs ss else K 157 L r h cs ss) := by
  rw [dL_asks_154, ey_ok, nx_if_icmp_40]
  exact and_l (by unfold jok; decide)
theorem qL_asks_157 : ey F ini rt fin K0 K (decode cL_asks 157) 157 L (st) h cs ss = (lhas L 0 ∧ isRf (lgt L 0) ∧ K 158 L (lgt L 0 :: st) h cs ss) := by
  rw [dL_asks_157, ey_ok, nx_aload_n_3] <;> rfl
theorem qL_asks_158 : ey F ini rt fin K0 K (decode cL_asks 158) 158 L (st) h cs ss = (K 159 L (.int 3 :: st) h cs ss) := by
  rw [dL_asks_158, ey_ok, nx_iconst_11] <;> rfl
theorem qL_asks_159 : ey F ini rt fin K0 K (decode cL_asks 159) 159 L (st) h cs ss = (lhas L 10 ∧ isI (lgt L 10) ∧ K 161 L (lgt L 10 :: st) h cs ss) := by
  rw [dL_asks_159, ey_ok, nx_iload_0] <;> rfl
theorem qL_asks_161 : ey F ini rt fin K0 K (decode cL_asks 161) 161 L (st) h cs ss = (lhas L 13 ∧ isI (lgt L 13) ∧ K 163 L (lgt L 13 :: st) h cs ss) := by
  rw [dL_asks_161, ey_ok, nx_iload_0] <;> rfl
theorem qL_asks_163 : ey F ini rt fin K0 K (decode cL_asks 163) 163 L (st) h cs ss = (K0 163 L st h cs ss) := by
  rw [dL_asks_163, ey_ok, nx_invokestatic_73]
theorem qL_asks_166 : ey F ini rt fin K0 K (decode cL_asks 166) 166 L (st) h cs ss = (lhas L 11 ∧ isI (lgt L 11) ∧ K 168 L (lgt L 11 :: st) h cs ss) := by
  rw [dL_asks_166, ey_ok, nx_iload_0] <;> rfl
theorem qL_asks_168 : ey F ini rt fin K0 K (decode cL_asks 168) 168 L (.int x :: r) h cs ss = (if x = 0 then K 179 L r h cs ss else K 171 L r h cs ss) := by
  rw [dL_asks_168, ey_ok, nx_ifond_30]
  exact and_l (by unfold jok; decide)
theorem qL_asks_171 : ey F ini rt fin K0 K (decode cL_asks 171) 171 L (st) h cs ss = (lhas L 13 ∧ isI (lgt L 13) ∧ K 173 L (lgt L 13 :: st) h cs ss) := by
  rw [dL_asks_171, ey_ok, nx_iload_0] <;> rfl
theorem qL_asks_173 : ey F ini rt fin K0 K (decode cL_asks 173) 173 L (st) h cs ss = (lhas L 2 ∧ isRf (lgt L 2) ∧ K 174 L (lgt L 2 :: st) h cs ss) := by
  rw [dL_asks_173, ey_ok, nx_aload_n_3] <;> rfl
theorem qL_asks_174 : ey F ini rt fin K0 K (decode cL_asks 174) 174 L (st) h cs ss = (K 175 L (.int 2 :: st) h cs ss) := by
  rw [dL_asks_174, ey_ok, nx_iconst_11] <;> rfl
theorem qL_asks_175 : ey F ini rt fin K0 K (decode cL_asks 175) 175 L (.int i :: .ref a :: r) h cs ss = (isA (h.1 a) (fun k m => k = 0 ∧ vp_in i m) ∧ K 176 L (h.2 a i.toNatClampNeg :: r) h cs ss) := by
  rw [dL_asks_175, ey_ok, nx_iaload_57]
theorem qL_asks_176 : ey F ini rt fin K0 K (decode cL_asks 176) 176 L (.int y :: .int x :: r) h cs ss = (if ¬ x = y then K 185 L r h cs ss else K 179 L r h cs ss) := by
  rw [dL_asks_176, ey_ok, nx_if_icmp_37]
  exact and_l (by unfold jok; decide)
theorem qL_asks_179 : ey F ini rt fin K0 K (decode cL_asks 179) 179 L (st) h cs ss = (K 182 L (.int (-1001) :: st) h cs ss) := by
  rw [dL_asks_179, ey_ok, nx_sipush_13] <;> rfl
theorem qL_asks_182 : ey F ini rt fin K0 K (decode cL_asks 182) 182 L (st) h cs ss = (K 205 L st h cs ss) := by
  rw [dL_asks_182, ey_ok, nx_goto_29]
  exact and_l (by unfold jok; decide)
theorem qL_asks_185 : ey F ini rt fin K0 K (decode cL_asks 185) 185 L (st) h cs ss = (lhas L 2 ∧ isRf (lgt L 2) ∧ K 186 L (lgt L 2 :: st) h cs ss) := by
  rw [dL_asks_185, ey_ok, nx_aload_n_3] <;> rfl
theorem qL_asks_186 : ey F ini rt fin K0 K (decode cL_asks 186) 186 L (st) h cs ss = (lhas L 4 ∧ isRf (lgt L 4) ∧ K 188 L (lgt L 4 :: st) h cs ss) := by
  rw [dL_asks_186, ey_ok, nx_aload_2] <;> rfl
theorem qL_asks_188 : ey F ini rt fin K0 K (decode cL_asks 188) 188 L (st) h cs ss = (lhas L 5 ∧ isRf (lgt L 5) ∧ K 190 L (lgt L 5 :: st) h cs ss) := by
  rw [dL_asks_188, ey_ok, nx_aload_2] <;> rfl
theorem qL_asks_190 : ey F ini rt fin K0 K (decode cL_asks 190) 190 L (st) h cs ss = (lhas L 10 ∧ isI (lgt L 10) ∧ K 192 L (lgt L 10 :: st) h cs ss) := by
  rw [dL_asks_190, ey_ok, nx_iload_0] <;> rfl
theorem qL_asks_192 : ey F ini rt fin K0 K (decode cL_asks 192) 192 L (st) h cs ss = (lhas L 13 ∧ isI (lgt L 13) ∧ K 194 L (lgt L 13 :: st) h cs ss) := by
  rw [dL_asks_192, ey_ok, nx_iload_0] <;> rfl
theorem qL_asks_194 : ey F ini rt fin K0 K (decode cL_asks 194) 194 L (st) h cs ss = (K0 194 L st h cs ss) := by
  rw [dL_asks_194, ey_ok, nx_invokestatic_73]
theorem qL_asks_197 : ey F ini rt fin K0 K (decode cL_asks 197) 197 L (.int x :: r) h cs ss = (if x = 0 then K 204 L r h cs ss else K 200 L r h cs ss) := by
  rw [dL_asks_197, ey_ok, nx_ifond_30]
  exact and_l (by unfold jok; decide)
theorem qL_asks_200 : ey F ini rt fin K0 K (decode cL_asks 200) 200 L (st) h cs ss = (K 201 L (.int 1 :: st) h cs ss) := by
  rw [dL_asks_200, ey_ok, nx_iconst_11] <;> rfl
theorem qL_asks_201 : ey F ini rt fin K0 K (decode cL_asks 201) 201 L (st) h cs ss = (K 205 L st h cs ss) := by
  rw [dL_asks_201, ey_ok, nx_goto_29]
  exact and_l (by unfold jok; decide)
theorem qL_asks_204 : ey F ini rt fin K0 K (decode cL_asks 204) 204 L (st) h cs ss = (K 205 L (.int 0 :: st) h cs ss) := by
  rw [dL_asks_204, ey_ok, nx_iconst_11] <;> rfl
theorem qL_asks_205 : ey F ini rt fin K0 K (decode cL_asks 205) 205 L (.int y :: .int x :: r) h cs ss = (if x = y then K 210 L r h cs ss else K 208 L r h cs ss) := by
  rw [dL_asks_205, ey_ok, nx_if_icmp_36]
  exact and_l (by unfold jok; decide)
theorem qL_asks_208 : ey F ini rt fin K0 K (decode cL_asks 208) 208 L (st) h cs ss = (K 209 L (.int 0 :: st) h cs ss) := by
  rw [dL_asks_208, ey_ok, nx_iconst_11] <;> rfl
theorem qL_asks_209 : ey F ini rt fin K0 K (decode cL_asks 209) 209 L ([.int x]) h cs ss = (rokI rt x ∧ fin (some (.int x)) h cs ss) := by
  rw [dL_asks_209, ey_ok, nx_ireturn_68]
theorem qL_asks_210 : ey F ini rt fin K0 K (decode cL_asks 210) 210 L (st) h cs ss = (lhas L 13 ∧ isI (lgt L 13) ∧ K 213 (L.set 13 (some (inc (lgt L 13) 1))) st h cs ss) := by
  rw [dL_asks_210, ey_ok, nx_iinc_10] <;> rfl
theorem qL_asks_213 : ey F ini rt fin K0 K (decode cL_asks 213) 213 L (st) h cs ss = (K 149 L st h cs ss) := by
  rw [dL_asks_213, ey_ok, nx_goto_29]
  exact and_l (by unfold jok; decide)
theorem qL_asks_216 : ey F ini rt fin K0 K (decode cL_asks 216) 216 L (st) h cs ss = (K 217 L (.int 0 :: st) h cs ss) := by
  rw [dL_asks_216, ey_ok, nx_iconst_11] <;> rfl
theorem qL_asks_217 : ey F ini rt fin K0 K (decode cL_asks 217) 217 L (.int x :: r) h cs ss = (13 < L.length ∧ K 219 (L.set 13 (some (.int x))) r h cs ss) := by
  rw [dL_asks_217, ey_ok, nx_istore_4] <;> rfl
theorem qL_asks_219 : ey F ini rt fin K0 K (decode cL_asks 219) 219 L (st) h cs ss = (lhas L 13 ∧ isI (lgt L 13) ∧ K 221 L (lgt L 13 :: st) h cs ss) := by
  rw [dL_asks_219, ey_ok, nx_iload_0] <;> rfl
theorem qL_asks_221 : ey F ini rt fin K0 K (decode cL_asks 221) 221 L (st) h cs ss = (lhas L 2 ∧ isRf (lgt L 2) ∧ K 222 L (lgt L 2 :: st) h cs ss) := by
  rw [dL_asks_221, ey_ok, nx_aload_n_3] <;> rfl
theorem qL_asks_222 : ey F ini rt fin K0 K (decode cL_asks 222) 222 L (st) h cs ss = (K 223 L (.int 3 :: st) h cs ss) := by
  rw [dL_asks_222, ey_ok, nx_iconst_11] <;> rfl
theorem qL_asks_223 : ey F ini rt fin K0 K (decode cL_asks 223) 223 L (.int i :: .ref a :: r) h cs ss = (isA (h.1 a) (fun k m => k = 0 ∧ vp_in i m) ∧ K 224 L (h.2 a i.toNatClampNeg :: r) h cs ss) := by
  rw [dL_asks_223, ey_ok, nx_iaload_57]
theorem qL_asks_224 : ey F ini rt fin K0 K (decode cL_asks 224) 224 L (.int y :: .int x :: r) h cs ss = (if y < x then K 353 L r h cs ss else K 227 L r h cs ss) := by
  rw [dL_asks_224, ey_ok, nx_if_icmp_40]
  exact and_l (by unfold jok; decide)
theorem qL_asks_227 : ey F ini rt fin K0 K (decode cL_asks 227) 227 L (st) h cs ss = (lhas L 13 ∧ isI (lgt L 13) ∧ K 229 L (lgt L 13 :: st) h cs ss) := by
  rw [dL_asks_227, ey_ok, nx_iload_0] <;> rfl
theorem qL_asks_229 : ey F ini rt fin K0 K (decode cL_asks 229) 229 L (st) h cs ss = (lhas L 2 ∧ isRf (lgt L 2) ∧ K 230 L (lgt L 2 :: st) h cs ss) := by
  rw [dL_asks_229, ey_ok, nx_aload_n_3] <;> rfl
theorem qL_asks_230 : ey F ini rt fin K0 K (decode cL_asks 230) 230 L (st) h cs ss = (K 231 L (.int 3 :: st) h cs ss) := by
  rw [dL_asks_230, ey_ok, nx_iconst_11] <;> rfl
theorem qL_asks_231 : ey F ini rt fin K0 K (decode cL_asks 231) 231 L (.int i :: .ref a :: r) h cs ss = (isA (h.1 a) (fun k m => k = 0 ∧ vp_in i m) ∧ K 232 L (h.2 a i.toNatClampNeg :: r) h cs ss) := by
  rw [dL_asks_231, ey_ok, nx_iaload_57]
theorem qL_asks_232 : ey F ini rt fin K0 K (decode cL_asks 232) 232 L (.int y :: .int x :: r) h cs ss = (if y ≤ x then K 239 L r h cs ss else K 235 L r h cs ss) := by
  rw [dL_asks_232, ey_ok, nx_if_icmp_39]
  exact and_l (by unfold jok; decide)
theorem qL_asks_235 : ey F ini rt fin K0 K (decode cL_asks 235) 235 L (st) h cs ss = (K 236 L (.int 1 :: st) h cs ss) := by
  rw [dL_asks_235, ey_ok, nx_iconst_11] <;> rfl
theorem qL_asks_236 : ey F ini rt fin K0 K (decode cL_asks 236) 236 L (st) h cs ss = (K 240 L st h cs ss) := by
  rw [dL_asks_236, ey_ok, nx_goto_29]
  exact and_l (by unfold jok; decide)
theorem qL_asks_239 : ey F ini rt fin K0 K (decode cL_asks 239) 239 L (st) h cs ss = (K 240 L (.int 0 :: st) h cs ss) := by
  rw [dL_asks_239, ey_ok, nx_iconst_11] <;> rfl
theorem qL_asks_240 : ey F ini rt fin K0 K (decode cL_asks 240) 240 L (.int x :: r) h cs ss = (14 < L.length ∧ K 242 (L.set 14 (some (.int x))) r h cs ss) := by
  rw [dL_asks_240, ey_ok, nx_istore_4] <;> rfl
theorem qL_asks_242 : ey F ini rt fin K0 K (decode cL_asks 242) 242 L (st) h cs ss = (lhas L 0 ∧ isRf (lgt L 0) ∧ K 243 L (lgt L 0 :: st) h cs ss) := by
  rw [dL_asks_242, ey_ok, nx_aload_n_3] <;> rfl
theorem qL_asks_243 : ey F ini rt fin K0 K (decode cL_asks 243) 243 L (st) h cs ss = (K 245 L (.int 8 :: st) h cs ss) := by
  rw [dL_asks_243, ey_ok, nx_bipush_12] <;> rfl
theorem qL_asks_245 : ey F ini rt fin K0 K (decode cL_asks 245) 245 L (st) h cs ss = (lhas L 13 ∧ isI (lgt L 13) ∧ K 247 L (lgt L 13 :: st) h cs ss) := by
  rw [dL_asks_245, ey_ok, nx_iload_0] <;> rfl
theorem qL_asks_247 : ey F ini rt fin K0 K (decode cL_asks 247) 247 L (st) h cs ss = (K0 247 L st h cs ss) := by
  rw [dL_asks_247, ey_ok, nx_invokestatic_73]
theorem qL_asks_250 : ey F ini rt fin K0 K (decode cL_asks 250) 250 L (st) h cs ss = (lhas L 14 ∧ isI (lgt L 14) ∧ K 252 L (lgt L 14 :: st) h cs ss) := by
  rw [dL_asks_250, ey_ok, nx_iload_0] <;> rfl
theorem qL_asks_252 : ey F ini rt fin K0 K (decode cL_asks 252) 252 L (.int x :: r) h cs ss = (if x = 0 then K 265 L r h cs ss else K 255 L r h cs ss) := by
  rw [dL_asks_252, ey_ok, nx_ifond_30]
  exact and_l (by unfold jok; decide)
theorem qL_asks_255 : ey F ini rt fin K0 K (decode cL_asks 255) 255 L (st) h cs ss = (lhas L 7 ∧ isRf (lgt L 7) ∧ K 257 L (lgt L 7 :: st) h cs ss) := by
  rw [dL_asks_255, ey_ok, nx_aload_2] <;> rfl
theorem qL_asks_257 : ey F ini rt fin K0 K (decode cL_asks 257) 257 L (st) h cs ss = (lhas L 13 ∧ isI (lgt L 13) ∧ K 259 L (lgt L 13 :: st) h cs ss) := by
  rw [dL_asks_257, ey_ok, nx_iload_0] <;> rfl
theorem qL_asks_259 : ey F ini rt fin K0 K (decode cL_asks 259) 259 L (.int i :: .ref a :: r) h cs ss = (isA (h.1 a) (fun k m => k = 0 ∧ vp_in i m) ∧ K 260 L (h.2 a i.toNatClampNeg :: r) h cs ss) := by
  rw [dL_asks_259, ey_ok, nx_iaload_57]
theorem qL_asks_260 : ey F ini rt fin K0 K (decode cL_asks 260) 260 L (st) h cs ss = (K 261 L (.int 4 :: st) h cs ss) := by
  rw [dL_asks_260, ey_ok, nx_iconst_11] <;> rfl
theorem qL_asks_261 : ey F ini rt fin K0 K (decode cL_asks 261) 261 L (.int y :: .int x :: r) h cs ss = (¬ y = 0 ∧ K 262 L (.int (x - x / y * y) :: r) h cs ss) := by
  rw [dL_asks_261, ey_ok, nx_irem_81]
theorem qL_asks_262 : ey F ini rt fin K0 K (decode cL_asks 262) 262 L (st) h cs ss = (K 268 L st h cs ss) := by
  rw [dL_asks_262, ey_ok, nx_goto_29]
  exact and_l (by unfold jok; decide)
theorem qL_asks_265 : ey F ini rt fin K0 K (decode cL_asks 265) 265 L (st) h cs ss = (K 268 L (.int (-1001) :: st) h cs ss) := by
  rw [dL_asks_265, ey_ok, nx_sipush_13] <;> rfl
theorem qL_asks_268 : ey F ini rt fin K0 K (decode cL_asks 268) 268 L (.int y :: .int x :: r) h cs ss = (if ¬ x = y then K 345 L r h cs ss else K 271 L r h cs ss) := by
  rw [dL_asks_268, ey_ok, nx_if_icmp_37]
  exact and_l (by unfold jok; decide)
theorem qL_asks_271 : ey F ini rt fin K0 K (decode cL_asks 271) 271 L (st) h cs ss = (lhas L 0 ∧ isRf (lgt L 0) ∧ K 272 L (lgt L 0 :: st) h cs ss) := by
  rw [dL_asks_271, ey_ok, nx_aload_n_3] <;> rfl
theorem qL_asks_272 : ey F ini rt fin K0 K (decode cL_asks 272) 272 L (st) h cs ss = (K 274 L (.int 9 :: st) h cs ss) := by
  rw [dL_asks_272, ey_ok, nx_bipush_12] <;> rfl
theorem qL_asks_274 : ey F ini rt fin K0 K (decode cL_asks 274) 274 L (st) h cs ss = (lhas L 13 ∧ isI (lgt L 13) ∧ K 276 L (lgt L 13 :: st) h cs ss) := by
  rw [dL_asks_274, ey_ok, nx_iload_0] <;> rfl
theorem qL_asks_276 : ey F ini rt fin K0 K (decode cL_asks 276) 276 L (st) h cs ss = (K0 276 L st h cs ss) := by
  rw [dL_asks_276, ey_ok, nx_invokestatic_73]
theorem qL_asks_279 : ey F ini rt fin K0 K (decode cL_asks 279) 279 L (st) h cs ss = (lhas L 14 ∧ isI (lgt L 14) ∧ K 281 L (lgt L 14 :: st) h cs ss) := by
  rw [dL_asks_279, ey_ok, nx_iload_0] <;> rfl
theorem qL_asks_281 : ey F ini rt fin K0 K (decode cL_asks 281) 281 L (.int x :: r) h cs ss = (if x = 0 then K 292 L r h cs ss else K 284 L r h cs ss) := by
  rw [dL_asks_281, ey_ok, nx_ifond_30]
  exact and_l (by unfold jok; decide)
theorem qL_asks_284 : ey F ini rt fin K0 K (decode cL_asks 284) 284 L (st) h cs ss = (lhas L 6 ∧ isRf (lgt L 6) ∧ K 286 L (lgt L 6 :: st) h cs ss) := by
  rw [dL_asks_284, ey_ok, nx_aload_2] <;> rfl
theorem qL_asks_286 : ey F ini rt fin K0 K (decode cL_asks 286) 286 L (st) h cs ss = (lhas L 13 ∧ isI (lgt L 13) ∧ K 288 L (lgt L 13 :: st) h cs ss) := by
  rw [dL_asks_286, ey_ok, nx_iload_0] <;> rfl
theorem qL_asks_288 : ey F ini rt fin K0 K (decode cL_asks 288) 288 L (.int i :: .ref a :: r) h cs ss = (isA (h.1 a) (fun k m => k = 0 ∧ vp_in i m) ∧ K 289 L (h.2 a i.toNatClampNeg :: r) h cs ss) := by
  rw [dL_asks_288, ey_ok, nx_iaload_57]
theorem qL_asks_289 : ey F ini rt fin K0 K (decode cL_asks 289) 289 L (st) h cs ss = (K 295 L st h cs ss) := by
  rw [dL_asks_289, ey_ok, nx_goto_29]
  exact and_l (by unfold jok; decide)
theorem qL_asks_292 : ey F ini rt fin K0 K (decode cL_asks 292) 292 L (st) h cs ss = (K 295 L (.int (-1001) :: st) h cs ss) := by
  rw [dL_asks_292, ey_ok, nx_sipush_13] <;> rfl
theorem qL_asks_295 : ey F ini rt fin K0 K (decode cL_asks 295) 295 L (.int y :: .int x :: r) h cs ss = (if ¬ x = y then K 345 L r h cs ss else K 298 L r h cs ss) := by
  rw [dL_asks_295, ey_ok, nx_if_icmp_37]
  exact and_l (by unfold jok; decide)
theorem qL_asks_298 : ey F ini rt fin K0 K (decode cL_asks 298) 298 L (st) h cs ss = (lhas L 13 ∧ isI (lgt L 13) ∧ K 300 L (lgt L 13 :: st) h cs ss) := by
  rw [dL_asks_298, ey_ok, nx_iload_0] <;> rfl
theorem qL_asks_300 : ey F ini rt fin K0 K (decode cL_asks 300) 300 L (st) h cs ss = (K 301 L (.int 3 :: st) h cs ss) := by
  rw [dL_asks_300, ey_ok, nx_iconst_11] <;> rfl
theorem qL_asks_301 : ey F ini rt fin K0 K (decode cL_asks 301) 301 L (.int y :: .int x :: r) h cs ss = (¬ y = 0 ∧ K 302 L (.int (x - x / y * y) :: r) h cs ss) := by
  rw [dL_asks_301, ey_ok, nx_irem_81]
theorem qL_asks_302 : ey F ini rt fin K0 K (decode cL_asks 302) 302 L (st) h cs ss = (lhas L 1 ∧ isI (lgt L 1) ∧ K 303 L (lgt L 1 :: st) h cs ss) := by
  rw [dL_asks_302, ey_ok, nx_iload_n_1] <;> rfl
theorem qL_asks_303 : ey F ini rt fin K0 K (decode cL_asks 303) 303 L (st) h cs ss = (K 304 L (.int 3 :: st) h cs ss) := by
  rw [dL_asks_303, ey_ok, nx_iconst_11] <;> rfl
theorem qL_asks_304 : ey F ini rt fin K0 K (decode cL_asks 304) 304 L (st) h cs ss = (K0 304 L st h cs ss) := by
  rw [dL_asks_304, ey_ok, nx_invokestatic_73]
theorem qL_asks_307 : ey F ini rt fin K0 K (decode cL_asks 307) 307 L (.int y :: .int x :: r) h cs ss = (if ¬ x = y then K 347 L r h cs ss else K 310 L r h cs ss) := by
  rw [dL_asks_307, ey_ok, nx_if_icmp_37]
  exact and_l (by unfold jok; decide)
theorem qL_asks_310 : ey F ini rt fin K0 K (decode cL_asks 310) 310 L (st) h cs ss = (lhas L 0 ∧ isRf (lgt L 0) ∧ K 311 L (lgt L 0 :: st) h cs ss) := by
  rw [dL_asks_310, ey_ok, nx_aload_n_3] <;> rfl
theorem qL_asks_311 : ey F ini rt fin K0 K (decode cL_asks 311) 311 L (st) h cs ss = (K 313 L (.int 10 :: st) h cs ss) := by
  rw [dL_asks_311, ey_ok, nx_bipush_12] <;> rfl
theorem qL_asks_313 : ey F ini rt fin K0 K (decode cL_asks 313) 313 L (st) h cs ss = (lhas L 13 ∧ isI (lgt L 13) ∧ K 315 L (lgt L 13 :: st) h cs ss) := by
  rw [dL_asks_313, ey_ok, nx_iload_0] <;> rfl
theorem qL_asks_315 : ey F ini rt fin K0 K (decode cL_asks 315) 315 L (st) h cs ss = (K0 315 L st h cs ss) := by
  rw [dL_asks_315, ey_ok, nx_invokestatic_73]
theorem qL_asks_318 : ey F ini rt fin K0 K (decode cL_asks 318) 318 L (st) h cs ss = (lhas L 14 ∧ isI (lgt L 14) ∧ K 320 L (lgt L 14 :: st) h cs ss) := by
  rw [dL_asks_318, ey_ok, nx_iload_0] <;> rfl
theorem qL_asks_320 : ey F ini rt fin K0 K (decode cL_asks 320) 320 L (.int x :: r) h cs ss = (if x = 0 then K 339 L r h cs ss else K 323 L r h cs ss) := by
  rw [dL_asks_320, ey_ok, nx_ifond_30]
  exact and_l (by unfold jok; decide)
theorem qL_asks_323 : ey F ini rt fin K0 K (decode cL_asks 323) 323 L (st) h cs ss = (lhas L 3 ∧ isRf (lgt L 3) ∧ K 324 L (lgt L 3 :: st) h cs ss) := by
  rw [dL_asks_323, ey_ok, nx_aload_n_3] <;> rfl
theorem qL_asks_324 : ey F ini rt fin K0 K (decode cL_asks 324) 324 L (st) h cs ss = (lhas L 4 ∧ isRf (lgt L 4) ∧ K 326 L (lgt L 4 :: st) h cs ss) := by
  rw [dL_asks_324, ey_ok, nx_aload_2] <;> rfl
theorem qL_asks_326 : ey F ini rt fin K0 K (decode cL_asks 326) 326 L (st) h cs ss = (lhas L 5 ∧ isRf (lgt L 5) ∧ K 328 L (lgt L 5 :: st) h cs ss) := by
  rw [dL_asks_326, ey_ok, nx_aload_2] <;> rfl
theorem qL_asks_328 : ey F ini rt fin K0 K (decode cL_asks 328) 328 L (st) h cs ss = (lhas L 6 ∧ isRf (lgt L 6) ∧ K 330 L (lgt L 6 :: st) h cs ss) := by
  rw [dL_asks_328, ey_ok, nx_aload_2] <;> rfl
theorem qL_asks_330 : ey F ini rt fin K0 K (decode cL_asks 330) 330 L (st) h cs ss = (lhas L 13 ∧ isI (lgt L 13) ∧ K 332 L (lgt L 13 :: st) h cs ss) := by
  rw [dL_asks_330, ey_ok, nx_iload_0] <;> rfl
theorem qL_asks_332 : ey F ini rt fin K0 K (decode cL_asks 332) 332 L (.int i :: .ref a :: r) h cs ss = (isA (h.1 a) (fun k m => k = 0 ∧ vp_in i m) ∧ K 333 L (h.2 a i.toNatClampNeg :: r) h cs ss) := by
  rw [dL_asks_332, ey_ok, nx_iaload_57]
theorem qL_asks_333 : ey F ini rt fin K0 K (decode cL_asks 333) 333 L (st) h cs ss = (K0 333 L st h cs ss) := by
  rw [dL_asks_333, ey_ok, nx_invokestatic_73]
theorem qL_asks_336 : ey F ini rt fin K0 K (decode cL_asks 336) 336 L (st) h cs ss = (K 342 L st h cs ss) := by
  rw [dL_asks_336, ey_ok, nx_goto_29]
  exact and_l (by unfold jok; decide)
theorem qL_asks_339 : ey F ini rt fin K0 K (decode cL_asks 339) 339 L (st) h cs ss = (K 342 L (.int (-1001) :: st) h cs ss) := by
  rw [dL_asks_339, ey_ok, nx_sipush_13] <;> rfl
theorem qL_asks_342 : ey F ini rt fin K0 K (decode cL_asks 342) 342 L (.int y :: .int x :: r) h cs ss = (if x = y then K 347 L r h cs ss else K 345 L r h cs ss) := by
  rw [dL_asks_342, ey_ok, nx_if_icmp_36]
  exact and_l (by unfold jok; decide)
theorem qL_asks_345 : ey F ini rt fin K0 K (decode cL_asks 345) 345 L (st) h cs ss = (K 346 L (.int 0 :: st) h cs ss) := by
  rw [dL_asks_345, ey_ok, nx_iconst_11] <;> rfl
theorem qL_asks_346 : ey F ini rt fin K0 K (decode cL_asks 346) 346 L ([.int x]) h cs ss = (rokI rt x ∧ fin (some (.int x)) h cs ss) := by
  rw [dL_asks_346, ey_ok, nx_ireturn_68]
theorem qL_asks_347 : ey F ini rt fin K0 K (decode cL_asks 347) 347 L (st) h cs ss = (lhas L 13 ∧ isI (lgt L 13) ∧ K 350 (L.set 13 (some (inc (lgt L 13) 1))) st h cs ss) := by
  rw [dL_asks_347, ey_ok, nx_iinc_10] <;> rfl
theorem qL_asks_350 : ey F ini rt fin K0 K (decode cL_asks 350) 350 L (st) h cs ss = (K 219 L st h cs ss) := by
  rw [dL_asks_350, ey_ok, nx_goto_29]
  exact and_l (by unfold jok; decide)
theorem qL_asks_353 : ey F ini rt fin K0 K (decode cL_asks 353) 353 L (st) h cs ss = (lhas L 1 ∧ isI (lgt L 1) ∧ K 354 L (lgt L 1 :: st) h cs ss) := by
  rw [dL_asks_353, ey_ok, nx_iload_n_1] <;> rfl
theorem qL_asks_354 : ey F ini rt fin K0 K (decode cL_asks 354) 354 L (st) h cs ss = (K 355 L (.int 5 :: st) h cs ss) := by
  rw [dL_asks_354, ey_ok, nx_iconst_11] <;> rfl
theorem qL_asks_355 : ey F ini rt fin K0 K (decode cL_asks 355) 355 L (.int y :: .int x :: r) h cs ss = (K 356 L (.int (x >>> (y &&& 31)) :: r) h cs ss) := by
  rw [dL_asks_355, ey_ok, nx_ishr_21]
theorem qL_asks_356 : ey F ini rt fin K0 K (decode cL_asks 356) 356 L (st) h cs ss = (K 357 L (.int 4 :: st) h cs ss) := by
  rw [dL_asks_356, ey_ok, nx_iconst_11] <;> rfl
theorem qL_asks_357 : ey F ini rt fin K0 K (decode cL_asks 357) 357 L (st) h cs ss = (K0 357 L st h cs ss) := by
  rw [dL_asks_357, ey_ok, nx_invokestatic_73]
theorem qL_asks_360 : ey F ini rt fin K0 K (decode cL_asks 360) 360 L (.int x :: r) h cs ss = (13 < L.length ∧ K 362 (L.set 13 (some (.int x))) r h cs ss) := by
  rw [dL_asks_360, ey_ok, nx_istore_4] <;> rfl
theorem qL_asks_362 : ey F ini rt fin K0 K (decode cL_asks 362) 362 L (st) h cs ss = (lhas L 1 ∧ isI (lgt L 1) ∧ K 363 L (lgt L 1 :: st) h cs ss) := by
  rw [dL_asks_362, ey_ok, nx_iload_n_1] <;> rfl
theorem qL_asks_363 : ey F ini rt fin K0 K (decode cL_asks 363) 363 L (st) h cs ss = (K 365 L (.int 7 :: st) h cs ss) := by
  rw [dL_asks_363, ey_ok, nx_bipush_12] <;> rfl
theorem qL_asks_365 : ey F ini rt fin K0 K (decode cL_asks 365) 365 L (.int y :: .int x :: r) h cs ss = (K 366 L (.int (x >>> (y &&& 31)) :: r) h cs ss) := by
  rw [dL_asks_365, ey_ok, nx_ishr_21]
theorem qL_asks_366 : ey F ini rt fin K0 K (decode cL_asks 366) 366 L (st) h cs ss = (K 368 L (.int 40 :: st) h cs ss) := by
  rw [dL_asks_366, ey_ok, nx_bipush_12] <;> rfl
theorem qL_asks_368 : ey F ini rt fin K0 K (decode cL_asks 368) 368 L (st) h cs ss = (K0 368 L st h cs ss) := by
  rw [dL_asks_368, ey_ok, nx_invokestatic_73]
theorem qL_asks_371 : ey F ini rt fin K0 K (decode cL_asks 371) 371 L (.int x :: r) h cs ss = (if ¬ x = 0 then K 379 L r h cs ss else K 374 L r h cs ss) := by
  rw [dL_asks_371, ey_ok, nx_ifond_31]
  exact and_l (by unfold jok; decide)
theorem qL_asks_374 : ey F ini rt fin K0 K (decode cL_asks 374) 374 L (st) h cs ss = (K 376 L (.int 12 :: st) h cs ss) := by
  rw [dL_asks_374, ey_ok, nx_bipush_12] <;> rfl
theorem qL_asks_376 : ey F ini rt fin K0 K (decode cL_asks 376) 376 L (st) h cs ss = (K 387 L st h cs ss) := by
  rw [dL_asks_376, ey_ok, nx_goto_29]
  exact and_l (by unfold jok; decide)
theorem qL_asks_379 : ey F ini rt fin K0 K (decode cL_asks 379) 379 L (st) h cs ss = (lhas L 1 ∧ isI (lgt L 1) ∧ K 380 L (lgt L 1 :: st) h cs ss) := by
  rw [dL_asks_379, ey_ok, nx_iload_n_1] <;> rfl
theorem qL_asks_380 : ey F ini rt fin K0 K (decode cL_asks 380) 380 L (st) h cs ss = (K 382 L (.int 7 :: st) h cs ss) := by
  rw [dL_asks_380, ey_ok, nx_bipush_12] <;> rfl
theorem qL_asks_382 : ey F ini rt fin K0 K (decode cL_asks 382) 382 L (.int y :: .int x :: r) h cs ss = (K 383 L (.int (x >>> (y &&& 31)) :: r) h cs ss) := by
  rw [dL_asks_382, ey_ok, nx_ishr_21]
theorem qL_asks_383 : ey F ini rt fin K0 K (decode cL_asks 383) 383 L (st) h cs ss = (K 384 L (.int 4 :: st) h cs ss) := by
  rw [dL_asks_383, ey_ok, nx_iconst_11] <;> rfl
theorem qL_asks_384 : ey F ini rt fin K0 K (decode cL_asks 384) 384 L (st) h cs ss = (K0 384 L st h cs ss) := by
  rw [dL_asks_384, ey_ok, nx_invokestatic_73]
theorem qL_asks_387 : ey F ini rt fin K0 K (decode cL_asks 387) 387 L (.int x :: r) h cs ss = (14 < L.length ∧ K 389 (L.set 14 (some (.int x))) r h cs ss) := by
  rw [dL_asks_387, ey_ok, nx_istore_4] <;> rfl
theorem qL_asks_389 : ey F ini rt fin K0 K (decode cL_asks 389) 389 L (st) h cs ss = (K 390 L (.int 0 :: st) h cs ss) := by
  rw [dL_asks_389, ey_ok, nx_iconst_11] <;> rfl
theorem qL_asks_390 : ey F ini rt fin K0 K (decode cL_asks 390) 390 L (.int x :: r) h cs ss = (15 < L.length ∧ K 392 (L.set 15 (some (.int x))) r h cs ss) := by
  rw [dL_asks_390, ey_ok, nx_istore_4] <;> rfl
theorem qL_asks_392 : ey F ini rt fin K0 K (decode cL_asks 392) 392 L (st) h cs ss = (K 393 L (.int 0 :: st) h cs ss) := by
  rw [dL_asks_392, ey_ok, nx_iconst_11] <;> rfl
theorem qL_asks_393 : ey F ini rt fin K0 K (decode cL_asks 393) 393 L (.int x :: r) h cs ss = (16 < L.length ∧ K 395 (L.set 16 (some (.int x))) r h cs ss) := by
  rw [dL_asks_393, ey_ok, nx_istore_4] <;> rfl
theorem qL_asks_395 : ey F ini rt fin K0 K (decode cL_asks 395) 395 L (st) h cs ss = (lhas L 1 ∧ isI (lgt L 1) ∧ K 396 L (lgt L 1 :: st) h cs ss) := by
  rw [dL_asks_395, ey_ok, nx_iload_n_1] <;> rfl
theorem qL_asks_396 : ey F ini rt fin K0 K (decode cL_asks 396) 396 L (st) h cs ss = (K 398 L (.int 9 :: st) h cs ss) := by
  rw [dL_asks_396, ey_ok, nx_bipush_12] <;> rfl
theorem qL_asks_398 : ey F ini rt fin K0 K (decode cL_asks 398) 398 L (.int y :: .int x :: r) h cs ss = (K 399 L (.int (x >>> (y &&& 31)) :: r) h cs ss) := by
  rw [dL_asks_398, ey_ok, nx_ishr_21]
theorem qL_asks_399 : ey F ini rt fin K0 K (decode cL_asks 399) 399 L (st) h cs ss = (K 400 L (.int 4 :: st) h cs ss) := by
  rw [dL_asks_399, ey_ok, nx_iconst_11] <;> rfl
theorem qL_asks_400 : ey F ini rt fin K0 K (decode cL_asks 400) 400 L (st) h cs ss = (K0 400 L st h cs ss) := by
  rw [dL_asks_400, ey_ok, nx_invokestatic_73]
theorem qL_asks_403 : ey F ini rt fin K0 K (decode cL_asks 403) 403 L (.int x :: r) h cs ss = (17 < L.length ∧ K 405 (L.set 17 (some (.int x))) r h cs ss) := by
  rw [dL_asks_403, ey_ok, nx_istore_4] <;> rfl
theorem qL_asks_405 : ey F ini rt fin K0 K (decode cL_asks 405) 405 L (st) h cs ss = (K 408 L (.int (-1001) :: st) h cs ss) := by
  rw [dL_asks_405, ey_ok, nx_sipush_13] <;> rfl
theorem qL_asks_408 : ey F ini rt fin K0 K (decode cL_asks 408) 408 L (.int x :: r) h cs ss = (18 < L.length ∧ K 410 (L.set 18 (some (.int x))) r h cs ss) := by
  rw [dL_asks_408, ey_ok, nx_istore_4] <;> rfl
theorem qL_asks_410 : ey F ini rt fin K0 K (decode cL_asks 410) 410 L (st) h cs ss = (K 411 L (.int 0 :: st) h cs ss) := by
  rw [dL_asks_410, ey_ok, nx_iconst_11] <;> rfl
theorem qL_asks_411 : ey F ini rt fin K0 K (decode cL_asks 411) 411 L (.int x :: r) h cs ss = (19 < L.length ∧ K 413 (L.set 19 (some (.int x))) r h cs ss) := by
  rw [dL_asks_411, ey_ok, nx_istore_4] <;> rfl
theorem qL_asks_413 : ey F ini rt fin K0 K (decode cL_asks 413) 413 L (st) h cs ss = (lhas L 19 ∧ isI (lgt L 19) ∧ K 415 L (lgt L 19 :: st) h cs ss) := by
  rw [dL_asks_413, ey_ok, nx_iload_0] <;> rfl
theorem qL_asks_415 : ey F ini rt fin K0 K (decode cL_asks 415) 415 L (st) h cs ss = (lhas L 2 ∧ isRf (lgt L 2) ∧ K 416 L (lgt L 2 :: st) h cs ss) := by
  rw [dL_asks_415, ey_ok, nx_aload_n_3] <;> rfl
theorem qL_asks_416 : ey F ini rt fin K0 K (decode cL_asks 416) 416 L (st) h cs ss = (K 417 L (.int 1 :: st) h cs ss) := by
  rw [dL_asks_416, ey_ok, nx_iconst_11] <;> rfl
theorem qL_asks_417 : ey F ini rt fin K0 K (decode cL_asks 417) 417 L (.int i :: .ref a :: r) h cs ss = (isA (h.1 a) (fun k m => k = 0 ∧ vp_in i m) ∧ K 418 L (h.2 a i.toNatClampNeg :: r) h cs ss) := by
  rw [dL_asks_417, ey_ok, nx_iaload_57]
theorem qL_asks_418 : ey F ini rt fin K0 K (decode cL_asks 418) 418 L (.int y :: .int x :: r) h cs ss = (if y ≤ x then K 644 L r h cs ss else K 421 L r h cs ss) := by
  rw [dL_asks_418, ey_ok, nx_if_icmp_39]
  exact and_l (by unfold jok; decide)
theorem qL_asks_421 : ey F ini rt fin K0 K (decode cL_asks 421) 421 L (st) h cs ss = (lhas L 4 ∧ isRf (lgt L 4) ∧ K 423 L (lgt L 4 :: st) h cs ss) := by
  rw [dL_asks_421, ey_ok, nx_aload_2] <;> rfl
theorem qL_asks_423 : ey F ini rt fin K0 K (decode cL_asks 423) 423 L (st) h cs ss = (K 425 L (.int 30 :: st) h cs ss) := by
  rw [dL_asks_423, ey_ok, nx_bipush_12] <;> rfl
theorem qL_asks_425 : ey F ini rt fin K0 K (decode cL_asks 425) 425 L (st) h cs ss = (lhas L 19 ∧ isI (lgt L 19) ∧ K 427 L (lgt L 19 :: st) h cs ss) := by
  rw [dL_asks_425, ey_ok, nx_iload_0] <;> rfl
theorem qL_asks_427 : ey F ini rt fin K0 K (decode cL_asks 427) 427 L (.int y :: .int x :: r) h cs ss = (K 428 L (.int (x + y) :: r) h cs ss) := by
  rw [dL_asks_427, ey_ok, nx_iadd_16]
theorem qL_asks_428 : ey F ini rt fin K0 K (decode cL_asks 428) 428 L (.int i :: .ref a :: r) h cs ss = (isA (h.1 a) (fun k m => k = 0 ∧ vp_in i m) ∧ K 429 L (h.2 a i.toNatClampNeg :: r) h cs ss) := by
  rw [dL_asks_428, ey_ok, nx_iaload_57]
theorem qL_asks_429 : ey F ini rt fin K0 K (decode cL_asks 429) 429 L (st) h cs ss = (lhas L 13 ∧ isI (lgt L 13) ∧ K 431 L (lgt L 13 :: st) h cs ss) := by
  rw [dL_asks_429, ey_ok, nx_iload_0] <;> rfl
theorem qL_asks_431 : ey F ini rt fin K0 K (decode cL_asks 431) 431 L (.int y :: .int x :: r) h cs ss = (if ¬ x = y then K 438 L r h cs ss else K 434 L r h cs ss) := by
  rw [dL_asks_431, ey_ok, nx_if_icmp_37]
  exact and_l (by unfold jok; decide)
theorem qL_asks_434 : ey F ini rt fin K0 K (decode cL_asks 434) 434 L (st) h cs ss = (K 435 L (.int 1 :: st) h cs ss) := by
  rw [dL_asks_434, ey_ok, nx_iconst_11] <;> rfl
theorem qL_asks_435 : ey F ini rt fin K0 K (decode cL_asks 435) 435 L (st) h cs ss = (K 439 L st h cs ss) := by
  rw [dL_asks_435, ey_ok, nx_goto_29]
  exact and_l (by unfold jok; decide)
theorem qL_asks_438 : ey F ini rt fin K0 K (decode cL_asks 438) 438 L (st) h cs ss = (K 439 L (.int 0 :: st) h cs ss) := by
  rw [dL_asks_438, ey_ok, nx_iconst_11] <;> rfl
theorem qL_asks_439 : ey F ini rt fin K0 K (decode cL_asks 439) 439 L (.int x :: r) h cs ss = (20 < L.length ∧ K 441 (L.set 20 (some (.int x))) r h cs ss) := by
  rw [dL_asks_439, ey_ok, nx_istore_4] <;> rfl
theorem qL_asks_441 : ey F ini rt fin K0 K (decode cL_asks 441) 441 L (st) h cs ss = (K 442 L (.int 0 :: st) h cs ss) := by
  rw [dL_asks_441, ey_ok, nx_iconst_11] <;> rfl
theorem qL_asks_442 : ey F ini rt fin K0 K (decode cL_asks 442) 442 L (.int x :: r) h cs ss = (21 < L.length ∧ K 444 (L.set 21 (some (.int x))) r h cs ss) := by
  rw [dL_asks_442, ey_ok, nx_istore_4] <;> rfl
theorem qL_asks_444 : ey F ini rt fin K0 K (decode cL_asks 444) 444 L (st) h cs ss = (K 445 L (.int 0 :: st) h cs ss) := by
  rw [dL_asks_444, ey_ok, nx_iconst_11] <;> rfl
theorem qL_asks_445 : ey F ini rt fin K0 K (decode cL_asks 445) 445 L (.int x :: r) h cs ss = (22 < L.length ∧ K 447 (L.set 22 (some (.int x))) r h cs ss) := by
  rw [dL_asks_445, ey_ok, nx_istore_4] <;> rfl
theorem qL_asks_447 : ey F ini rt fin K0 K (decode cL_asks 447) 447 L (st) h cs ss = (lhas L 22 ∧ isI (lgt L 22) ∧ K 449 L (lgt L 22 :: st) h cs ss) := by
  rw [dL_asks_447, ey_ok, nx_iload_0] <;> rfl
theorem qL_asks_449 : ey F ini rt fin K0 K (decode cL_asks 449) 449 L (st) h cs ss = (lhas L 2 ∧ isRf (lgt L 2) ∧ K 450 L (lgt L 2 :: st) h cs ss) := by
  rw [dL_asks_449, ey_ok, nx_aload_n_3] <;> rfl
theorem qL_asks_450 : ey F ini rt fin K0 K (decode cL_asks 450) 450 L (st) h cs ss = (K 451 L (.int 1 :: st) h cs ss) := by
  rw [dL_asks_450, ey_ok, nx_iconst_11] <;> rfl
theorem qL_asks_451 : ey F ini rt fin K0 K (decode cL_asks 451) 451 L (.int i :: .ref a :: r) h cs ss = (isA (h.1 a) (fun k m => k = 0 ∧ vp_in i m) ∧ K 452 L (h.2 a i.toNatClampNeg :: r) h cs ss) := by
  rw [dL_asks_451, ey_ok, nx_iaload_57]
theorem qL_asks_452 : ey F ini rt fin K0 K (decode cL_asks 452) 452 L (.int y :: .int x :: r) h cs ss = (if y ≤ x then K 501 L r h cs ss else K 455 L r h cs ss) := by
  rw [dL_asks_452, ey_ok, nx_if_icmp_39]
  exact and_l (by unfold jok; decide)
theorem qL_asks_455 : ey F ini rt fin K0 K (decode cL_asks 455) 455 L (st) h cs ss = (lhas L 21 ∧ isI (lgt L 21) ∧ K 457 L (lgt L 21 :: st) h cs ss) := by
  rw [dL_asks_455, ey_ok, nx_iload_0] <;> rfl
theorem qL_asks_457 : ey F ini rt fin K0 K (decode cL_asks 457) 457 L (st) h cs ss = (lhas L 4 ∧ isRf (lgt L 4) ∧ K 459 L (lgt L 4 :: st) h cs ss) := by
  rw [dL_asks_457, ey_ok, nx_aload_2] <;> rfl
theorem qL_asks_459 : ey F ini rt fin K0 K (decode cL_asks 459) 459 L (st) h cs ss = (K 461 L (.int 30 :: st) h cs ss) := by
  rw [dL_asks_459, ey_ok, nx_bipush_12] <;> rfl
theorem qL_asks_461 : ey F ini rt fin K0 K (decode cL_asks 461) 461 L (st) h cs ss = (lhas L 22 ∧ isI (lgt L 22) ∧ K 463 L (lgt L 22 :: st) h cs ss) := by
  rw [dL_asks_461, ey_ok, nx_iload_0] <;> rfl
theorem qL_asks_463 : ey F ini rt fin K0 K (decode cL_asks 463) 463 L (.int y :: .int x :: r) h cs ss = (K 464 L (.int (x + y) :: r) h cs ss) := by
  rw [dL_asks_463, ey_ok, nx_iadd_16]
theorem qL_asks_464 : ey F ini rt fin K0 K (decode cL_asks 464) 464 L (.int i :: .ref a :: r) h cs ss = (isA (h.1 a) (fun k m => k = 0 ∧ vp_in i m) ∧ K 465 L (h.2 a i.toNatClampNeg :: r) h cs ss) := by
  rw [dL_asks_464, ey_ok, nx_iaload_57]
theorem qL_asks_465 : ey F ini rt fin K0 K (decode cL_asks 465) 465 L (st) h cs ss = (lhas L 13 ∧ isI (lgt L 13) ∧ K 467 L (lgt L 13 :: st) h cs ss) := by
  rw [dL_asks_465, ey_ok, nx_iload_0] <;> rfl
theorem qL_asks_467 : ey F ini rt fin K0 K (decode cL_asks 467) 467 L (.int y :: .int x :: r) h cs ss = (if ¬ x = y then K 491 L r h cs ss else K 470 L r h cs ss) := by
  rw [dL_asks_467, ey_ok, nx_if_icmp_37]
  exact and_l (by unfold jok; decide)
theorem qL_asks_470 : ey F ini rt fin K0 K (decode cL_asks 470) 470 L (st) h cs ss = (lhas L 4 ∧ isRf (lgt L 4) ∧ K 472 L (lgt L 4 :: st) h cs ss) := by
  rw [dL_asks_470, ey_ok, nx_aload_2] <;> rfl
theorem qL_asks_472 : ey F ini rt fin K0 K (decode cL_asks 472) 472 L (st) h cs ss = (lhas L 22 ∧ isI (lgt L 22) ∧ K 474 L (lgt L 22 :: st) h cs ss) := by
  rw [dL_asks_472, ey_ok, nx_iload_0] <;> rfl
theorem qL_asks_474 : ey F ini rt fin K0 K (decode cL_asks 474) 474 L (st) h cs ss = (K0 474 L st h cs ss) := by
  rw [dL_asks_474, ey_ok, nx_invokestatic_73]
theorem qL_asks_477 : ey F ini rt fin K0 K (decode cL_asks 477) 477 L (st) h cs ss = (lhas L 4 ∧ isRf (lgt L 4) ∧ K 479 L (lgt L 4 :: st) h cs ss) := by
  rw [dL_asks_477, ey_ok, nx_aload_2] <;> rfl
theorem qL_asks_479 : ey F ini rt fin K0 K (decode cL_asks 479) 479 L (st) h cs ss = (lhas L 19 ∧ isI (lgt L 19) ∧ K 481 L (lgt L 19 :: st) h cs ss) := by
  rw [dL_asks_479, ey_ok, nx_iload_0] <;> rfl
theorem qL_asks_481 : ey F ini rt fin K0 K (decode cL_asks 481) 481 L (st) h cs ss = (K0 481 L st h cs ss) := by
  rw [dL_asks_481, ey_ok, nx_invokestatic_73]
theorem qL_asks_484 : ey F ini rt fin K0 K (decode cL_asks 484) 484 L (.int y :: .int x :: r) h cs ss = (if y ≤ x then K 491 L r h cs ss else K 487 L r h cs ss) := by
  rw [dL_asks_484, ey_ok, nx_if_icmp_39]
  exact and_l (by unfold jok; decide)
theorem qL_asks_487 : ey F ini rt fin K0 K (decode cL_asks 487) 487 L (st) h cs ss = (K 488 L (.int 1 :: st) h cs ss) := by
  rw [dL_asks_487, ey_ok, nx_iconst_11] <;> rfl
theorem qL_asks_488 : ey F ini rt fin K0 K (decode cL_asks 488) 488 L (st) h cs ss = (K 492 L st h cs ss) := by
  rw [dL_asks_488, ey_ok, nx_goto_29]
  exact and_l (by unfold jok; decide)
theorem qL_asks_491 : ey F ini rt fin K0 K (decode cL_asks 491) 491 L (st) h cs ss = (K 492 L (.int 0 :: st) h cs ss) := by
  rw [dL_asks_491, ey_ok, nx_iconst_11] <;> rfl
theorem qL_asks_492 : ey F ini rt fin K0 K (decode cL_asks 492) 492 L (.int y :: .int x :: r) h cs ss = (K 493 L (.int (x + y) :: r) h cs ss) := by
  rw [dL_asks_492, ey_ok, nx_iadd_16]
theorem qL_asks_493 : ey F ini rt fin K0 K (decode cL_asks 493) 493 L (.int x :: r) h cs ss = (21 < L.length ∧ K 495 (L.set 21 (some (.int x))) r h cs ss) := by
  rw [dL_asks_493, ey_ok, nx_istore_4] <;> rfl
theorem qL_asks_495 : ey F ini rt fin K0 K (decode cL_asks 495) 495 L (st) h cs ss = (lhas L 22 ∧ isI (lgt L 22) ∧ K 498 (L.set 22 (some (inc (lgt L 22) 1))) st h cs ss) := by
  rw [dL_asks_495, ey_ok, nx_iinc_10] <;> rfl
theorem qL_asks_498 : ey F ini rt fin K0 K (decode cL_asks 498) 498 L (st) h cs ss = (K 447 L st h cs ss) := by
  rw [dL_asks_498, ey_ok, nx_goto_29]
  exact and_l (by unfold jok; decide)
theorem qL_asks_501 : ey F ini rt fin K0 K (decode cL_asks 501) 501 L (st) h cs ss = (lhas L 20 ∧ isI (lgt L 20) ∧ K 503 L (lgt L 20 :: st) h cs ss) := by
  rw [dL_asks_501, ey_ok, nx_iload_0] <;> rfl
theorem qL_asks_503 : ey F ini rt fin K0 K (decode cL_asks 503) 503 L (.int x :: r) h cs ss = (if x = 0 then K 518 L r h cs ss else K 506 L r h cs ss) := by
  rw [dL_asks_503, ey_ok, nx_ifond_30]
  exact and_l (by unfold jok; decide)
theorem qL_asks_506 : ey F ini rt fin K0 K (decode cL_asks 506) 506 L (st) h cs ss = (lhas L 21 ∧ isI (lgt L 21) ∧ K 508 L (lgt L 21 :: st) h cs ss) := by
  rw [dL_asks_506, ey_ok, nx_iload_0] <;> rfl
theorem qL_asks_508 : ey F ini rt fin K0 K (decode cL_asks 508) 508 L (st) h cs ss = (lhas L 17 ∧ isI (lgt L 17) ∧ K 510 L (lgt L 17 :: st) h cs ss) := by
  rw [dL_asks_508, ey_ok, nx_iload_0] <;> rfl
theorem qL_asks_510 : ey F ini rt fin K0 K (decode cL_asks 510) 510 L (.int y :: .int x :: r) h cs ss = (if ¬ x = y then K 518 L r h cs ss else K 513 L r h cs ss) := by
  rw [dL_asks_510, ey_ok, nx_if_icmp_37]
  exact and_l (by unfold jok; decide)
theorem qL_asks_513 : ey F ini rt fin K0 K (decode cL_asks 513) 513 L (st) h cs ss = (lhas L 19 ∧ isI (lgt L 19) ∧ K 515 L (lgt L 19 :: st) h cs ss) := by
  rw [dL_asks_513, ey_ok, nx_iload_0] <;> rfl
theorem qL_asks_515 : ey F ini rt fin K0 K (decode cL_asks 515) 515 L (st) h cs ss = (K 520 L st h cs ss) := by
  rw [dL_asks_515, ey_ok, nx_goto_29]
  exact and_l (by unfold jok; decide)
theorem qL_asks_518 : ey F ini rt fin K0 K (decode cL_asks 518) 518 L (st) h cs ss = (lhas L 18 ∧ isI (lgt L 18) ∧ K 520 L (lgt L 18 :: st) h cs ss) := by
  rw [dL_asks_518, ey_ok, nx_iload_0] <;> rfl
theorem qL_asks_520 : ey F ini rt fin K0 K (decode cL_asks 520) 520 L (.int x :: r) h cs ss = (18 < L.length ∧ K 522 (L.set 18 (some (.int x))) r h cs ss) := by
  rw [dL_asks_520, ey_ok, nx_istore_4] <;> rfl
theorem qL_asks_522 : ey F ini rt fin K0 K (decode cL_asks 522) 522 L (st) h cs ss = (lhas L 15 ∧ isI (lgt L 15) ∧ K 524 L (lgt L 15 :: st) h cs ss) := by
  rw [dL_asks_522, ey_ok, nx_iload_0] <;> rfl
theorem qL_asks_524 : ey F ini rt fin K0 K (decode cL_asks 524) 524 L (st) h cs ss = (lhas L 20 ∧ isI (lgt L 20) ∧ K 526 L (lgt L 20 :: st) h cs ss) := by
  rw [dL_asks_524, ey_ok, nx_iload_0] <;> rfl
theorem qL_asks_526 : ey F ini rt fin K0 K (decode cL_asks 526) 526 L (.int x :: r) h cs ss = (if x = 0 then K 570 L r h cs ss else K 529 L r h cs ss) := by
  rw [dL_asks_526, ey_ok, nx_ifond_30]
  exact and_l (by unfold jok; decide)
theorem qL_asks_529 : ey F ini rt fin K0 K (decode cL_asks 529) 529 L (st) h cs ss = (lhas L 4 ∧ isRf (lgt L 4) ∧ K 531 L (lgt L 4 :: st) h cs ss) := by
  rw [dL_asks_529, ey_ok, nx_aload_2] <;> rfl
theorem qL_asks_531 : ey F ini rt fin K0 K (decode cL_asks 531) 531 L (st) h cs ss = (K 533 L (.int 50 :: st) h cs ss) := by
  rw [dL_asks_531, ey_ok, nx_bipush_12] <;> rfl
theorem qL_asks_533 : ey F ini rt fin K0 K (decode cL_asks 533) 533 L (st) h cs ss = (lhas L 19 ∧ isI (lgt L 19) ∧ K 535 L (lgt L 19 :: st) h cs ss) := by
  rw [dL_asks_533, ey_ok, nx_iload_0] <;> rfl
theorem qL_asks_535 : ey F ini rt fin K0 K (decode cL_asks 535) 535 L (.int y :: .int x :: r) h cs ss = (K 536 L (.int (x + y) :: r) h cs ss) := by
  rw [dL_asks_535, ey_ok, nx_iadd_16]
theorem qL_asks_536 : ey F ini rt fin K0 K (decode cL_asks 536) 536 L (.int i :: .ref a :: r) h cs ss = (isA (h.1 a) (fun k m => k = 0 ∧ vp_in i m) ∧ K 537 L (h.2 a i.toNatClampNeg :: r) h cs ss) := by
  rw [dL_asks_536, ey_ok, nx_iaload_57]
theorem qL_asks_537 : ey F ini rt fin K0 K (decode cL_asks 537) 537 L (st) h cs ss = (lhas L 2 ∧ isRf (lgt L 2) ∧ K 538 L (lgt L 2 :: st) h cs ss) := by
  rw [dL_asks_537, ey_ok, nx_aload_n_3] <;> rfl
theorem qL_asks_538 : ey F ini rt fin K0 K (decode cL_asks 538) 538 L (st) h cs ss = (K 539 L (.int 0 :: st) h cs ss) := by
  rw [dL_asks_538, ey_ok, nx_iconst_11] <;> rfl
theorem qL_asks_539 : ey F ini rt fin K0 K (decode cL_asks 539) 539 L (.int i :: .ref a :: r) h cs ss = (isA (h.1 a) (fun k m => k = 0 ∧ vp_in i m) ∧ K 540 L (h.2 a i.toNatClampNeg :: r) h cs ss) := by
  rw [dL_asks_539, ey_ok, nx_iaload_57]
theorem qL_asks_540 : ey F ini rt fin K0 K (decode cL_asks 540) 540 L (.int y :: .int x :: r) h cs ss = (if y < x then K 570 L r h cs ss else K 543 L r h cs ss) := by
  rw [dL_asks_540, ey_ok, nx_if_icmp_40]
  exact and_l (by unfold jok; decide)
theorem qL_asks_543 : ey F ini rt fin K0 K (decode cL_asks 543) 543 L (st) h cs ss = (lhas L 4 ∧ isRf (lgt L 4) ∧ K 545 L (lgt L 4 :: st) h cs ss) := by
  rw [dL_asks_543, ey_ok, nx_aload_2] <;> rfl
theorem qL_asks_545 : ey F ini rt fin K0 K (decode cL_asks 545) 545 L (st) h cs ss = (K 547 L (.int 50 :: st) h cs ss) := by
  rw [dL_asks_545, ey_ok, nx_bipush_12] <;> rfl
theorem qL_asks_547 : ey F ini rt fin K0 K (decode cL_asks 547) 547 L (st) h cs ss = (lhas L 19 ∧ isI (lgt L 19) ∧ K 549 L (lgt L 19 :: st) h cs ss) := by
  rw [dL_asks_547, ey_ok, nx_iload_0] <;> rfl
theorem qL_asks_549 : ey F ini rt fin K0 K (decode cL_asks 549) 549 L (.int y :: .int x :: r) h cs ss = (K 550 L (.int (x + y) :: r) h cs ss) := by
  rw [dL_asks_549, ey_ok, nx_iadd_16]
theorem qL_asks_550 : ey F ini rt fin K0 K (decode cL_asks 550) 550 L (.int i :: .ref a :: r) h cs ss = (isA (h.1 a) (fun k m => k = 0 ∧ vp_in i m) ∧ K 551 L (h.2 a i.toNatClampNeg :: r) h cs ss) := by
  rw [dL_asks_550, ey_ok, nx_iaload_57]
theorem qL_asks_551 : ey F ini rt fin K0 K (decode cL_asks 551) 551 L (st) h cs ss = (lhas L 4 ∧ isRf (lgt L 4) ∧ K 553 L (lgt L 4 :: st) h cs ss) := by
  rw [dL_asks_551, ey_ok, nx_aload_2] <;> rfl
theorem qL_asks_553 : ey F ini rt fin K0 K (decode cL_asks 553) 553 L (st) h cs ss = (K 555 L (.int 40 :: st) h cs ss) := by
  rw [dL_asks_553, ey_ok, nx_bipush_12] <;> rfl
theorem qL_asks_555 : ey F ini rt fin K0 K (decode cL_asks 555) 555 L (st) h cs ss = (lhas L 19 ∧ isI (lgt L 19) ∧ K 557 L (lgt L 19 :: st) h cs ss) := by
  rw [dL_asks_555, ey_ok, nx_iload_0] <;> rfl
theorem qL_asks_557 : ey F ini rt fin K0 K (decode cL_asks 557) 557 L (.int y :: .int x :: r) h cs ss = (K 558 L (.int (x + y) :: r) h cs ss) := by
  rw [dL_asks_557, ey_ok, nx_iadd_16]
theorem qL_asks_558 : ey F ini rt fin K0 K (decode cL_asks 558) 558 L (.int i :: .ref a :: r) h cs ss = (isA (h.1 a) (fun k m => k = 0 ∧ vp_in i m) ∧ K 559 L (h.2 a i.toNatClampNeg :: r) h cs ss) := by
  rw [dL_asks_558, ey_ok, nx_iaload_57]
theorem qL_asks_559 : ey F ini rt fin K0 K (decode cL_asks 559) 559 L (.int y :: .int x :: r) h cs ss = (K 560 L (.int (x - y) :: r) h cs ss) := by
  rw [dL_asks_559, ey_ok, nx_isub_17]
theorem qL_asks_560 : ey F ini rt fin K0 K (decode cL_asks 560) 560 L (st) h cs ss = (lhas L 3 ∧ isRf (lgt L 3) ∧ K 561 L (lgt L 3 :: st) h cs ss) := by
  rw [dL_asks_560, ey_ok, nx_aload_n_3] <;> rfl
theorem qL_asks_561 : ey F ini rt fin K0 K (decode cL_asks 561) 561 L (st) h cs ss = (K 562 L (.int 4 :: st) h cs ss) := by
  rw [dL_asks_561, ey_ok, nx_iconst_11] <;> rfl
theorem qL_asks_562 : ey F ini rt fin K0 K (decode cL_asks 562) 562 L (st) h cs ss = (lhas L 13 ∧ isI (lgt L 13) ∧ K 564 L (lgt L 13 :: st) h cs ss) := by
  rw [dL_asks_562, ey_ok, nx_iload_0] <;> rfl
theorem qL_asks_564 : ey F ini rt fin K0 K (decode cL_asks 564) 564 L (.int y :: .int x :: r) h cs ss = (K 565 L (.int (x + y) :: r) h cs ss) := by
  rw [dL_asks_564, ey_ok, nx_iadd_16]
theorem qL_asks_565 : ey F ini rt fin K0 K (decode cL_asks 565) 565 L (.int i :: .ref a :: r) h cs ss = (isA (h.1 a) (fun k m => k = 0 ∧ vp_in i m) ∧ K 566 L (h.2 a i.toNatClampNeg :: r) h cs ss) := by
  rw [dL_asks_565, ey_ok, nx_iaload_57]
theorem qL_asks_566 : ey F ini rt fin K0 K (decode cL_asks 566) 566 L (.int y :: .int x :: r) h cs ss = (K 567 L (.int (x * y) :: r) h cs ss) := by
  rw [dL_asks_566, ey_ok, nx_imul_18]
theorem qL_asks_567 : ey F ini rt fin K0 K (decode cL_asks 567) 567 L (st) h cs ss = (K 571 L st h cs ss) := by
  rw [dL_asks_567, ey_ok, nx_goto_29]
  exact and_l (by unfold jok; decide)
theorem qL_asks_570 : ey F ini rt fin K0 K (decode cL_asks 570) 570 L (st) h cs ss = (K 571 L (.int 0 :: st) h cs ss) := by
  rw [dL_asks_570, ey_ok, nx_iconst_11] <;> rfl
theorem qL_asks_571 : ey F ini rt fin K0 K (decode cL_asks 571) 571 L (.int y :: .int x :: r) h cs ss = (K 572 L (.int (x + y) :: r) h cs ss) := by
  rw [dL_asks_571, ey_ok, nx_iadd_16]
theorem qL_asks_572 : ey F ini rt fin K0 K (decode cL_asks 572) 572 L (.int x :: r) h cs ss = (15 < L.length ∧ K 574 (L.set 15 (some (.int x))) r h cs ss) := by
  rw [dL_asks_572, ey_ok, nx_istore_4] <;> rfl
theorem qL_asks_574 : ey F ini rt fin K0 K (decode cL_asks 574) 574 L (st) h cs ss = (K 575 L (.int 0 :: st) h cs ss) := by
  rw [dL_asks_574, ey_ok, nx_iconst_11] <;> rfl
theorem qL_asks_575 : ey F ini rt fin K0 K (decode cL_asks 575) 575 L (.int x :: r) h cs ss = (22 < L.length ∧ K 577 (L.set 22 (some (.int x))) r h cs ss) := by
  rw [dL_asks_575, ey_ok, nx_istore_4] <;> rfl
theorem qL_asks_577 : ey F ini rt fin K0 K (decode cL_asks 577) 577 L (st) h cs ss = (lhas L 22 ∧ isI (lgt L 22) ∧ K 579 L (lgt L 22 :: st) h cs ss) := by
  rw [dL_asks_577, ey_ok, nx_iload_0] <;> rfl
theorem qL_asks_579 : ey F ini rt fin K0 K (decode cL_asks 579) 579 L (st) h cs ss = (lhas L 2 ∧ isRf (lgt L 2) ∧ K 580 L (lgt L 2 :: st) h cs ss) := by
  rw [dL_asks_579, ey_ok, nx_aload_n_3] <;> rfl
theorem qL_asks_580 : ey F ini rt fin K0 K (decode cL_asks 580) 580 L (st) h cs ss = (K 581 L (.int 2 :: st) h cs ss) := by
  rw [dL_asks_580, ey_ok, nx_iconst_11] <;> rfl
theorem qL_asks_581 : ey F ini rt fin K0 K (decode cL_asks 581) 581 L (.int i :: .ref a :: r) h cs ss = (isA (h.1 a) (fun k m => k = 0 ∧ vp_in i m) ∧ K 582 L (h.2 a i.toNatClampNeg :: r) h cs ss) := by
  rw [dL_asks_581, ey_ok, nx_iaload_57]
theorem qL_asks_582 : ey F ini rt fin K0 K (decode cL_asks 582) 582 L (.int y :: .int x :: r) h cs ss = (if y ≤ x then K 638 L r h cs ss else K 585 L r h cs ss) := by
  rw [dL_asks_582, ey_ok, nx_if_icmp_39]
  exact and_l (by unfold jok; decide)
theorem qL_asks_585 : ey F ini rt fin K0 K (decode cL_asks 585) 585 L (st) h cs ss = (lhas L 16 ∧ isI (lgt L 16) ∧ K 587 L (lgt L 16 :: st) h cs ss) := by
  rw [dL_asks_585, ey_ok, nx_iload_0] <;> rfl
theorem qL_asks_587 : ey F ini rt fin K0 K (decode cL_asks 587) 587 L (st) h cs ss = (lhas L 20 ∧ isI (lgt L 20) ∧ K 589 L (lgt L 20 :: st) h cs ss) := by
  rw [dL_asks_587, ey_ok, nx_iload_0] <;> rfl
theorem qL_asks_589 : ey F ini rt fin K0 K (decode cL_asks 589) 589 L (.int x :: r) h cs ss = (if x = 0 then K 628 L r h cs ss else K 592 L r h cs ss) := by
  rw [dL_asks_589, ey_ok, nx_ifond_30]
  exact and_l (by unfold jok; decide)
theorem qL_asks_592 : ey F ini rt fin K0 K (decode cL_asks 592) 592 L (st) h cs ss = (lhas L 4 ∧ isRf (lgt L 4) ∧ K 594 L (lgt L 4 :: st) h cs ss) := by
  rw [dL_asks_592, ey_ok, nx_aload_2] <;> rfl
theorem qL_asks_594 : ey F ini rt fin K0 K (decode cL_asks 594) 594 L (st) h cs ss = (K 596 L (.int 40 :: st) h cs ss) := by
  rw [dL_asks_594, ey_ok, nx_bipush_12] <;> rfl
theorem qL_asks_596 : ey F ini rt fin K0 K (decode cL_asks 596) 596 L (st) h cs ss = (lhas L 19 ∧ isI (lgt L 19) ∧ K 598 L (lgt L 19 :: st) h cs ss) := by
  rw [dL_asks_596, ey_ok, nx_iload_0] <;> rfl
theorem qL_asks_598 : ey F ini rt fin K0 K (decode cL_asks 598) 598 L (.int y :: .int x :: r) h cs ss = (K 599 L (.int (x + y) :: r) h cs ss) := by
  rw [dL_asks_598, ey_ok, nx_iadd_16]
theorem qL_asks_599 : ey F ini rt fin K0 K (decode cL_asks 599) 599 L (.int i :: .ref a :: r) h cs ss = (isA (h.1 a) (fun k m => k = 0 ∧ vp_in i m) ∧ K 600 L (h.2 a i.toNatClampNeg :: r) h cs ss) := by
  rw [dL_asks_599, ey_ok, nx_iaload_57]
theorem qL_asks_600 : ey F ini rt fin K0 K (decode cL_asks 600) 600 L (st) h cs ss = (K 603 L (.int 168 :: st) h cs ss) := by
  rw [dL_asks_600, ey_ok, nx_sipush_13] <;> rfl
theorem qL_asks_603 : ey F ini rt fin K0 K (decode cL_asks 603) 603 L (.int y :: .int x :: r) h cs ss = (¬ y = 0 ∧ K 604 L (.int (x / y) :: r) h cs ss) := by
  rw [dL_asks_603, ey_ok, nx_idiv_23]
theorem qL_asks_604 : ey F ini rt fin K0 K (decode cL_asks 604) 604 L (st) h cs ss = (lhas L 14 ∧ isI (lgt L 14) ∧ K 606 L (lgt L 14 :: st) h cs ss) := by
  rw [dL_asks_604, ey_ok, nx_iload_0] <;> rfl
theorem qL_asks_606 : ey F ini rt fin K0 K (decode cL_asks 606) 606 L (.int y :: .int x :: r) h cs ss = (if ¬ x = y then K 628 L r h cs ss else K 609 L r h cs ss) := by
  rw [dL_asks_606, ey_ok, nx_if_icmp_37]
  exact and_l (by unfold jok; decide)
theorem qL_asks_609 : ey F ini rt fin K0 K (decode cL_asks 609) 609 L (st) h cs ss = (lhas L 2 ∧ isRf (lgt L 2) ∧ K 610 L (lgt L 2 :: st) h cs ss) := by
  rw [dL_asks_609, ey_ok, nx_aload_n_3] <;> rfl
theorem qL_asks_610 : ey F ini rt fin K0 K (decode cL_asks 610) 610 L (st) h cs ss = (lhas L 4 ∧ isRf (lgt L 4) ∧ K 612 L (lgt L 4 :: st) h cs ss) := by
  rw [dL_asks_610, ey_ok, nx_aload_2] <;> rfl
theorem qL_asks_612 : ey F ini rt fin K0 K (decode cL_asks 612) 612 L (st) h cs ss = (lhas L 5 ∧ isRf (lgt L 5) ∧ K 614 L (lgt L 5 :: st) h cs ss) := by
  rw [dL_asks_612, ey_ok, nx_aload_2] <;> rfl
theorem qL_asks_614 : ey F ini rt fin K0 K (decode cL_asks 614) 614 L (st) h cs ss = (lhas L 19 ∧ isI (lgt L 19) ∧ K 616 L (lgt L 19 :: st) h cs ss) := by
  rw [dL_asks_614, ey_ok, nx_iload_0] <;> rfl
theorem qL_asks_616 : ey F ini rt fin K0 K (decode cL_asks 616) 616 L (st) h cs ss = (lhas L 22 ∧ isI (lgt L 22) ∧ K 618 L (lgt L 22 :: st) h cs ss) := by
  rw [dL_asks_616, ey_ok, nx_iload_0] <;> rfl
theorem qL_asks_618 : ey F ini rt fin K0 K (decode cL_asks 618) 618 L (st) h cs ss = (K0 618 L st h cs ss) := by
  rw [dL_asks_618, ey_ok, nx_invokestatic_73]
theorem qL_asks_621 : ey F ini rt fin K0 K (decode cL_asks 621) 621 L (.int x :: r) h cs ss = (if x = 0 then K 628 L r h cs ss else K 624 L r h cs ss) := by
  rw [dL_asks_621, ey_ok, nx_ifond_30]
  exact and_l (by unfold jok; decide)
theorem qL_asks_624 : ey F ini rt fin K0 K (decode cL_asks 624) 624 L (st) h cs ss = (K 625 L (.int 1 :: st) h cs ss) := by
  rw [dL_asks_624, ey_ok, nx_iconst_11] <;> rfl
theorem qL_asks_625 : ey F ini rt fin K0 K (decode cL_asks 625) 625 L (st) h cs ss = (K 629 L st h cs ss) := by
  rw [dL_asks_625, ey_ok, nx_goto_29]
  exact and_l (by unfold jok; decide)
theorem qL_asks_628 : ey F ini rt fin K0 K (decode cL_asks 628) 628 L (st) h cs ss = (K 629 L (.int 0 :: st) h cs ss) := by
  rw [dL_asks_628, ey_ok, nx_iconst_11] <;> rfl
theorem qL_asks_629 : ey F ini rt fin K0 K (decode cL_asks 629) 629 L (.int y :: .int x :: r) h cs ss = (K 630 L (.int (x + y) :: r) h cs ss) := by
  rw [dL_asks_629, ey_ok, nx_iadd_16]
theorem qL_asks_630 : ey F ini rt fin K0 K (decode cL_asks 630) 630 L (.int x :: r) h cs ss = (16 < L.length ∧ K 632 (L.set 16 (some (.int x))) r h cs ss) := by
  rw [dL_asks_630, ey_ok, nx_istore_4] <;> rfl
theorem qL_asks_632 : ey F ini rt fin K0 K (decode cL_asks 632) 632 L (st) h cs ss = (lhas L 22 ∧ isI (lgt L 22) ∧ K 635 (L.set 22 (some (inc (lgt L 22) 1))) st h cs ss) := by
  rw [dL_asks_632, ey_ok, nx_iinc_10] <;> rfl
theorem qL_asks_635 : ey F ini rt fin K0 K (decode cL_asks 635) 635 L (st) h cs ss = (K 577 L st h cs ss) := by
  rw [dL_asks_635, ey_ok, nx_goto_29]
  exact and_l (by unfold jok; decide)
theorem qL_asks_638 : ey F ini rt fin K0 K (decode cL_asks 638) 638 L (st) h cs ss = (lhas L 19 ∧ isI (lgt L 19) ∧ K 641 (L.set 19 (some (inc (lgt L 19) 1))) st h cs ss) := by
  rw [dL_asks_638, ey_ok, nx_iinc_10] <;> rfl
theorem qL_asks_641 : ey F ini rt fin K0 K (decode cL_asks 641) 641 L (st) h cs ss = (K 413 L st h cs ss) := by
  rw [dL_asks_641, ey_ok, nx_goto_29]
  exact and_l (by unfold jok; decide)
theorem qL_asks_644 : ey F ini rt fin K0 K (decode cL_asks 644) 644 L (st) h cs ss = (K 645 L (.int 0 :: st) h cs ss) := by
  rw [dL_asks_644, ey_ok, nx_iconst_11] <;> rfl
theorem qL_asks_645 : ey F ini rt fin K0 K (decode cL_asks 645) 645 L (.int x :: r) h cs ss = (19 < L.length ∧ K 647 (L.set 19 (some (.int x))) r h cs ss) := by
  rw [dL_asks_645, ey_ok, nx_istore_4] <;> rfl
theorem qL_asks_647 : ey F ini rt fin K0 K (decode cL_asks 647) 647 L (st) h cs ss = (lhas L 19 ∧ isI (lgt L 19) ∧ K 649 L (lgt L 19 :: st) h cs ss) := by
  rw [dL_asks_647, ey_ok, nx_iload_0] <;> rfl
theorem qL_asks_649 : ey F ini rt fin K0 K (decode cL_asks 649) 649 L (st) h cs ss = (lhas L 2 ∧ isRf (lgt L 2) ∧ K 650 L (lgt L 2 :: st) h cs ss) := by
  rw [dL_asks_649, ey_ok, nx_aload_n_3] <;> rfl
theorem qL_asks_650 : ey F ini rt fin K0 K (decode cL_asks 650) 650 L (st) h cs ss = (K 651 L (.int 3 :: st) h cs ss) := by
  rw [dL_asks_650, ey_ok, nx_iconst_11] <;> rfl
theorem qL_asks_651 : ey F ini rt fin K0 K (decode cL_asks 651) 651 L (.int i :: .ref a :: r) h cs ss = (isA (h.1 a) (fun k m => k = 0 ∧ vp_in i m) ∧ K 652 L (h.2 a i.toNatClampNeg :: r) h cs ss) := by
  rw [dL_asks_651, ey_ok, nx_iaload_57]
theorem qL_asks_652 : ey F ini rt fin K0 K (decode cL_asks 652) 652 L (.int y :: .int x :: r) h cs ss = (if y ≤ x then K 702 L r h cs ss else K 655 L r h cs ss) := by
  rw [dL_asks_652, ey_ok, nx_if_icmp_39]
  exact and_l (by unfold jok; decide)
theorem qL_asks_655 : ey F ini rt fin K0 K (decode cL_asks 655) 655 L (st) h cs ss = (lhas L 15 ∧ isI (lgt L 15) ∧ K 657 L (lgt L 15 :: st) h cs ss) := by
  rw [dL_asks_655, ey_ok, nx_iload_0] <;> rfl
theorem qL_asks_657 : ey F ini rt fin K0 K (decode cL_asks 657) 657 L (st) h cs ss = (lhas L 6 ∧ isRf (lgt L 6) ∧ K 659 L (lgt L 6 :: st) h cs ss) := by
  rw [dL_asks_657, ey_ok, nx_aload_2] <;> rfl
theorem qL_asks_659 : ey F ini rt fin K0 K (decode cL_asks 659) 659 L (st) h cs ss = (lhas L 19 ∧ isI (lgt L 19) ∧ K 661 L (lgt L 19 :: st) h cs ss) := by
  rw [dL_asks_659, ey_ok, nx_iload_0] <;> rfl
theorem qL_asks_661 : ey F ini rt fin K0 K (decode cL_asks 661) 661 L (.int i :: .ref a :: r) h cs ss = (isA (h.1 a) (fun k m => k = 0 ∧ vp_in i m) ∧ K 662 L (h.2 a i.toNatClampNeg :: r) h cs ss) := by
  rw [dL_asks_661, ey_ok, nx_iaload_57]
theorem qL_asks_662 : ey F ini rt fin K0 K (decode cL_asks 662) 662 L (st) h cs ss = (K 665 L (.int 10000 :: st) h cs ss) := by
  rw [dL_asks_662, ey_ok, nx_sipush_13] <;> rfl
theorem qL_asks_665 : ey F ini rt fin K0 K (decode cL_asks 665) 665 L (.int y :: .int x :: r) h cs ss = (¬ y = 0 ∧ K 666 L (.int (x / y) :: r) h cs ss) := by
  rw [dL_asks_665, ey_ok, nx_idiv_23]
theorem qL_asks_666 : ey F ini rt fin K0 K (decode cL_asks 666) 666 L (st) h cs ss = (lhas L 13 ∧ isI (lgt L 13) ∧ K 668 L (lgt L 13 :: st) h cs ss) := by
  rw [dL_asks_666, ey_ok, nx_iload_0] <;> rfl
theorem qL_asks_668 : ey F ini rt fin K0 K (decode cL_asks 668) 668 L (.int y :: .int x :: r) h cs ss = (if ¬ x = y then K 692 L r h cs ss else K 671 L r h cs ss) := by
  rw [dL_asks_668, ey_ok, nx_if_icmp_37]
  exact and_l (by unfold jok; decide)
theorem qL_asks_671 : ey F ini rt fin K0 K (decode cL_asks 671) 671 L (st) h cs ss = (lhas L 7 ∧ isRf (lgt L 7) ∧ K 673 L (lgt L 7 :: st) h cs ss) := by
  rw [dL_asks_671, ey_ok, nx_aload_2] <;> rfl
theorem qL_asks_673 : ey F ini rt fin K0 K (decode cL_asks 673) 673 L (st) h cs ss = (lhas L 19 ∧ isI (lgt L 19) ∧ K 675 L (lgt L 19 :: st) h cs ss) := by
  rw [dL_asks_673, ey_ok, nx_iload_0] <;> rfl
theorem qL_asks_675 : ey F ini rt fin K0 K (decode cL_asks 675) 675 L (.int i :: .ref a :: r) h cs ss = (isA (h.1 a) (fun k m => k = 0 ∧ vp_in i m) ∧ K 676 L (h.2 a i.toNatClampNeg :: r) h cs ss) := by
  rw [dL_asks_675, ey_ok, nx_iaload_57]
theorem qL_asks_676 : ey F ini rt fin K0 K (decode cL_asks 676) 676 L (st) h cs ss = (K 677 L (.int 2 :: st) h cs ss) := by
  rw [dL_asks_676, ey_ok, nx_iconst_11] <;> rfl
theorem qL_asks_677 : ey F ini rt fin K0 K (decode cL_asks 677) 677 L (.int y :: .int x :: r) h cs ss = (¬ y = 0 ∧ K 678 L (.int (x - x / y * y) :: r) h cs ss) := by
  rw [dL_asks_677, ey_ok, nx_irem_81]
theorem qL_asks_678 : ey F ini rt fin K0 K (decode cL_asks 678) 678 L (st) h cs ss = (K 679 L (.int 1 :: st) h cs ss) := by
  rw [dL_asks_678, ey_ok, nx_iconst_11] <;> rfl
theorem qL_asks_679 : ey F ini rt fin K0 K (decode cL_asks 679) 679 L (.int y :: .int x :: r) h cs ss = (if ¬ x = y then K 692 L r h cs ss else K 682 L r h cs ss) := by
  rw [dL_asks_679, ey_ok, nx_if_icmp_37]
  exact and_l (by unfold jok; decide)
theorem qL_asks_682 : ey F ini rt fin K0 K (decode cL_asks 682) 682 L (st) h cs ss = (lhas L 7 ∧ isRf (lgt L 7) ∧ K 684 L (lgt L 7 :: st) h cs ss) := by
  rw [dL_asks_682, ey_ok, nx_aload_2] <;> rfl
theorem qL_asks_684 : ey F ini rt fin K0 K (decode cL_asks 684) 684 L (st) h cs ss = (lhas L 19 ∧ isI (lgt L 19) ∧ K 686 L (lgt L 19 :: st) h cs ss) := by
  rw [dL_asks_684, ey_ok, nx_iload_0] <;> rfl
theorem qL_asks_686 : ey F ini rt fin K0 K (decode cL_asks 686) 686 L (.int i :: .ref a :: r) h cs ss = (isA (h.1 a) (fun k m => k = 0 ∧ vp_in i m) ∧ K 687 L (h.2 a i.toNatClampNeg :: r) h cs ss) := by
  rw [dL_asks_686, ey_ok, nx_iaload_57]
theorem qL_asks_687 : ey F ini rt fin K0 K (decode cL_asks 687) 687 L (st) h cs ss = (K 688 L (.int 4 :: st) h cs ss) := by
  rw [dL_asks_687, ey_ok, nx_iconst_11] <;> rfl
theorem qL_asks_688 : ey F ini rt fin K0 K (decode cL_asks 688) 688 L (.int y :: .int x :: r) h cs ss = (¬ y = 0 ∧ K 689 L (.int (x / y) :: r) h cs ss) := by
  rw [dL_asks_688, ey_ok, nx_idiv_23]
theorem qL_asks_689 : ey F ini rt fin K0 K (decode cL_asks 689) 689 L (st) h cs ss = (K 693 L st h cs ss) := by
  rw [dL_asks_689, ey_ok, nx_goto_29]
  exact and_l (by unfold jok; decide)
theorem qL_asks_692 : ey F ini rt fin K0 K (decode cL_asks 692) 692 L (st) h cs ss = (K 693 L (.int 0 :: st) h cs ss) := by
  rw [dL_asks_692, ey_ok, nx_iconst_11] <;> rfl
theorem qL_asks_693 : ey F ini rt fin K0 K (decode cL_asks 693) 693 L (.int y :: .int x :: r) h cs ss = (K 694 L (.int (x + y) :: r) h cs ss) := by
  rw [dL_asks_693, ey_ok, nx_iadd_16]
theorem qL_asks_694 : ey F ini rt fin K0 K (decode cL_asks 694) 694 L (.int x :: r) h cs ss = (15 < L.length ∧ K 696 (L.set 15 (some (.int x))) r h cs ss) := by
  rw [dL_asks_694, ey_ok, nx_istore_4] <;> rfl
theorem qL_asks_696 : ey F ini rt fin K0 K (decode cL_asks 696) 696 L (st) h cs ss = (lhas L 19 ∧ isI (lgt L 19) ∧ K 699 (L.set 19 (some (inc (lgt L 19) 1))) st h cs ss) := by
  rw [dL_asks_696, ey_ok, nx_iinc_10] <;> rfl
theorem qL_asks_699 : ey F ini rt fin K0 K (decode cL_asks 699) 699 L (st) h cs ss = (K 647 L st h cs ss) := by
  rw [dL_asks_699, ey_ok, nx_goto_29]
  exact and_l (by unfold jok; decide)
theorem qL_asks_702 : ey F ini rt fin K0 K (decode cL_asks 702) 702 L (st) h cs ss = (lhas L 1 ∧ isI (lgt L 1) ∧ K 703 L (lgt L 1 :: st) h cs ss) := by
  rw [dL_asks_702, ey_ok, nx_iload_n_1] <;> rfl
theorem qL_asks_703 : ey F ini rt fin K0 K (decode cL_asks 703) 703 L (st) h cs ss = (K 705 L (.int 6 :: st) h cs ss) := by
  rw [dL_asks_703, ey_ok, nx_bipush_12] <;> rfl
theorem qL_asks_705 : ey F ini rt fin K0 K (decode cL_asks 705) 705 L (.int y :: .int x :: r) h cs ss = (K 706 L (.int (x >>> (y &&& 31)) :: r) h cs ss) := by
  rw [dL_asks_705, ey_ok, nx_ishr_21]
theorem qL_asks_706 : ey F ini rt fin K0 K (decode cL_asks 706) 706 L (st) h cs ss = (lhas L 2 ∧ isRf (lgt L 2) ∧ K 707 L (lgt L 2 :: st) h cs ss) := by
  rw [dL_asks_706, ey_ok, nx_aload_n_3] <;> rfl
theorem qL_asks_707 : ey F ini rt fin K0 K (decode cL_asks 707) 707 L (st) h cs ss = (K 708 L (.int 4 :: st) h cs ss) := by
  rw [dL_asks_707, ey_ok, nx_iconst_11] <;> rfl
theorem qL_asks_708 : ey F ini rt fin K0 K (decode cL_asks 708) 708 L (.int i :: .ref a :: r) h cs ss = (isA (h.1 a) (fun k m => k = 0 ∧ vp_in i m) ∧ K 709 L (h.2 a i.toNatClampNeg :: r) h cs ss) := by
  rw [dL_asks_708, ey_ok, nx_iaload_57]
theorem qL_asks_709 : ey F ini rt fin K0 K (decode cL_asks 709) 709 L (st) h cs ss = (K 710 L (.int 1 :: st) h cs ss) := by
  rw [dL_asks_709, ey_ok, nx_iconst_11] <;> rfl
theorem qL_asks_710 : ey F ini rt fin K0 K (decode cL_asks 710) 710 L (.int y :: .int x :: r) h cs ss = (K 711 L (.int (x + y) :: r) h cs ss) := by
  rw [dL_asks_710, ey_ok, nx_iadd_16]
theorem qL_asks_711 : ey F ini rt fin K0 K (decode cL_asks 711) 711 L (st) h cs ss = (K0 711 L st h cs ss) := by
  rw [dL_asks_711, ey_ok, nx_invokestatic_73]
theorem qL_asks_714 : ey F ini rt fin K0 K (decode cL_asks 714) 714 L (.int x :: r) h cs ss = (19 < L.length ∧ K 716 (L.set 19 (some (.int x))) r h cs ss) := by
  rw [dL_asks_714, ey_ok, nx_istore_4] <;> rfl
theorem qL_asks_716 : ey F ini rt fin K0 K (decode cL_asks 716) 716 L (st) h cs ss = (lhas L 0 ∧ isRf (lgt L 0) ∧ K 717 L (lgt L 0 :: st) h cs ss) := by
  rw [dL_asks_716, ey_ok, nx_aload_n_3] <;> rfl
theorem qL_asks_717 : ey F ini rt fin K0 K (decode cL_asks 717) 717 L (st) h cs ss = (K 719 L (.int 11 :: st) h cs ss) := by
  rw [dL_asks_717, ey_ok, nx_bipush_12] <;> rfl
theorem qL_asks_719 : ey F ini rt fin K0 K (decode cL_asks 719) 719 L (st) h cs ss = (lhas L 13 ∧ isI (lgt L 13) ∧ K 721 L (lgt L 13 :: st) h cs ss) := by
  rw [dL_asks_719, ey_ok, nx_iload_0] <;> rfl
theorem qL_asks_721 : ey F ini rt fin K0 K (decode cL_asks 721) 721 L (st) h cs ss = (K0 721 L st h cs ss) := by
  rw [dL_asks_721, ey_ok, nx_invokestatic_73]
theorem qL_asks_724 : ey F ini rt fin K0 K (decode cL_asks 724) 724 L (st) h cs ss = (lhas L 15 ∧ isI (lgt L 15) ∧ K 726 L (lgt L 15 :: st) h cs ss) := by
  rw [dL_asks_724, ey_ok, nx_iload_0] <;> rfl
theorem qL_asks_726 : ey F ini rt fin K0 K (decode cL_asks 726) 726 L (.int y :: .int x :: r) h cs ss = (if ¬ x = y then K 833 L r h cs ss else K 729 L r h cs ss) := by
  rw [dL_asks_726, ey_ok, nx_if_icmp_37]
  exact and_l (by unfold jok; decide)
theorem qL_asks_729 : ey F ini rt fin K0 K (decode cL_asks 729) 729 L (st) h cs ss = (lhas L 0 ∧ isRf (lgt L 0) ∧ K 730 L (lgt L 0 :: st) h cs ss) := by
  rw [dL_asks_729, ey_ok, nx_aload_n_3] <;> rfl
theorem qL_asks_730 : ey F ini rt fin K0 K (decode cL_asks 730) 730 L (st) h cs ss = (K 731 L (.int 4 :: st) h cs ss) := by
  rw [dL_asks_730, ey_ok, nx_iconst_11] <;> rfl
theorem qL_asks_731 : ey F ini rt fin K0 K (decode cL_asks 731) 731 L (st) h cs ss = (lhas L 13 ∧ isI (lgt L 13) ∧ K 733 L (lgt L 13 :: st) h cs ss) := by
  rw [dL_asks_731, ey_ok, nx_iload_0] <;> rfl
theorem qL_asks_733 : ey F ini rt fin K0 K (decode cL_asks 733) 733 L (st) h cs ss = (lhas L 14 ∧ isI (lgt L 14) ∧ K 735 L (lgt L 14 :: st) h cs ss) := by
  rw [dL_asks_733, ey_ok, nx_iload_0] <;> rfl
theorem qL_asks_735 : ey F ini rt fin K0 K (decode cL_asks 735) 735 L (st) h cs ss = (K0 735 L st h cs ss) := by
  rw [dL_asks_735, ey_ok, nx_invokestatic_73]
theorem qL_asks_738 : ey F ini rt fin K0 K (decode cL_asks 738) 738 L (st) h cs ss = (lhas L 14 ∧ isI (lgt L 14) ∧ K 740 L (lgt L 14 :: st) h cs ss) := by
  rw [dL_asks_738, ey_ok, nx_iload_0] <;> rfl
theorem qL_asks_740 : ey F ini rt fin K0 K (decode cL_asks 740) 740 L (st) h cs ss = (K 742 L (.int 11 :: st) h cs ss) := by
  rw [dL_asks_740, ey_ok, nx_bipush_12] <;> rfl
theorem qL_asks_742 : ey F ini rt fin K0 K (decode cL_asks 742) 742 L (.int y :: .int x :: r) h cs ss = (if x ≤ y then K 751 L r h cs ss else K 745 L r h cs ss) := by
  rw [dL_asks_742, ey_ok, nx_if_icmp_41]
  exact and_l (by unfold jok; decide)
theorem qL_asks_745 : ey F ini rt fin K0 K (decode cL_asks 745) 745 L (st) h cs ss = (K 748 L (.int (-1002) :: st) h cs ss) := by
  rw [dL_asks_745, ey_ok, nx_sipush_13] <;> rfl
theorem qL_asks_748 : ey F ini rt fin K0 K (decode cL_asks 748) 748 L (st) h cs ss = (K 753 L st h cs ss) := by
  rw [dL_asks_748, ey_ok, nx_goto_29]
  exact and_l (by unfold jok; decide)
theorem qL_asks_751 : ey F ini rt fin K0 K (decode cL_asks 751) 751 L (st) h cs ss = (lhas L 16 ∧ isI (lgt L 16) ∧ K 753 L (lgt L 16 :: st) h cs ss) := by
  rw [dL_asks_751, ey_ok, nx_iload_0] <;> rfl
theorem qL_asks_753 : ey F ini rt fin K0 K (decode cL_asks 753) 753 L (.int y :: .int x :: r) h cs ss = (if ¬ x = y then K 833 L r h cs ss else K 756 L r h cs ss) := by
  rw [dL_asks_753, ey_ok, nx_if_icmp_37]
  exact and_l (by unfold jok; decide)
theorem qL_asks_756 : ey F ini rt fin K0 K (decode cL_asks 756) 756 L (st) h cs ss = (lhas L 0 ∧ isRf (lgt L 0) ∧ K 757 L (lgt L 0 :: st) h cs ss) := by
  rw [dL_asks_756, ey_ok, nx_aload_n_3] <;> rfl
theorem qL_asks_757 : ey F ini rt fin K0 K (decode cL_asks 757) 757 L (st) h cs ss = (K 758 L (.int 2 :: st) h cs ss) := by
  rw [dL_asks_757, ey_ok, nx_iconst_11] <;> rfl
theorem qL_asks_758 : ey F ini rt fin K0 K (decode cL_asks 758) 758 L (st) h cs ss = (lhas L 13 ∧ isI (lgt L 13) ∧ K 760 L (lgt L 13 :: st) h cs ss) := by
  rw [dL_asks_758, ey_ok, nx_iload_0] <;> rfl
theorem qL_asks_760 : ey F ini rt fin K0 K (decode cL_asks 760) 760 L (st) h cs ss = (lhas L 17 ∧ isI (lgt L 17) ∧ K 762 L (lgt L 17 :: st) h cs ss) := by
  rw [dL_asks_760, ey_ok, nx_iload_0] <;> rfl
theorem qL_asks_762 : ey F ini rt fin K0 K (decode cL_asks 762) 762 L (st) h cs ss = (K0 762 L st h cs ss) := by
  rw [dL_asks_762, ey_ok, nx_invokestatic_73]
theorem qL_asks_765 : ey F ini rt fin K0 K (decode cL_asks 765) 765 L (st) h cs ss = (lhas L 18 ∧ isI (lgt L 18) ∧ K 767 L (lgt L 18 :: st) h cs ss) := by
  rw [dL_asks_765, ey_ok, nx_iload_0] <;> rfl
theorem qL_asks_767 : ey F ini rt fin K0 K (decode cL_asks 767) 767 L (.int y :: .int x :: r) h cs ss = (if ¬ x = y then K 833 L r h cs ss else K 770 L r h cs ss) := by
  rw [dL_asks_767, ey_ok, nx_if_icmp_37]
  exact and_l (by unfold jok; decide)
theorem qL_asks_770 : ey F ini rt fin K0 K (decode cL_asks 770) 770 L (st) h cs ss = (lhas L 0 ∧ isRf (lgt L 0) ∧ K 771 L (lgt L 0 :: st) h cs ss) := by
  rw [dL_asks_770, ey_ok, nx_aload_n_3] <;> rfl
theorem qL_asks_771 : ey F ini rt fin K0 K (decode cL_asks 771) 771 L (st) h cs ss = (K 772 L (.int 5 :: st) h cs ss) := by
  rw [dL_asks_771, ey_ok, nx_iconst_11] <;> rfl
theorem qL_asks_772 : ey F ini rt fin K0 K (decode cL_asks 772) 772 L (st) h cs ss = (lhas L 19 ∧ isI (lgt L 19) ∧ K 774 L (lgt L 19 :: st) h cs ss) := by
  rw [dL_asks_772, ey_ok, nx_iload_0] <;> rfl
theorem qL_asks_774 : ey F ini rt fin K0 K (decode cL_asks 774) 774 L (st) h cs ss = (K0 774 L st h cs ss) := by
  rw [dL_asks_774, ey_ok, nx_invokestatic_73]
theorem qL_asks_777 : ey F ini rt fin K0 K (decode cL_asks 777) 777 L (st) h cs ss = (lhas L 19 ∧ isI (lgt L 19) ∧ K 779 L (lgt L 19 :: st) h cs ss) := by
  rw [dL_asks_777, ey_ok, nx_iload_0] <;> rfl
theorem qL_asks_779 : ey F ini rt fin K0 K (decode cL_asks 779) 779 L (st) h cs ss = (lhas L 2 ∧ isRf (lgt L 2) ∧ K 780 L (lgt L 2 :: st) h cs ss) := by
  rw [dL_asks_779, ey_ok, nx_aload_n_3] <;> rfl
theorem qL_asks_780 : ey F ini rt fin K0 K (decode cL_asks 780) 780 L (st) h cs ss = (K 781 L (.int 4 :: st) h cs ss) := by
  rw [dL_asks_780, ey_ok, nx_iconst_11] <;> rfl
theorem qL_asks_781 : ey F ini rt fin K0 K (decode cL_asks 781) 781 L (.int i :: .ref a :: r) h cs ss = (isA (h.1 a) (fun k m => k = 0 ∧ vp_in i m) ∧ K 782 L (h.2 a i.toNatClampNeg :: r) h cs ss) := by
  rw [dL_asks_781, ey_ok, nx_iaload_57]
theorem qL_asks_782 : ey F ini rt fin K0 K (decode cL_asks 782) 782 L (.int y :: .int x :: r) h cs ss = (if y ≤ x then K 800 L r h cs ss else K 785 L r h cs ss) := by
  rw [dL_asks_782, ey_ok, nx_if_icmp_39]
  exact and_l (by unfold jok; decide)
theorem qL_asks_785 : ey F ini rt fin K0 K (decode cL_asks 785) 785 L (st) h cs ss = (lhas L 2 ∧ isRf (lgt L 2) ∧ K 786 L (lgt L 2 :: st) h cs ss) := by
  rw [dL_asks_785, ey_ok, nx_aload_n_3] <;> rfl
theorem qL_asks_786 : ey F ini rt fin K0 K (decode cL_asks 786) 786 L (st) h cs ss = (lhas L 4 ∧ isRf (lgt L 4) ∧ K 788 L (lgt L 4 :: st) h cs ss) := by
  rw [dL_asks_786, ey_ok, nx_aload_2] <;> rfl
theorem qL_asks_788 : ey F ini rt fin K0 K (decode cL_asks 788) 788 L (st) h cs ss = (lhas L 8 ∧ isRf (lgt L 8) ∧ K 790 L (lgt L 8 :: st) h cs ss) := by
  rw [dL_asks_788, ey_ok, nx_aload_2] <;> rfl
theorem qL_asks_790 : ey F ini rt fin K0 K (decode cL_asks 790) 790 L (st) h cs ss = (lhas L 9 ∧ isRf (lgt L 9) ∧ K 792 L (lgt L 9 :: st) h cs ss) := by
  rw [dL_asks_790, ey_ok, nx_aload_2] <;> rfl
theorem qL_asks_792 : ey F ini rt fin K0 K (decode cL_asks 792) 792 L (st) h cs ss = (lhas L 19 ∧ isI (lgt L 19) ∧ K 794 L (lgt L 19 :: st) h cs ss) := by
  rw [dL_asks_792, ey_ok, nx_iload_0] <;> rfl
theorem qL_asks_794 : ey F ini rt fin K0 K (decode cL_asks 794) 794 L (st) h cs ss = (K0 794 L st h cs ss) := by
  rw [dL_asks_794, ey_ok, nx_invokestatic_73]
theorem qL_asks_797 : ey F ini rt fin K0 K (decode cL_asks 797) 797 L (st) h cs ss = (K 803 L st h cs ss) := by
  rw [dL_asks_797, ey_ok, nx_goto_29]
  exact and_l (by unfold jok; decide)
theorem qL_asks_800 : ey F ini rt fin K0 K (decode cL_asks 800) 800 L (st) h cs ss = (K 803 L (.int (-1001) :: st) h cs ss) := by
  rw [dL_asks_800, ey_ok, nx_sipush_13] <;> rfl
theorem qL_asks_803 : ey F ini rt fin K0 K (decode cL_asks 803) 803 L (.int y :: .int x :: r) h cs ss = (if ¬ x = y then K 833 L r h cs ss else K 806 L r h cs ss) := by
  rw [dL_asks_803, ey_ok, nx_if_icmp_37]
  exact and_l (by unfold jok; decide)
theorem qL_asks_806 : ey F ini rt fin K0 K (decode cL_asks 806) 806 L (st) h cs ss = (lhas L 0 ∧ isRf (lgt L 0) ∧ K 807 L (lgt L 0 :: st) h cs ss) := by
  rw [dL_asks_806, ey_ok, nx_aload_n_3] <;> rfl
theorem qL_asks_807 : ey F ini rt fin K0 K (decode cL_asks 807) 807 L (st) h cs ss = (K0 807 L st h cs ss) := by
  rw [dL_asks_807, ey_ok, nx_invokevirtual_72]
theorem qL_asks_810 : ey F ini rt fin K0 K (decode cL_asks 810) 810 L (st) h cs ss = (lhas L 2 ∧ isRf (lgt L 2) ∧ K 811 L (lgt L 2 :: st) h cs ss) := by
  rw [dL_asks_810, ey_ok, nx_aload_n_3] <;> rfl
theorem qL_asks_811 : ey F ini rt fin K0 K (decode cL_asks 811) 811 L (st) h cs ss = (lhas L 8 ∧ isRf (lgt L 8) ∧ K 813 L (lgt L 8 :: st) h cs ss) := by
  rw [dL_asks_811, ey_ok, nx_aload_2] <;> rfl
theorem qL_asks_813 : ey F ini rt fin K0 K (decode cL_asks 813) 813 L (st) h cs ss = (K0 813 L st h cs ss) := by
  rw [dL_asks_813, ey_ok, nx_invokestatic_73]
theorem qL_asks_816 : ey F ini rt fin K0 K (decode cL_asks 816) 816 L (.int y :: .int x :: r) h cs ss = (if ¬ x = y then K 833 L r h cs ss else K 819 L r h cs ss) := by
  rw [dL_asks_816, ey_ok, nx_if_icmp_37]
  exact and_l (by unfold jok; decide)
theorem qL_asks_819 : ey F ini rt fin K0 K (decode cL_asks 819) 819 L (st) h cs ss = (lhas L 0 ∧ isRf (lgt L 0) ∧ K 820 L (lgt L 0 :: st) h cs ss) := by
  rw [dL_asks_819, ey_ok, nx_aload_n_3] <;> rfl
theorem qL_asks_820 : ey F ini rt fin K0 K (decode cL_asks 820) 820 L (st) h cs ss = (K0 820 L st h cs ss) := by
  rw [dL_asks_820, ey_ok, nx_invokevirtual_72]
theorem qL_asks_823 : ey F ini rt fin K0 K (decode cL_asks 823) 823 L (st) h cs ss = (lhas L 2 ∧ isRf (lgt L 2) ∧ K 824 L (lgt L 2 :: st) h cs ss) := by
  rw [dL_asks_823, ey_ok, nx_aload_n_3] <;> rfl
theorem qL_asks_824 : ey F ini rt fin K0 K (decode cL_asks 824) 824 L (st) h cs ss = (K 825 L (.int 3 :: st) h cs ss) := by
  rw [dL_asks_824, ey_ok, nx_iconst_11] <;> rfl
theorem qL_asks_825 : ey F ini rt fin K0 K (decode cL_asks 825) 825 L (.int i :: .ref a :: r) h cs ss = (isA (h.1 a) (fun k m => k = 0 ∧ vp_in i m) ∧ K 826 L (h.2 a i.toNatClampNeg :: r) h cs ss) := by
  rw [dL_asks_825, ey_ok, nx_iaload_57]
theorem qL_asks_826 : ey F ini rt fin K0 K (decode cL_asks 826) 826 L (.int y :: .int x :: r) h cs ss = (if ¬ x = y then K 833 L r h cs ss else K 829 L r h cs ss) := by
  rw [dL_asks_826, ey_ok, nx_if_icmp_37]
  exact and_l (by unfold jok; decide)
theorem qL_asks_829 : ey F ini rt fin K0 K (decode cL_asks 829) 829 L (st) h cs ss = (K 830 L (.int 1 :: st) h cs ss) := by
  rw [dL_asks_829, ey_ok, nx_iconst_11] <;> rfl
theorem qL_asks_830 : ey F ini rt fin K0 K (decode cL_asks 830) 830 L (st) h cs ss = (K 834 L st h cs ss) := by
  rw [dL_asks_830, ey_ok, nx_goto_29]
  exact and_l (by unfold jok; decide)
theorem qL_asks_833 : ey F ini rt fin K0 K (decode cL_asks 833) 833 L (st) h cs ss = (K 834 L (.int 0 :: st) h cs ss) := by
  rw [dL_asks_833, ey_ok, nx_iconst_11] <;> rfl
theorem qL_asks_834 : ey F ini rt fin K0 K (decode cL_asks 834) 834 L ([.int x]) h cs ss = (rokI rt x ∧ fin (some (.int x)) h cs ss) := by
  rw [dL_asks_834, ey_ok, nx_ireturn_68]
theorem qL_law_0 : ey F ini rt fin K0 K (decode cL_law 0) 0 L (st) h cs ss = (K0 0 L st h cs ss) := by
  rw [dL_law_0, ey_ok, nx_new_75]
theorem qL_law_3 : ey F ini rt fin K0 K (decode cL_law 3) 3 L (v :: r) h cs ss = (v.category = 1 ∧ K 4 L (v :: v :: r) h cs ss) := by
  rw [dL_law_3, ey_ok, nx_dup_27]
theorem qL_law_4 : ey F ini rt fin K0 K (decode cL_law 4) 4 L (st) h cs ss = (K0 4 L st h cs ss) := by
  rw [dL_law_4, ey_ok, nx_invokespecial_74]
theorem qL_law_7r : ey F ini rt fin K0 K (decode cL_law 7) 7 L (.ref a :: r) h cs ss = (1 < L.length ∧ K 8 (L.set 1 (some (.ref a))) r h cs ss) := by
  rw [dL_law_7, ey_ok, nx_astore_n_8] <;> rfl
theorem qL_law_7n : ey F ini rt fin K0 K (decode cL_law 7) 7 L (.null :: r) h cs ss = (1 < L.length ∧ K 8 (L.set 1 (some .null)) r h cs ss) := by
  rw [dL_law_7, ey_ok, nx_astore_n_9] <;> rfl
theorem qL_law_8 : ey F ini rt fin K0 K (decode cL_law 8) 8 L (st) h cs ss = (K 9 L (.int 5 :: st) h cs ss) := by
  rw [dL_law_8, ey_ok, nx_iconst_11] <;> rfl
theorem qL_law_9 : ey F ini rt fin K0 K (decode cL_law 9) 9 L (st) h cs ss = (K0 9 L st h cs ss) := by
  rw [dL_law_9, ey_ok, nx_newarray_76]
theorem qL_law_11r : ey F ini rt fin K0 K (decode cL_law 11) 11 L (.ref a :: r) h cs ss = (2 < L.length ∧ K 12 (L.set 2 (some (.ref a))) r h cs ss) := by
  rw [dL_law_11, ey_ok, nx_astore_n_8] <;> rfl
theorem qL_law_11n : ey F ini rt fin K0 K (decode cL_law 11) 11 L (.null :: r) h cs ss = (2 < L.length ∧ K 12 (L.set 2 (some .null)) r h cs ss) := by
  rw [dL_law_11, ey_ok, nx_astore_n_9] <;> rfl
theorem qL_law_12 : ey F ini rt fin K0 K (decode cL_law 12) 12 L (st) h cs ss = (K 14 L (.int 8 :: st) h cs ss) := by
  rw [dL_law_12, ey_ok, nx_bipush_12] <;> rfl
theorem qL_law_14 : ey F ini rt fin K0 K (decode cL_law 14) 14 L (st) h cs ss = (K0 14 L st h cs ss) := by
  rw [dL_law_14, ey_ok, nx_newarray_76]
theorem qL_law_16r : ey F ini rt fin K0 K (decode cL_law 16) 16 L (.ref a :: r) h cs ss = (3 < L.length ∧ K 17 (L.set 3 (some (.ref a))) r h cs ss) := by
  rw [dL_law_16, ey_ok, nx_astore_n_8] <;> rfl
theorem qL_law_16n : ey F ini rt fin K0 K (decode cL_law 16) 16 L (.null :: r) h cs ss = (3 < L.length ∧ K 17 (L.set 3 (some .null)) r h cs ss) := by
  rw [dL_law_16, ey_ok, nx_astore_n_9] <;> rfl
theorem qL_law_17 : ey F ini rt fin K0 K (decode cL_law 17) 17 L (st) h cs ss = (K 19 L (.int 60 :: st) h cs ss) := by
  rw [dL_law_17, ey_ok, nx_bipush_12] <;> rfl
theorem qL_law_19 : ey F ini rt fin K0 K (decode cL_law 19) 19 L (st) h cs ss = (K0 19 L st h cs ss) := by
  rw [dL_law_19, ey_ok, nx_newarray_76]
theorem qL_law_21r : ey F ini rt fin K0 K (decode cL_law 21) 21 L (.ref a :: r) h cs ss = (4 < L.length ∧ K 23 (L.set 4 (some (.ref a))) r h cs ss) := by
  rw [dL_law_21, ey_ok, nx_astore_6] <;> rfl
theorem qL_law_21n : ey F ini rt fin K0 K (decode cL_law 21) 21 L (.null :: r) h cs ss = (4 < L.length ∧ K 23 (L.set 4 (some .null)) r h cs ss) := by
  rw [dL_law_21, ey_ok, nx_astore_7] <;> rfl
theorem qL_law_23 : ey F ini rt fin K0 K (decode cL_law 23) 23 L (st) h cs ss = (K 25 L (.int 20 :: st) h cs ss) := by
  rw [dL_law_23, ey_ok, nx_bipush_12] <;> rfl
theorem qL_law_25 : ey F ini rt fin K0 K (decode cL_law 25) 25 L (st) h cs ss = (K0 25 L st h cs ss) := by
  rw [dL_law_25, ey_ok, nx_newarray_76]
theorem qL_law_27r : ey F ini rt fin K0 K (decode cL_law 27) 27 L (.ref a :: r) h cs ss = (5 < L.length ∧ K 29 (L.set 5 (some (.ref a))) r h cs ss) := by
  rw [dL_law_27, ey_ok, nx_astore_6] <;> rfl
theorem qL_law_27n : ey F ini rt fin K0 K (decode cL_law 27) 27 L (.null :: r) h cs ss = (5 < L.length ∧ K 29 (L.set 5 (some .null)) r h cs ss) := by
  rw [dL_law_27, ey_ok, nx_astore_7] <;> rfl
theorem qL_law_29 : ey F ini rt fin K0 K (decode cL_law 29) 29 L (st) h cs ss = (K 31 L (.int 64 :: st) h cs ss) := by
  rw [dL_law_29, ey_ok, nx_bipush_12] <;> rfl
theorem qL_law_31 : ey F ini rt fin K0 K (decode cL_law 31) 31 L (st) h cs ss = (K0 31 L st h cs ss) := by
  rw [dL_law_31, ey_ok, nx_newarray_76]
theorem qL_law_33r : ey F ini rt fin K0 K (decode cL_law 33) 33 L (.ref a :: r) h cs ss = (6 < L.length ∧ K 35 (L.set 6 (some (.ref a))) r h cs ss) := by
  rw [dL_law_33, ey_ok, nx_astore_6] <;> rfl
theorem qL_law_33n : ey F ini rt fin K0 K (decode cL_law 33) 33 L (.null :: r) h cs ss = (6 < L.length ∧ K 35 (L.set 6 (some .null)) r h cs ss) := by
  rw [dL_law_33, ey_ok, nx_astore_7] <;> rfl
theorem qL_law_35 : ey F ini rt fin K0 K (decode cL_law 35) 35 L (st) h cs ss = (K 37 L (.int 64 :: st) h cs ss) := by
  rw [dL_law_35, ey_ok, nx_bipush_12] <;> rfl
theorem qL_law_37 : ey F ini rt fin K0 K (decode cL_law 37) 37 L (st) h cs ss = (K0 37 L st h cs ss) := by
  rw [dL_law_37, ey_ok, nx_newarray_76]
theorem qL_law_39r : ey F ini rt fin K0 K (decode cL_law 39) 39 L (.ref a :: r) h cs ss = (7 < L.length ∧ K 41 (L.set 7 (some (.ref a))) r h cs ss) := by
  rw [dL_law_39, ey_ok, nx_astore_6] <;> rfl
theorem qL_law_39n : ey F ini rt fin K0 K (decode cL_law 39) 39 L (.null :: r) h cs ss = (7 < L.length ∧ K 41 (L.set 7 (some .null)) r h cs ss) := by
  rw [dL_law_39, ey_ok, nx_astore_7] <;> rfl
theorem qL_law_41 : ey F ini rt fin K0 K (decode cL_law 41) 41 L (st) h cs ss = (K 43 L (.int 36 :: st) h cs ss) := by
  rw [dL_law_41, ey_ok, nx_bipush_12] <;> rfl
theorem qL_law_43 : ey F ini rt fin K0 K (decode cL_law 43) 43 L (st) h cs ss = (K0 43 L st h cs ss) := by
  rw [dL_law_43, ey_ok, nx_newarray_76]
theorem qL_law_45r : ey F ini rt fin K0 K (decode cL_law 45) 45 L (.ref a :: r) h cs ss = (8 < L.length ∧ K 47 (L.set 8 (some (.ref a))) r h cs ss) := by
  rw [dL_law_45, ey_ok, nx_astore_6] <;> rfl
theorem qL_law_45n : ey F ini rt fin K0 K (decode cL_law 45) 45 L (.null :: r) h cs ss = (8 < L.length ∧ K 47 (L.set 8 (some .null)) r h cs ss) := by
  rw [dL_law_45, ey_ok, nx_astore_7] <;> rfl
theorem qL_law_47 : ey F ini rt fin K0 K (decode cL_law 47) 47 L (st) h cs ss = (K 48 L (.int 0 :: st) h cs ss) := by
  rw [dL_law_47, ey_ok, nx_iconst_11] <;> rfl
theorem qL_law_48 : ey F ini rt fin K0 K (decode cL_law 48) 48 L (.int x :: r) h cs ss = (9 < L.length ∧ K 50 (L.set 9 (some (.int x))) r h cs ss) := by
  rw [dL_law_48, ey_ok, nx_istore_4] <;> rfl
theorem qL_law_50 : ey F ini rt fin K0 K (decode cL_law 50) 50 L (st) h cs ss = (lhas L 9 ∧ isI (lgt L 9) ∧ K 52 L (lgt L 9 :: st) h cs ss) := by
  rw [dL_law_50, ey_ok, nx_iload_0] <;> rfl
theorem qL_law_52 : ey F ini rt fin K0 K (decode cL_law 52) 52 L (st) h cs ss = (K 53 L (.int 4 :: st) h cs ss) := by
  rw [dL_law_52, ey_ok, nx_iconst_11] <;> rfl
theorem qL_law_53 : ey F ini rt fin K0 K (decode cL_law 53) 53 L (.int y :: .int x :: r) h cs ss = (if y ≤ x then K 94 L r h cs ss else K 56 L r h cs ss) := by
  rw [dL_law_53, ey_ok, nx_if_icmp_39]
  exact and_l (by unfold jok; decide)
theorem qL_law_56 : ey F ini rt fin K0 K (decode cL_law 56) 56 L (st) h cs ss = (lhas L 3 ∧ isRf (lgt L 3) ∧ K 57 L (lgt L 3 :: st) h cs ss) := by
  rw [dL_law_56, ey_ok, nx_aload_n_3] <;> rfl
theorem qL_law_57 : ey F ini rt fin K0 K (decode cL_law 57) 57 L (st) h cs ss = (lhas L 9 ∧ isI (lgt L 9) ∧ K 59 L (lgt L 9 :: st) h cs ss) := by
  rw [dL_law_57, ey_ok, nx_iload_0] <;> rfl
theorem qL_law_59 : ey F ini rt fin K0 K (decode cL_law 59) 59 L (st) h cs ss = (K 61 L (.int 15 :: st) h cs ss) := by
  rw [dL_law_59, ey_ok, nx_bipush_12] <;> rfl
theorem qL_law_61 : ey F ini rt fin K0 K (decode cL_law 61) 61 L (.int x :: .int i :: .ref a :: r) h cs ss = (isA (h.1 a) (fun k m => k = 0 ∧ vp_in i m) ∧ K 62 L r (h.1, hup h.2 a i.toNatClampNeg (.int x)) cs ss) := by
  rw [dL_law_61, ey_ok, nx_iastore_62]
theorem qL_law_62 : ey F ini rt fin K0 K (decode cL_law 62) 62 L (st) h cs ss = (lhas L 3 ∧ isRf (lgt L 3) ∧ K 63 L (lgt L 3 :: st) h cs ss) := by
  rw [dL_law_62, ey_ok, nx_aload_n_3] <;> rfl
theorem qL_law_63 : ey F ini rt fin K0 K (decode cL_law 63) 63 L (st) h cs ss = (K 64 L (.int 4 :: st) h cs ss) := by
  rw [dL_law_63, ey_ok, nx_iconst_11] <;> rfl
theorem qL_law_64 : ey F ini rt fin K0 K (decode cL_law 64) 64 L (st) h cs ss = (lhas L 9 ∧ isI (lgt L 9) ∧ K 66 L (lgt L 9 :: st) h cs ss) := by
  rw [dL_law_64, ey_ok, nx_iload_0] <;> rfl
theorem qL_law_66 : ey F ini rt fin K0 K (decode cL_law 66) 66 L (.int y :: .int x :: r) h cs ss = (K 67 L (.int (x + y) :: r) h cs ss) := by
  rw [dL_law_66, ey_ok, nx_iadd_16]
theorem qL_law_67 : ey F ini rt fin K0 K (decode cL_law 67) 67 L (st) h cs ss = (K 69 L (.int 10 :: st) h cs ss) := by
  rw [dL_law_67, ey_ok, nx_bipush_12] <;> rfl
theorem qL_law_69 : ey F ini rt fin K0 K (decode cL_law 69) 69 L (.int x :: .int i :: .ref a :: r) h cs ss = (isA (h.1 a) (fun k m => k = 0 ∧ vp_in i m) ∧ K 70 L r (h.1, hup h.2 a i.toNatClampNeg (.int x)) cs ss) := by
  rw [dL_law_69, ey_ok, nx_iastore_62]
theorem qL_law_70 : ey F ini rt fin K0 K (decode cL_law 70) 70 L (st) h cs ss = (lhas L 1 ∧ isRf (lgt L 1) ∧ K 71 L (lgt L 1 :: st) h cs ss) := by
  rw [dL_law_70, ey_ok, nx_aload_n_3] <;> rfl
theorem qL_law_71 : ey F ini rt fin K0 K (decode cL_law 71) 71 L (st) h cs ss = (K 72 L (.int 0 :: st) h cs ss) := by
  rw [dL_law_71, ey_ok, nx_iconst_11] <;> rfl
theorem qL_law_72 : ey F ini rt fin K0 K (decode cL_law 72) 72 L (st) h cs ss = (lhas L 9 ∧ isI (lgt L 9) ∧ K 74 L (lgt L 9 :: st) h cs ss) := by
  rw [dL_law_72, ey_ok, nx_iload_0] <;> rfl
theorem qL_law_74 : ey F ini rt fin K0 K (decode cL_law 74) 74 L (st) h cs ss = (K 76 L (.int 15 :: st) h cs ss) := by
  rw [dL_law_74, ey_ok, nx_bipush_12] <;> rfl
theorem qL_law_76 : ey F ini rt fin K0 K (decode cL_law 76) 76 L (st) h cs ss = (K 78 L (.int 10 :: st) h cs ss) := by
  rw [dL_law_76, ey_ok, nx_bipush_12] <;> rfl
theorem qL_law_78 : ey F ini rt fin K0 K (decode cL_law 78) 78 L (st) h cs ss = (K0 78 L st h cs ss) := by
  rw [dL_law_78, ey_ok, nx_invokestatic_73]
theorem qL_law_81 : ey F ini rt fin K0 K (decode cL_law 81) 81 L (st) h cs ss = (K 83 L (.int 10 :: st) h cs ss) := by
  rw [dL_law_81, ey_ok, nx_bipush_12] <;> rfl
theorem qL_law_83 : ey F ini rt fin K0 K (decode cL_law 83) 83 L (.int y :: .int x :: r) h cs ss = (if x = y then K 88 L r h cs ss else K 86 L r h cs ss) := by
  rw [dL_law_83, ey_ok, nx_if_icmp_36]
  exact and_l (by unfold jok; decide)
theorem qL_law_86 : ey F ini rt fin K0 K (decode cL_law 86) 86 L (st) h cs ss = (K 87 L (.int 0 :: st) h cs ss) := by
  rw [dL_law_86, ey_ok, nx_iconst_11] <;> rfl
theorem qL_law_87 : ey F ini rt fin K0 K (decode cL_law 87) 87 L ([.int x]) h cs ss = (rokI rt x ∧ fin (some (.int x)) h cs ss) := by
  rw [dL_law_87, ey_ok, nx_ireturn_68]
theorem qL_law_88 : ey F ini rt fin K0 K (decode cL_law 88) 88 L (st) h cs ss = (lhas L 9 ∧ isI (lgt L 9) ∧ K 91 (L.set 9 (some (inc (lgt L 9) 1))) st h cs ss) := by
  rw [dL_law_88, ey_ok, nx_iinc_10] <;> rfl
theorem qL_law_91 : ey F ini rt fin K0 K (decode cL_law 91) 91 L (st) h cs ss = (K 50 L st h cs ss) := by
  rw [dL_law_91, ey_ok, nx_goto_29]
  exact and_l (by unfold jok; decide)
theorem qL_law_94 : ey F ini rt fin K0 K (decode cL_law 94) 94 L (st) h cs ss = (K 95 L (.int 0 :: st) h cs ss) := by
  rw [dL_law_94, ey_ok, nx_iconst_11] <;> rfl
theorem qL_law_95 : ey F ini rt fin K0 K (decode cL_law 95) 95 L (.int x :: r) h cs ss = (9 < L.length ∧ K 97 (L.set 9 (some (.int x))) r h cs ss) := by
  rw [dL_law_95, ey_ok, nx_istore_4] <;> rfl
theorem qL_law_97 : ey F ini rt fin K0 K (decode cL_law 97) 97 L (st) h cs ss = (lhas L 9 ∧ isI (lgt L 9) ∧ K 99 L (lgt L 9 :: st) h cs ss) := by
  rw [dL_law_97, ey_ok, nx_iload_0] <;> rfl
theorem qL_law_99 : ey F ini rt fin K0 K (decode cL_law 99) 99 L (st) h cs ss = (K 101 L (.int 90 :: st) h cs ss) := by
  rw [dL_law_99, ey_ok, nx_bipush_12] <;> rfl
theorem qL_law_101 : ey F ini rt fin K0 K (decode cL_law 101) 101 L (.int y :: .int x :: r) h cs ss = (if y ≤ x then K 560 L r h cs ss else K 104 L r h cs ss) := by
  rw [dL_law_101, ey_ok, nx_if_icmp_39]
  exact and_l (by unfold jok; decide)
theorem qL_law_104 : ey F ini rt fin K0 K (decode cL_law 104) 104 L (st) h cs ss = (lhas L 2 ∧ isRf (lgt L 2) ∧ K 105 L (lgt L 2 :: st) h cs ss) := by
  rw [dL_law_104, ey_ok, nx_aload_n_3] <;> rfl
theorem qL_law_105 : ey F ini rt fin K0 K (decode cL_law 105) 105 L (st) h cs ss = (K 106 L (.int 3 :: st) h cs ss) := by
  rw [dL_law_105, ey_ok, nx_iconst_11] <;> rfl
theorem qL_law_106 : ey F ini rt fin K0 K (decode cL_law 106) 106 L (.int i :: .ref a :: r) h cs ss = (isA (h.1 a) (fun k m => k = 0 ∧ vp_in i m) ∧ K 107 L (h.2 a i.toNatClampNeg :: r) h cs ss) := by
  rw [dL_law_106, ey_ok, nx_iaload_57]
theorem qL_law_107 : ey F ini rt fin K0 K (decode cL_law 107) 107 L (st) h cs ss = (K 109 L (.int 24 :: st) h cs ss) := by
  rw [dL_law_107, ey_ok, nx_bipush_12] <;> rfl
theorem qL_law_109 : ey F ini rt fin K0 K (decode cL_law 109) 109 L (.int y :: .int x :: r) h cs ss = (if y ≤ x then K 560 L r h cs ss else K 112 L r h cs ss) := by
  rw [dL_law_109, ey_ok, nx_if_icmp_39]
  exact and_l (by unfold jok; decide)
theorem qL_law_112 : ey F ini rt fin K0 K (decode cL_law 112) 112 L (st) h cs ss = (lhas L 0 ∧ isRf (lgt L 0) ∧ K 113 L (lgt L 0 :: st) h cs ss) := by
  rw [dL_law_112, ey_ok, nx_aload_n_3] <;> rfl
theorem qL_law_113 : ey F ini rt fin K0 K (decode cL_law 113) 113 L (st) h cs ss = (lhas L 9 ∧ isI (lgt L 9) ∧ K 115 L (lgt L 9 :: st) h cs ss) := by
  rw [dL_law_113, ey_ok, nx_iload_0] <;> rfl
theorem qL_law_115 : ey F ini rt fin K0 K (decode cL_law 115) 115 L (st) h cs ss = (K 117 L (.int 83 :: st) h cs ss) := by
  rw [dL_law_115, ey_ok, nx_bipush_12] <;> rfl
theorem qL_law_117 : ey F ini rt fin K0 K (decode cL_law 117) 117 L (.int y :: .int x :: r) h cs ss = (¬ y = 0 ∧ K 118 L (.int (x - x / y * y) :: r) h cs ss) := by
  rw [dL_law_117, ey_ok, nx_irem_81]
theorem qL_law_118 : ey F ini rt fin K0 K (decode cL_law 118) 118 L (st) h cs ss = (K0 118 L st h cs ss) := by
  rw [dL_law_118, ey_ok, nx_invokestatic_73]
theorem qL_law_121 : ey F ini rt fin K0 K (decode cL_law 121) 121 L (st) h cs ss = (lhas L 9 ∧ isI (lgt L 9) ∧ K 123 L (lgt L 9 :: st) h cs ss) := by
  rw [dL_law_121, ey_ok, nx_iload_0] <;> rfl
theorem qL_law_123 : ey F ini rt fin K0 K (decode cL_law 123) 123 L (st) h cs ss = (K0 123 L st h cs ss) := by
  rw [dL_law_123, ey_ok, nx_ldc_79]
theorem qL_law_125 : ey F ini rt fin K0 K (decode cL_law 125) 125 L (.int y :: .int x :: r) h cs ss = (K 126 L (.int (x * y) :: r) h cs ss) := by
  rw [dL_law_125, ey_ok, nx_imul_18]
theorem qL_law_126 : ey F ini rt fin K0 K (decode cL_law 126) 126 L (.int y :: .int x :: r) h cs ss = (K 127 L (.int (x ^^^ y) :: r) h cs ss) := by
  rw [dL_law_126, ey_ok, nx_ixor_82]
theorem qL_law_127 : ey F ini rt fin K0 K (decode cL_law 127) 127 L (.int x :: r) h cs ss = (10 < L.length ∧ K 129 (L.set 10 (some (.int x))) r h cs ss) := by
  rw [dL_law_127, ey_ok, nx_istore_4] <;> rfl
theorem qL_law_129 : ey F ini rt fin K0 K (decode cL_law 129) 129 L (st) h cs ss = (lhas L 10 ∧ isI (lgt L 10) ∧ K 131 L (lgt L 10 :: st) h cs ss) := by
  rw [dL_law_129, ey_ok, nx_iload_0] <;> rfl
theorem qL_law_131 : ey F ini rt fin K0 K (decode cL_law 131) 131 L (st) h cs ss = (K 132 L (.int 4 :: st) h cs ss) := by
  rw [dL_law_131, ey_ok, nx_iconst_11] <;> rfl
theorem qL_law_132 : ey F ini rt fin K0 K (decode cL_law 132) 132 L (.int y :: .int x :: r) h cs ss = (K 133 L (.int (x >>> (y &&& 31)) :: r) h cs ss) := by
  rw [dL_law_132, ey_ok, nx_ishr_21]
theorem qL_law_133 : ey F ini rt fin K0 K (decode cL_law 133) 133 L (.int x :: r) h cs ss = (11 < L.length ∧ K 135 (L.set 11 (some (.int x))) r h cs ss) := by
  rw [dL_law_133, ey_ok, nx_istore_4] <;> rfl
theorem qL_law_135 : ey F ini rt fin K0 K (decode cL_law 135) 135 L (st) h cs ss = (lhas L 10 ∧ isI (lgt L 10) ∧ K 137 L (lgt L 10 :: st) h cs ss) := by
  rw [dL_law_135, ey_ok, nx_iload_0] <;> rfl
theorem qL_law_137 : ey F ini rt fin K0 K (decode cL_law 137) 137 L (st) h cs ss = (K 139 L (.int 40 :: st) h cs ss) := by
  rw [dL_law_137, ey_ok, nx_bipush_12] <;> rfl
theorem qL_law_139 : ey F ini rt fin K0 K (decode cL_law 139) 139 L (st) h cs ss = (K0 139 L st h cs ss) := by
  rw [dL_law_139, ey_ok, nx_invokestatic_73]
theorem qL_law_142 : ey F ini rt fin K0 K (decode cL_law 142) 142 L (.int x :: r) h cs ss = (12 < L.length ∧ K 144 (L.set 12 (some (.int x))) r h cs ss) := by
  rw [dL_law_142, ey_ok, nx_istore_4] <;> rfl
theorem qL_law_144 : ey F ini rt fin K0 K (decode cL_law 144) 144 L (st) h cs ss = (lhas L 9 ∧ isI (lgt L 9) ∧ K 146 L (lgt L 9 :: st) h cs ss) := by
  rw [dL_law_144, ey_ok, nx_iload_0] <;> rfl
theorem qL_law_146 : ey F ini rt fin K0 K (decode cL_law 146) 146 L (st) h cs ss = (K 148 L (.int 6 :: st) h cs ss) := by
  rw [dL_law_146, ey_ok, nx_bipush_12] <;> rfl
theorem qL_law_148 : ey F ini rt fin K0 K (decode cL_law 148) 148 L (.int y :: .int x :: r) h cs ss = (if y ≤ x then K 173 L r h cs ss else K 151 L r h cs ss) := by
  rw [dL_law_148, ey_ok, nx_if_icmp_39]
  exact and_l (by unfold jok; decide)
theorem qL_law_151 : ey F ini rt fin K0 K (decode cL_law 151) 151 L (st) h cs ss = (lhas L 1 ∧ isRf (lgt L 1) ∧ K 152 L (lgt L 1 :: st) h cs ss) := by
  rw [dL_law_151, ey_ok, nx_aload_n_3] <;> rfl
theorem qL_law_152 : ey F ini rt fin K0 K (decode cL_law 152) 152 L (st) h cs ss = (K 153 L (.int 1 :: st) h cs ss) := by
  rw [dL_law_152, ey_ok, nx_iconst_11] <;> rfl
theorem qL_law_153 : ey F ini rt fin K0 K (decode cL_law 153) 153 L (st) h cs ss = (lhas L 11 ∧ isI (lgt L 11) ∧ K 155 L (lgt L 11 :: st) h cs ss) := by
  rw [dL_law_153, ey_ok, nx_iload_0] <;> rfl
theorem qL_law_155 : ey F ini rt fin K0 K (decode cL_law 155) 155 L (st) h cs ss = (lhas L 2 ∧ isRf (lgt L 2) ∧ K 156 L (lgt L 2 :: st) h cs ss) := by
  rw [dL_law_155, ey_ok, nx_aload_n_3] <;> rfl
theorem qL_law_156 : ey F ini rt fin K0 K (decode cL_law 156) 156 L (st) h cs ss = (lhas L 3 ∧ isRf (lgt L 3) ∧ K 157 L (lgt L 3 :: st) h cs ss) := by
  rw [dL_law_156, ey_ok, nx_aload_n_3] <;> rfl
theorem qL_law_157 : ey F ini rt fin K0 K (decode cL_law 157) 157 L (st) h cs ss = (lhas L 4 ∧ isRf (lgt L 4) ∧ K 159 L (lgt L 4 :: st) h cs ss) := by
  rw [dL_law_157, ey_ok, nx_aload_2] <;> rfl
theorem qL_law_159 : ey F ini rt fin K0 K (decode cL_law 159) 159 L (st) h cs ss = (lhas L 5 ∧ isRf (lgt L 5) ∧ K 161 L (lgt L 5 :: st) h cs ss) := by
  rw [dL_law_159, ey_ok, nx_aload_2] <;> rfl
theorem qL_law_161 : ey F ini rt fin K0 K (decode cL_law 161) 161 L (st) h cs ss = (lhas L 6 ∧ isRf (lgt L 6) ∧ K 163 L (lgt L 6 :: st) h cs ss) := by
  rw [dL_law_161, ey_ok, nx_aload_2] <;> rfl
theorem qL_law_163 : ey F ini rt fin K0 K (decode cL_law 163) 163 L (st) h cs ss = (lhas L 7 ∧ isRf (lgt L 7) ∧ K 165 L (lgt L 7 :: st) h cs ss) := by
  rw [dL_law_163, ey_ok, nx_aload_2] <;> rfl
theorem qL_law_165 : ey F ini rt fin K0 K (decode cL_law 165) 165 L (st) h cs ss = (lhas L 8 ∧ isRf (lgt L 8) ∧ K 167 L (lgt L 8 :: st) h cs ss) := by
  rw [dL_law_165, ey_ok, nx_aload_2] <;> rfl
theorem qL_law_167 : ey F ini rt fin K0 K (decode cL_law 167) 167 L (st) h cs ss = (K0 167 L st h cs ss) := by
  rw [dL_law_167, ey_ok, nx_invokestatic_73]
theorem qL_law_170 : ey F ini rt fin K0 K (decode cL_law 170) 170 L (st) h cs ss = (K 524 L st h cs ss) := by
  rw [dL_law_170, ey_ok, nx_goto_29]
  exact and_l (by unfold jok; decide)
theorem qL_law_173 : ey F ini rt fin K0 K (decode cL_law 173) 173 L (st) h cs ss = (lhas L 9 ∧ isI (lgt L 9) ∧ K 175 L (lgt L 9 :: st) h cs ss) := by
  rw [dL_law_173, ey_ok, nx_iload_0] <;> rfl
theorem qL_law_175 : ey F ini rt fin K0 K (decode cL_law 175) 175 L (st) h cs ss = (K 177 L (.int 9 :: st) h cs ss) := by
  rw [dL_law_175, ey_ok, nx_bipush_12] <;> rfl
theorem qL_law_177 : ey F ini rt fin K0 K (decode cL_law 177) 177 L (.int y :: .int x :: r) h cs ss = (if y ≤ x then K 198 L r h cs ss else K 180 L r h cs ss) := by
  rw [dL_law_177, ey_ok, nx_if_icmp_39]
  exact and_l (by unfold jok; decide)
theorem qL_law_180 : ey F ini rt fin K0 K (decode cL_law 180) 180 L (st) h cs ss = (lhas L 1 ∧ isRf (lgt L 1) ∧ K 181 L (lgt L 1 :: st) h cs ss) := by
  rw [dL_law_180, ey_ok, nx_aload_n_3] <;> rfl
theorem qL_law_181 : ey F ini rt fin K0 K (decode cL_law 181) 181 L (st) h cs ss = (lhas L 11 ∧ isI (lgt L 11) ∧ K 183 L (lgt L 11 :: st) h cs ss) := by
  rw [dL_law_181, ey_ok, nx_iload_0] <;> rfl
theorem qL_law_183 : ey F ini rt fin K0 K (decode cL_law 183) 183 L (st) h cs ss = (lhas L 2 ∧ isRf (lgt L 2) ∧ K 184 L (lgt L 2 :: st) h cs ss) := by
  rw [dL_law_183, ey_ok, nx_aload_n_3] <;> rfl
theorem qL_law_184 : ey F ini rt fin K0 K (decode cL_law 184) 184 L (st) h cs ss = (lhas L 4 ∧ isRf (lgt L 4) ∧ K 186 L (lgt L 4 :: st) h cs ss) := by
  rw [dL_law_184, ey_ok, nx_aload_2] <;> rfl
theorem qL_law_186 : ey F ini rt fin K0 K (decode cL_law 186) 186 L (st) h cs ss = (lhas L 5 ∧ isRf (lgt L 5) ∧ K 188 L (lgt L 5 :: st) h cs ss) := by
  rw [dL_law_186, ey_ok, nx_aload_2] <;> rfl
theorem qL_law_188 : ey F ini rt fin K0 K (decode cL_law 188) 188 L (st) h cs ss = (lhas L 6 ∧ isRf (lgt L 6) ∧ K 190 L (lgt L 6 :: st) h cs ss) := by
  rw [dL_law_188, ey_ok, nx_aload_2] <;> rfl
theorem qL_law_190 : ey F ini rt fin K0 K (decode cL_law 190) 190 L (st) h cs ss = (lhas L 7 ∧ isRf (lgt L 7) ∧ K 192 L (lgt L 7 :: st) h cs ss) := by
  rw [dL_law_190, ey_ok, nx_aload_2] <;> rfl
theorem qL_law_192 : ey F ini rt fin K0 K (decode cL_law 192) 192 L (st) h cs ss = (K0 192 L st h cs ss) := by
  rw [dL_law_192, ey_ok, nx_invokestatic_73]
theorem qL_law_195 : ey F ini rt fin K0 K (decode cL_law 195) 195 L (st) h cs ss = (K 524 L st h cs ss) := by
  rw [dL_law_195, ey_ok, nx_goto_29]
  exact and_l (by unfold jok; decide)
theorem qL_law_198 : ey F ini rt fin K0 K (decode cL_law 198) 198 L (st) h cs ss = (lhas L 12 ∧ isI (lgt L 12) ∧ K 200 L (lgt L 12 :: st) h cs ss) := by
  rw [dL_law_198, ey_ok, nx_iload_0] <;> rfl
theorem qL_law_200 : ey F ini rt fin K0 K (decode cL_law 200) 200 L (st) h cs ss = (K 201 L (.int 2 :: st) h cs ss) := by
  rw [dL_law_200, ey_ok, nx_iconst_11] <;> rfl
theorem qL_law_201 : ey F ini rt fin K0 K (decode cL_law 201) 201 L (.int y :: .int x :: r) h cs ss = (if y ≤ x then K 226 L r h cs ss else K 204 L r h cs ss) := by
  rw [dL_law_201, ey_ok, nx_if_icmp_39]
  exact and_l (by unfold jok; decide)
theorem qL_law_204 : ey F ini rt fin K0 K (decode cL_law 204) 204 L (st) h cs ss = (lhas L 1 ∧ isRf (lgt L 1) ∧ K 205 L (lgt L 1 :: st) h cs ss) := by
  rw [dL_law_204, ey_ok, nx_aload_n_3] <;> rfl
theorem qL_law_205 : ey F ini rt fin K0 K (decode cL_law 205) 205 L (st) h cs ss = (K 206 L (.int 0 :: st) h cs ss) := by
  rw [dL_law_205, ey_ok, nx_iconst_11] <;> rfl
theorem qL_law_206 : ey F ini rt fin K0 K (decode cL_law 206) 206 L (st) h cs ss = (lhas L 11 ∧ isI (lgt L 11) ∧ K 208 L (lgt L 11 :: st) h cs ss) := by
  rw [dL_law_206, ey_ok, nx_iload_0] <;> rfl
theorem qL_law_208 : ey F ini rt fin K0 K (decode cL_law 208) 208 L (st) h cs ss = (lhas L 2 ∧ isRf (lgt L 2) ∧ K 209 L (lgt L 2 :: st) h cs ss) := by
  rw [dL_law_208, ey_ok, nx_aload_n_3] <;> rfl
theorem qL_law_209 : ey F ini rt fin K0 K (decode cL_law 209) 209 L (st) h cs ss = (lhas L 3 ∧ isRf (lgt L 3) ∧ K 210 L (lgt L 3 :: st) h cs ss) := by
  rw [dL_law_209, ey_ok, nx_aload_n_3] <;> rfl
theorem qL_law_210 : ey F ini rt fin K0 K (decode cL_law 210) 210 L (st) h cs ss = (lhas L 4 ∧ isRf (lgt L 4) ∧ K 212 L (lgt L 4 :: st) h cs ss) := by
  rw [dL_law_210, ey_ok, nx_aload_2] <;> rfl
theorem qL_law_212 : ey F ini rt fin K0 K (decode cL_law 212) 212 L (st) h cs ss = (lhas L 5 ∧ isRf (lgt L 5) ∧ K 214 L (lgt L 5 :: st) h cs ss) := by
  rw [dL_law_212, ey_ok, nx_aload_2] <;> rfl
theorem qL_law_214 : ey F ini rt fin K0 K (decode cL_law 214) 214 L (st) h cs ss = (lhas L 6 ∧ isRf (lgt L 6) ∧ K 216 L (lgt L 6 :: st) h cs ss) := by
  rw [dL_law_214, ey_ok, nx_aload_2] <;> rfl
theorem qL_law_216 : ey F ini rt fin K0 K (decode cL_law 216) 216 L (st) h cs ss = (lhas L 7 ∧ isRf (lgt L 7) ∧ K 218 L (lgt L 7 :: st) h cs ss) := by
  rw [dL_law_216, ey_ok, nx_aload_2] <;> rfl
theorem qL_law_218 : ey F ini rt fin K0 K (decode cL_law 218) 218 L (st) h cs ss = (lhas L 8 ∧ isRf (lgt L 8) ∧ K 220 L (lgt L 8 :: st) h cs ss) := by
  rw [dL_law_218, ey_ok, nx_aload_2] <;> rfl
theorem qL_law_220 : ey F ini rt fin K0 K (decode cL_law 220) 220 L (st) h cs ss = (K0 220 L st h cs ss) := by
  rw [dL_law_220, ey_ok, nx_invokestatic_73]
theorem qL_law_223 : ey F ini rt fin K0 K (decode cL_law 223) 223 L (st) h cs ss = (K 524 L st h cs ss) := by
  rw [dL_law_223, ey_ok, nx_goto_29]
  exact and_l (by unfold jok; decide)
theorem qL_law_226 : ey F ini rt fin K0 K (decode cL_law 226) 226 L (st) h cs ss = (lhas L 12 ∧ isI (lgt L 12) ∧ K 228 L (lgt L 12 :: st) h cs ss) := by
  rw [dL_law_226, ey_ok, nx_iload_0] <;> rfl
theorem qL_law_228 : ey F ini rt fin K0 K (decode cL_law 228) 228 L (st) h cs ss = (K 229 L (.int 4 :: st) h cs ss) := by
  rw [dL_law_228, ey_ok, nx_iconst_11] <;> rfl
theorem qL_law_229 : ey F ini rt fin K0 K (decode cL_law 229) 229 L (.int y :: .int x :: r) h cs ss = (if y ≤ x then K 254 L r h cs ss else K 232 L r h cs ss) := by
  rw [dL_law_229, ey_ok, nx_if_icmp_39]
  exact and_l (by unfold jok; decide)
theorem qL_law_232 : ey F ini rt fin K0 K (decode cL_law 232) 232 L (st) h cs ss = (lhas L 1 ∧ isRf (lgt L 1) ∧ K 233 L (lgt L 1 :: st) h cs ss) := by
  rw [dL_law_232, ey_ok, nx_aload_n_3] <;> rfl
theorem qL_law_233 : ey F ini rt fin K0 K (decode cL_law 233) 233 L (st) h cs ss = (K 234 L (.int 1 :: st) h cs ss) := by
  rw [dL_law_233, ey_ok, nx_iconst_11] <;> rfl
theorem qL_law_234 : ey F ini rt fin K0 K (decode cL_law 234) 234 L (st) h cs ss = (lhas L 11 ∧ isI (lgt L 11) ∧ K 236 L (lgt L 11 :: st) h cs ss) := by
  rw [dL_law_234, ey_ok, nx_iload_0] <;> rfl
theorem qL_law_236 : ey F ini rt fin K0 K (decode cL_law 236) 236 L (st) h cs ss = (lhas L 2 ∧ isRf (lgt L 2) ∧ K 237 L (lgt L 2 :: st) h cs ss) := by
  rw [dL_law_236, ey_ok, nx_aload_n_3] <;> rfl
theorem qL_law_237 : ey F ini rt fin K0 K (decode cL_law 237) 237 L (st) h cs ss = (lhas L 3 ∧ isRf (lgt L 3) ∧ K 238 L (lgt L 3 :: st) h cs ss) := by
  rw [dL_law_237, ey_ok, nx_aload_n_3] <;> rfl
theorem qL_law_238 : ey F ini rt fin K0 K (decode cL_law 238) 238 L (st) h cs ss = (lhas L 4 ∧ isRf (lgt L 4) ∧ K 240 L (lgt L 4 :: st) h cs ss) := by
  rw [dL_law_238, ey_ok, nx_aload_2] <;> rfl
theorem qL_law_240 : ey F ini rt fin K0 K (decode cL_law 240) 240 L (st) h cs ss = (lhas L 5 ∧ isRf (lgt L 5) ∧ K 242 L (lgt L 5 :: st) h cs ss) := by
  rw [dL_law_240, ey_ok, nx_aload_2] <;> rfl
theorem qL_law_242 : ey F ini rt fin K0 K (decode cL_law 242) 242 L (st) h cs ss = (lhas L 6 ∧ isRf (lgt L 6) ∧ K 244 L (lgt L 6 :: st) h cs ss) := by
  rw [dL_law_242, ey_ok, nx_aload_2] <;> rfl
theorem qL_law_244 : ey F ini rt fin K0 K (decode cL_law 244) 244 L (st) h cs ss = (lhas L 7 ∧ isRf (lgt L 7) ∧ K 246 L (lgt L 7 :: st) h cs ss) := by
  rw [dL_law_244, ey_ok, nx_aload_2] <;> rfl
theorem qL_law_246 : ey F ini rt fin K0 K (decode cL_law 246) 246 L (st) h cs ss = (lhas L 8 ∧ isRf (lgt L 8) ∧ K 248 L (lgt L 8 :: st) h cs ss) := by
  rw [dL_law_246, ey_ok, nx_aload_2] <;> rfl
theorem qL_law_248 : ey F ini rt fin K0 K (decode cL_law 248) 248 L (st) h cs ss = (K0 248 L st h cs ss) := by
  rw [dL_law_248, ey_ok, nx_invokestatic_73]
theorem qL_law_251 : ey F ini rt fin K0 K (decode cL_law 251) 251 L (st) h cs ss = (K 524 L st h cs ss) := by
  rw [dL_law_251, ey_ok, nx_goto_29]
  exact and_l (by unfold jok; decide)
theorem qL_law_254 : ey F ini rt fin K0 K (decode cL_law 254) 254 L (st) h cs ss = (lhas L 12 ∧ isI (lgt L 12) ∧ K 256 L (lgt L 12 :: st) h cs ss) := by
  rw [dL_law_254, ey_ok, nx_iload_0] <;> rfl
theorem qL_law_256 : ey F ini rt fin K0 K (decode cL_law 256) 256 L (st) h cs ss = (K 258 L (.int 14 :: st) h cs ss) := by
  rw [dL_law_256, ey_ok, nx_bipush_12] <;> rfl
theorem qL_law_258 : ey F ini rt fin K0 K (decode cL_law 258) 258 L (.int y :: .int x :: r) h cs ss = (if y ≤ x then K 283 L r h cs ss else K 261 L r h cs ss) := by
  rw [dL_law_258, ey_ok, nx_if_icmp_39]
  exact and_l (by unfold jok; decide)
theorem qL_law_261 : ey F ini rt fin K0 K (decode cL_law 261) 261 L (st) h cs ss = (lhas L 1 ∧ isRf (lgt L 1) ∧ K 262 L (lgt L 1 :: st) h cs ss) := by
  rw [dL_law_261, ey_ok, nx_aload_n_3] <;> rfl
theorem qL_law_262 : ey F ini rt fin K0 K (decode cL_law 262) 262 L (st) h cs ss = (K 263 L (.int 2 :: st) h cs ss) := by
  rw [dL_law_262, ey_ok, nx_iconst_11] <;> rfl
theorem qL_law_263 : ey F ini rt fin K0 K (decode cL_law 263) 263 L (st) h cs ss = (lhas L 11 ∧ isI (lgt L 11) ∧ K 265 L (lgt L 11 :: st) h cs ss) := by
  rw [dL_law_263, ey_ok, nx_iload_0] <;> rfl
theorem qL_law_265 : ey F ini rt fin K0 K (decode cL_law 265) 265 L (st) h cs ss = (lhas L 2 ∧ isRf (lgt L 2) ∧ K 266 L (lgt L 2 :: st) h cs ss) := by
  rw [dL_law_265, ey_ok, nx_aload_n_3] <;> rfl
theorem qL_law_266 : ey F ini rt fin K0 K (decode cL_law 266) 266 L (st) h cs ss = (lhas L 3 ∧ isRf (lgt L 3) ∧ K 267 L (lgt L 3 :: st) h cs ss) := by
  rw [dL_law_266, ey_ok, nx_aload_n_3] <;> rfl
theorem qL_law_267 : ey F ini rt fin K0 K (decode cL_law 267) 267 L (st) h cs ss = (lhas L 4 ∧ isRf (lgt L 4) ∧ K 269 L (lgt L 4 :: st) h cs ss) := by
  rw [dL_law_267, ey_ok, nx_aload_2] <;> rfl
theorem qL_law_269 : ey F ini rt fin K0 K (decode cL_law 269) 269 L (st) h cs ss = (lhas L 5 ∧ isRf (lgt L 5) ∧ K 271 L (lgt L 5 :: st) h cs ss) := by
  rw [dL_law_269, ey_ok, nx_aload_2] <;> rfl
theorem qL_law_271 : ey F ini rt fin K0 K (decode cL_law 271) 271 L (st) h cs ss = (lhas L 6 ∧ isRf (lgt L 6) ∧ K 273 L (lgt L 6 :: st) h cs ss) := by
  rw [dL_law_271, ey_ok, nx_aload_2] <;> rfl
theorem qL_law_273 : ey F ini rt fin K0 K (decode cL_law 273) 273 L (st) h cs ss = (lhas L 7 ∧ isRf (lgt L 7) ∧ K 275 L (lgt L 7 :: st) h cs ss) := by
  rw [dL_law_273, ey_ok, nx_aload_2] <;> rfl
theorem qL_law_275 : ey F ini rt fin K0 K (decode cL_law 275) 275 L (st) h cs ss = (lhas L 8 ∧ isRf (lgt L 8) ∧ K 277 L (lgt L 8 :: st) h cs ss) := by
  rw [dL_law_275, ey_ok, nx_aload_2] <;> rfl
theorem qL_law_277 : ey F ini rt fin K0 K (decode cL_law 277) 277 L (st) h cs ss = (K0 277 L st h cs ss) := by
  rw [dL_law_277, ey_ok, nx_invokestatic_73]
theorem qL_law_280 : ey F ini rt fin K0 K (decode cL_law 280) 280 L (st) h cs ss = (K 524 L st h cs ss) := by
  rw [dL_law_280, ey_ok, nx_goto_29]
  exact and_l (by unfold jok; decide)
theorem qL_law_283 : ey F ini rt fin K0 K (decode cL_law 283) 283 L (st) h cs ss = (lhas L 12 ∧ isI (lgt L 12) ∧ K 285 L (lgt L 12 :: st) h cs ss) := by
  rw [dL_law_283, ey_ok, nx_iload_0] <;> rfl
theorem qL_law_285 : ey F ini rt fin K0 K (decode cL_law 285) 285 L (st) h cs ss = (K 287 L (.int 19 :: st) h cs ss) := by
  rw [dL_law_285, ey_ok, nx_bipush_12] <;> rfl
theorem qL_law_287 : ey F ini rt fin K0 K (decode cL_law 287) 287 L (.int y :: .int x :: r) h cs ss = (if y ≤ x then K 312 L r h cs ss else K 290 L r h cs ss) := by
  rw [dL_law_287, ey_ok, nx_if_icmp_39]
  exact and_l (by unfold jok; decide)
theorem qL_law_290 : ey F ini rt fin K0 K (decode cL_law 290) 290 L (st) h cs ss = (lhas L 1 ∧ isRf (lgt L 1) ∧ K 291 L (lgt L 1 :: st) h cs ss) := by
  rw [dL_law_290, ey_ok, nx_aload_n_3] <;> rfl
theorem qL_law_291 : ey F ini rt fin K0 K (decode cL_law 291) 291 L (st) h cs ss = (K 292 L (.int 3 :: st) h cs ss) := by
  rw [dL_law_291, ey_ok, nx_iconst_11] <;> rfl
theorem qL_law_292 : ey F ini rt fin K0 K (decode cL_law 292) 292 L (st) h cs ss = (lhas L 11 ∧ isI (lgt L 11) ∧ K 294 L (lgt L 11 :: st) h cs ss) := by
  rw [dL_law_292, ey_ok, nx_iload_0] <;> rfl
theorem qL_law_294 : ey F ini rt fin K0 K (decode cL_law 294) 294 L (st) h cs ss = (lhas L 2 ∧ isRf (lgt L 2) ∧ K 295 L (lgt L 2 :: st) h cs ss) := by
  rw [dL_law_294, ey_ok, nx_aload_n_3] <;> rfl
theorem qL_law_295 : ey F ini rt fin K0 K (decode cL_law 295) 295 L (st) h cs ss = (lhas L 3 ∧ isRf (lgt L 3) ∧ K 296 L (lgt L 3 :: st) h cs ss) := by
  rw [dL_law_295, ey_ok, nx_aload_n_3] <;> rfl
theorem qL_law_296 : ey F ini rt fin K0 K (decode cL_law 296) 296 L (st) h cs ss = (lhas L 4 ∧ isRf (lgt L 4) ∧ K 298 L (lgt L 4 :: st) h cs ss) := by
  rw [dL_law_296, ey_ok, nx_aload_2] <;> rfl
theorem qL_law_298 : ey F ini rt fin K0 K (decode cL_law 298) 298 L (st) h cs ss = (lhas L 5 ∧ isRf (lgt L 5) ∧ K 300 L (lgt L 5 :: st) h cs ss) := by
  rw [dL_law_298, ey_ok, nx_aload_2] <;> rfl
theorem qL_law_300 : ey F ini rt fin K0 K (decode cL_law 300) 300 L (st) h cs ss = (lhas L 6 ∧ isRf (lgt L 6) ∧ K 302 L (lgt L 6 :: st) h cs ss) := by
  rw [dL_law_300, ey_ok, nx_aload_2] <;> rfl
theorem qL_law_302 : ey F ini rt fin K0 K (decode cL_law 302) 302 L (st) h cs ss = (lhas L 7 ∧ isRf (lgt L 7) ∧ K 304 L (lgt L 7 :: st) h cs ss) := by
  rw [dL_law_302, ey_ok, nx_aload_2] <;> rfl
theorem qL_law_304 : ey F ini rt fin K0 K (decode cL_law 304) 304 L (st) h cs ss = (lhas L 8 ∧ isRf (lgt L 8) ∧ K 306 L (lgt L 8 :: st) h cs ss) := by
  rw [dL_law_304, ey_ok, nx_aload_2] <;> rfl
theorem qL_law_306 : ey F ini rt fin K0 K (decode cL_law 306) 306 L (st) h cs ss = (K0 306 L st h cs ss) := by
  rw [dL_law_306, ey_ok, nx_invokestatic_73]
theorem qL_law_309 : ey F ini rt fin K0 K (decode cL_law 309) 309 L (st) h cs ss = (K 524 L st h cs ss) := by
  rw [dL_law_309, ey_ok, nx_goto_29]
  exact and_l (by unfold jok; decide)
theorem qL_law_312 : ey F ini rt fin K0 K (decode cL_law 312) 312 L (st) h cs ss = (lhas L 12 ∧ isI (lgt L 12) ∧ K 314 L (lgt L 12 :: st) h cs ss) := by
  rw [dL_law_312, ey_ok, nx_iload_0] <;> rfl
theorem qL_law_314 : ey F ini rt fin K0 K (decode cL_law 314) 314 L (st) h cs ss = (K 316 L (.int 23 :: st) h cs ss) := by
  rw [dL_law_314, ey_ok, nx_bipush_12] <;> rfl
theorem qL_law_316 : ey F ini rt fin K0 K (decode cL_law 316) 316 L (.int y :: .int x :: r) h cs ss = (if y ≤ x then K 341 L r h cs ss else K 319 L r h cs ss) := by
  rw [dL_law_316, ey_ok, nx_if_icmp_39]
  exact and_l (by unfold jok; decide)
theorem qL_law_319 : ey F ini rt fin K0 K (decode cL_law 319) 319 L (st) h cs ss = (lhas L 1 ∧ isRf (lgt L 1) ∧ K 320 L (lgt L 1 :: st) h cs ss) := by
  rw [dL_law_319, ey_ok, nx_aload_n_3] <;> rfl
theorem qL_law_320 : ey F ini rt fin K0 K (decode cL_law 320) 320 L (st) h cs ss = (K 321 L (.int 4 :: st) h cs ss) := by
  rw [dL_law_320, ey_ok, nx_iconst_11] <;> rfl
theorem qL_law_321 : ey F ini rt fin K0 K (decode cL_law 321) 321 L (st) h cs ss = (lhas L 11 ∧ isI (lgt L 11) ∧ K 323 L (lgt L 11 :: st) h cs ss) := by
  rw [dL_law_321, ey_ok, nx_iload_0] <;> rfl
theorem qL_law_323 : ey F ini rt fin K0 K (decode cL_law 323) 323 L (st) h cs ss = (lhas L 2 ∧ isRf (lgt L 2) ∧ K 324 L (lgt L 2 :: st) h cs ss) := by
  rw [dL_law_323, ey_ok, nx_aload_n_3] <;> rfl
theorem qL_law_324 : ey F ini rt fin K0 K (decode cL_law 324) 324 L (st) h cs ss = (lhas L 3 ∧ isRf (lgt L 3) ∧ K 325 L (lgt L 3 :: st) h cs ss) := by
  rw [dL_law_324, ey_ok, nx_aload_n_3] <;> rfl
theorem qL_law_325 : ey F ini rt fin K0 K (decode cL_law 325) 325 L (st) h cs ss = (lhas L 4 ∧ isRf (lgt L 4) ∧ K 327 L (lgt L 4 :: st) h cs ss) := by
  rw [dL_law_325, ey_ok, nx_aload_2] <;> rfl
theorem qL_law_327 : ey F ini rt fin K0 K (decode cL_law 327) 327 L (st) h cs ss = (lhas L 5 ∧ isRf (lgt L 5) ∧ K 329 L (lgt L 5 :: st) h cs ss) := by
  rw [dL_law_327, ey_ok, nx_aload_2] <;> rfl
theorem qL_law_329 : ey F ini rt fin K0 K (decode cL_law 329) 329 L (st) h cs ss = (lhas L 6 ∧ isRf (lgt L 6) ∧ K 331 L (lgt L 6 :: st) h cs ss) := by
  rw [dL_law_329, ey_ok, nx_aload_2] <;> rfl
theorem qL_law_331 : ey F ini rt fin K0 K (decode cL_law 331) 331 L (st) h cs ss = (lhas L 7 ∧ isRf (lgt L 7) ∧ K 333 L (lgt L 7 :: st) h cs ss) := by
  rw [dL_law_331, ey_ok, nx_aload_2] <;> rfl
theorem qL_law_333 : ey F ini rt fin K0 K (decode cL_law 333) 333 L (st) h cs ss = (lhas L 8 ∧ isRf (lgt L 8) ∧ K 335 L (lgt L 8 :: st) h cs ss) := by
  rw [dL_law_333, ey_ok, nx_aload_2] <;> rfl
theorem qL_law_335 : ey F ini rt fin K0 K (decode cL_law 335) 335 L (st) h cs ss = (K0 335 L st h cs ss) := by
  rw [dL_law_335, ey_ok, nx_invokestatic_73]
theorem qL_law_338 : ey F ini rt fin K0 K (decode cL_law 338) 338 L (st) h cs ss = (K 524 L st h cs ss) := by
  rw [dL_law_338, ey_ok, nx_goto_29]
  exact and_l (by unfold jok; decide)
theorem qL_law_341 : ey F ini rt fin K0 K (decode cL_law 341) 341 L (st) h cs ss = (lhas L 12 ∧ isI (lgt L 12) ∧ K 343 L (lgt L 12 :: st) h cs ss) := by
  rw [dL_law_341, ey_ok, nx_iload_0] <;> rfl
theorem qL_law_343 : ey F ini rt fin K0 K (decode cL_law 343) 343 L (st) h cs ss = (K 345 L (.int 25 :: st) h cs ss) := by
  rw [dL_law_343, ey_ok, nx_bipush_12] <;> rfl
theorem qL_law_345 : ey F ini rt fin K0 K (decode cL_law 345) 345 L (.int y :: .int x :: r) h cs ss = (if y ≤ x then K 366 L r h cs ss else K 348 L r h cs ss) := by
  rw [dL_law_345, ey_ok, nx_if_icmp_39]
  exact and_l (by unfold jok; decide)
theorem qL_law_348 : ey F ini rt fin K0 K (decode cL_law 348) 348 L (st) h cs ss = (lhas L 1 ∧ isRf (lgt L 1) ∧ K 349 L (lgt L 1 :: st) h cs ss) := by
  rw [dL_law_348, ey_ok, nx_aload_n_3] <;> rfl
theorem qL_law_349 : ey F ini rt fin K0 K (decode cL_law 349) 349 L (st) h cs ss = (lhas L 11 ∧ isI (lgt L 11) ∧ K 351 L (lgt L 11 :: st) h cs ss) := by
  rw [dL_law_349, ey_ok, nx_iload_0] <;> rfl
theorem qL_law_351 : ey F ini rt fin K0 K (decode cL_law 351) 351 L (st) h cs ss = (lhas L 2 ∧ isRf (lgt L 2) ∧ K 352 L (lgt L 2 :: st) h cs ss) := by
  rw [dL_law_351, ey_ok, nx_aload_n_3] <;> rfl
theorem qL_law_352 : ey F ini rt fin K0 K (decode cL_law 352) 352 L (st) h cs ss = (lhas L 4 ∧ isRf (lgt L 4) ∧ K 354 L (lgt L 4 :: st) h cs ss) := by
  rw [dL_law_352, ey_ok, nx_aload_2] <;> rfl
theorem qL_law_354 : ey F ini rt fin K0 K (decode cL_law 354) 354 L (st) h cs ss = (lhas L 5 ∧ isRf (lgt L 5) ∧ K 356 L (lgt L 5 :: st) h cs ss) := by
  rw [dL_law_354, ey_ok, nx_aload_2] <;> rfl
theorem qL_law_356 : ey F ini rt fin K0 K (decode cL_law 356) 356 L (st) h cs ss = (lhas L 6 ∧ isRf (lgt L 6) ∧ K 358 L (lgt L 6 :: st) h cs ss) := by
  rw [dL_law_356, ey_ok, nx_aload_2] <;> rfl
theorem qL_law_358 : ey F ini rt fin K0 K (decode cL_law 358) 358 L (st) h cs ss = (lhas L 7 ∧ isRf (lgt L 7) ∧ K 360 L (lgt L 7 :: st) h cs ss) := by
  rw [dL_law_358, ey_ok, nx_aload_2] <;> rfl
theorem qL_law_360 : ey F ini rt fin K0 K (decode cL_law 360) 360 L (st) h cs ss = (K0 360 L st h cs ss) := by
  rw [dL_law_360, ey_ok, nx_invokestatic_73]
theorem qL_law_363 : ey F ini rt fin K0 K (decode cL_law 363) 363 L (st) h cs ss = (K 524 L st h cs ss) := by
  rw [dL_law_363, ey_ok, nx_goto_29]
  exact and_l (by unfold jok; decide)
theorem qL_law_366 : ey F ini rt fin K0 K (decode cL_law 366) 366 L (st) h cs ss = (lhas L 12 ∧ isI (lgt L 12) ∧ K 368 L (lgt L 12 :: st) h cs ss) := by
  rw [dL_law_366, ey_ok, nx_iload_0] <;> rfl
theorem qL_law_368 : ey F ini rt fin K0 K (decode cL_law 368) 368 L (st) h cs ss = (K 370 L (.int 26 :: st) h cs ss) := by
  rw [dL_law_368, ey_ok, nx_bipush_12] <;> rfl
theorem qL_law_370 : ey F ini rt fin K0 K (decode cL_law 370) 370 L (.int y :: .int x :: r) h cs ss = (if y ≤ x then K 393 L r h cs ss else K 373 L r h cs ss) := by
  rw [dL_law_370, ey_ok, nx_if_icmp_39]
  exact and_l (by unfold jok; decide)
theorem qL_law_373 : ey F ini rt fin K0 K (decode cL_law 373) 373 L (st) h cs ss = (lhas L 1 ∧ isRf (lgt L 1) ∧ K 374 L (lgt L 1 :: st) h cs ss) := by
  rw [dL_law_373, ey_ok, nx_aload_n_3] <;> rfl
theorem qL_law_374 : ey F ini rt fin K0 K (decode cL_law 374) 374 L (st) h cs ss = (K 375 L (.int 0 :: st) h cs ss) := by
  rw [dL_law_374, ey_ok, nx_iconst_11] <;> rfl
theorem qL_law_375 : ey F ini rt fin K0 K (decode cL_law 375) 375 L (st) h cs ss = (lhas L 11 ∧ isI (lgt L 11) ∧ K 377 L (lgt L 11 :: st) h cs ss) := by
  rw [dL_law_375, ey_ok, nx_iload_0] <;> rfl
theorem qL_law_377 : ey F ini rt fin K0 K (decode cL_law 377) 377 L (st) h cs ss = (lhas L 2 ∧ isRf (lgt L 2) ∧ K 378 L (lgt L 2 :: st) h cs ss) := by
  rw [dL_law_377, ey_ok, nx_aload_n_3] <;> rfl
theorem qL_law_378 : ey F ini rt fin K0 K (decode cL_law 378) 378 L (st) h cs ss = (lhas L 3 ∧ isRf (lgt L 3) ∧ K 379 L (lgt L 3 :: st) h cs ss) := by
  rw [dL_law_378, ey_ok, nx_aload_n_3] <;> rfl
theorem qL_law_379 : ey F ini rt fin K0 K (decode cL_law 379) 379 L (st) h cs ss = (lhas L 4 ∧ isRf (lgt L 4) ∧ K 381 L (lgt L 4 :: st) h cs ss) := by
  rw [dL_law_379, ey_ok, nx_aload_2] <;> rfl
theorem qL_law_381 : ey F ini rt fin K0 K (decode cL_law 381) 381 L (st) h cs ss = (lhas L 5 ∧ isRf (lgt L 5) ∧ K 383 L (lgt L 5 :: st) h cs ss) := by
  rw [dL_law_381, ey_ok, nx_aload_2] <;> rfl
theorem qL_law_383 : ey F ini rt fin K0 K (decode cL_law 383) 383 L (st) h cs ss = (lhas L 6 ∧ isRf (lgt L 6) ∧ K 385 L (lgt L 6 :: st) h cs ss) := by
  rw [dL_law_383, ey_ok, nx_aload_2] <;> rfl
theorem qL_law_385 : ey F ini rt fin K0 K (decode cL_law 385) 385 L (st) h cs ss = (lhas L 7 ∧ isRf (lgt L 7) ∧ K 387 L (lgt L 7 :: st) h cs ss) := by
  rw [dL_law_385, ey_ok, nx_aload_2] <;> rfl
theorem qL_law_387 : ey F ini rt fin K0 K (decode cL_law 387) 387 L (st) h cs ss = (K0 387 L st h cs ss) := by
  rw [dL_law_387, ey_ok, nx_invokestatic_73]
theorem qL_law_390 : ey F ini rt fin K0 K (decode cL_law 390) 390 L (st) h cs ss = (K 524 L st h cs ss) := by
  rw [dL_law_390, ey_ok, nx_goto_29]
  exact and_l (by unfold jok; decide)
theorem qL_law_393 : ey F ini rt fin K0 K (decode cL_law 393) 393 L (st) h cs ss = (lhas L 12 ∧ isI (lgt L 12) ∧ K 395 L (lgt L 12 :: st) h cs ss) := by
  rw [dL_law_393, ey_ok, nx_iload_0] <;> rfl
theorem qL_law_395 : ey F ini rt fin K0 K (decode cL_law 395) 395 L (st) h cs ss = (K 397 L (.int 29 :: st) h cs ss) := by
  rw [dL_law_395, ey_ok, nx_bipush_12] <;> rfl
theorem qL_law_397 : ey F ini rt fin K0 K (decode cL_law 397) 397 L (.int y :: .int x :: r) h cs ss = (if y ≤ x then K 420 L r h cs ss else K 400 L r h cs ss) := by
  rw [dL_law_397, ey_ok, nx_if_icmp_39]
  exact and_l (by unfold jok; decide)
theorem qL_law_400 : ey F ini rt fin K0 K (decode cL_law 400) 400 L (st) h cs ss = (lhas L 1 ∧ isRf (lgt L 1) ∧ K 401 L (lgt L 1 :: st) h cs ss) := by
  rw [dL_law_400, ey_ok, nx_aload_n_3] <;> rfl
theorem qL_law_401 : ey F ini rt fin K0 K (decode cL_law 401) 401 L (st) h cs ss = (K 402 L (.int 1 :: st) h cs ss) := by
  rw [dL_law_401, ey_ok, nx_iconst_11] <;> rfl
theorem qL_law_402 : ey F ini rt fin K0 K (decode cL_law 402) 402 L (st) h cs ss = (lhas L 11 ∧ isI (lgt L 11) ∧ K 404 L (lgt L 11 :: st) h cs ss) := by
  rw [dL_law_402, ey_ok, nx_iload_0] <;> rfl
theorem qL_law_404 : ey F ini rt fin K0 K (decode cL_law 404) 404 L (st) h cs ss = (lhas L 2 ∧ isRf (lgt L 2) ∧ K 405 L (lgt L 2 :: st) h cs ss) := by
  rw [dL_law_404, ey_ok, nx_aload_n_3] <;> rfl
theorem qL_law_405 : ey F ini rt fin K0 K (decode cL_law 405) 405 L (st) h cs ss = (lhas L 3 ∧ isRf (lgt L 3) ∧ K 406 L (lgt L 3 :: st) h cs ss) := by
  rw [dL_law_405, ey_ok, nx_aload_n_3] <;> rfl
theorem qL_law_406 : ey F ini rt fin K0 K (decode cL_law 406) 406 L (st) h cs ss = (lhas L 4 ∧ isRf (lgt L 4) ∧ K 408 L (lgt L 4 :: st) h cs ss) := by
  rw [dL_law_406, ey_ok, nx_aload_2] <;> rfl
theorem qL_law_408 : ey F ini rt fin K0 K (decode cL_law 408) 408 L (st) h cs ss = (lhas L 5 ∧ isRf (lgt L 5) ∧ K 410 L (lgt L 5 :: st) h cs ss) := by
  rw [dL_law_408, ey_ok, nx_aload_2] <;> rfl
theorem qL_law_410 : ey F ini rt fin K0 K (decode cL_law 410) 410 L (st) h cs ss = (lhas L 6 ∧ isRf (lgt L 6) ∧ K 412 L (lgt L 6 :: st) h cs ss) := by
  rw [dL_law_410, ey_ok, nx_aload_2] <;> rfl
theorem qL_law_412 : ey F ini rt fin K0 K (decode cL_law 412) 412 L (st) h cs ss = (lhas L 7 ∧ isRf (lgt L 7) ∧ K 414 L (lgt L 7 :: st) h cs ss) := by
  rw [dL_law_412, ey_ok, nx_aload_2] <;> rfl
theorem qL_law_414 : ey F ini rt fin K0 K (decode cL_law 414) 414 L (st) h cs ss = (K0 414 L st h cs ss) := by
  rw [dL_law_414, ey_ok, nx_invokestatic_73]
theorem qL_law_417 : ey F ini rt fin K0 K (decode cL_law 417) 417 L (st) h cs ss = (K 524 L st h cs ss) := by
  rw [dL_law_417, ey_ok, nx_goto_29]
  exact and_l (by unfold jok; decide)
theorem qL_law_420 : ey F ini rt fin K0 K (decode cL_law 420) 420 L (st) h cs ss = (lhas L 12 ∧ isI (lgt L 12) ∧ K 422 L (lgt L 12 :: st) h cs ss) := by
  rw [dL_law_420, ey_ok, nx_iload_0] <;> rfl
theorem qL_law_422 : ey F ini rt fin K0 K (decode cL_law 422) 422 L (st) h cs ss = (K 424 L (.int 31 :: st) h cs ss) := by
  rw [dL_law_422, ey_ok, nx_bipush_12] <;> rfl
theorem qL_law_424 : ey F ini rt fin K0 K (decode cL_law 424) 424 L (.int y :: .int x :: r) h cs ss = (if y ≤ x then K 447 L r h cs ss else K 427 L r h cs ss) := by
  rw [dL_law_424, ey_ok, nx_if_icmp_39]
  exact and_l (by unfold jok; decide)
theorem qL_law_427 : ey F ini rt fin K0 K (decode cL_law 427) 427 L (st) h cs ss = (lhas L 1 ∧ isRf (lgt L 1) ∧ K 428 L (lgt L 1 :: st) h cs ss) := by
  rw [dL_law_427, ey_ok, nx_aload_n_3] <;> rfl
theorem qL_law_428 : ey F ini rt fin K0 K (decode cL_law 428) 428 L (st) h cs ss = (K 429 L (.int 2 :: st) h cs ss) := by
  rw [dL_law_428, ey_ok, nx_iconst_11] <;> rfl
theorem qL_law_429 : ey F ini rt fin K0 K (decode cL_law 429) 429 L (st) h cs ss = (lhas L 11 ∧ isI (lgt L 11) ∧ K 431 L (lgt L 11 :: st) h cs ss) := by
  rw [dL_law_429, ey_ok, nx_iload_0] <;> rfl
theorem qL_law_431 : ey F ini rt fin K0 K (decode cL_law 431) 431 L (st) h cs ss = (lhas L 2 ∧ isRf (lgt L 2) ∧ K 432 L (lgt L 2 :: st) h cs ss) := by
  rw [dL_law_431, ey_ok, nx_aload_n_3] <;> rfl
theorem qL_law_432 : ey F ini rt fin K0 K (decode cL_law 432) 432 L (st) h cs ss = (lhas L 3 ∧ isRf (lgt L 3) ∧ K 433 L (lgt L 3 :: st) h cs ss) := by
  rw [dL_law_432, ey_ok, nx_aload_n_3] <;> rfl
theorem qL_law_433 : ey F ini rt fin K0 K (decode cL_law 433) 433 L (st) h cs ss = (lhas L 4 ∧ isRf (lgt L 4) ∧ K 435 L (lgt L 4 :: st) h cs ss) := by
  rw [dL_law_433, ey_ok, nx_aload_2] <;> rfl
theorem qL_law_435 : ey F ini rt fin K0 K (decode cL_law 435) 435 L (st) h cs ss = (lhas L 5 ∧ isRf (lgt L 5) ∧ K 437 L (lgt L 5 :: st) h cs ss) := by
  rw [dL_law_435, ey_ok, nx_aload_2] <;> rfl
theorem qL_law_437 : ey F ini rt fin K0 K (decode cL_law 437) 437 L (st) h cs ss = (lhas L 6 ∧ isRf (lgt L 6) ∧ K 439 L (lgt L 6 :: st) h cs ss) := by
  rw [dL_law_437, ey_ok, nx_aload_2] <;> rfl
theorem qL_law_439 : ey F ini rt fin K0 K (decode cL_law 439) 439 L (st) h cs ss = (lhas L 7 ∧ isRf (lgt L 7) ∧ K 441 L (lgt L 7 :: st) h cs ss) := by
  rw [dL_law_439, ey_ok, nx_aload_2] <;> rfl
theorem qL_law_441 : ey F ini rt fin K0 K (decode cL_law 441) 441 L (st) h cs ss = (K0 441 L st h cs ss) := by
  rw [dL_law_441, ey_ok, nx_invokestatic_73]
theorem qL_law_444 : ey F ini rt fin K0 K (decode cL_law 444) 444 L (st) h cs ss = (K 524 L st h cs ss) := by
  rw [dL_law_444, ey_ok, nx_goto_29]
  exact and_l (by unfold jok; decide)
theorem qL_law_447 : ey F ini rt fin K0 K (decode cL_law 447) 447 L (st) h cs ss = (lhas L 12 ∧ isI (lgt L 12) ∧ K 449 L (lgt L 12 :: st) h cs ss) := by
  rw [dL_law_447, ey_ok, nx_iload_0] <;> rfl
theorem qL_law_449 : ey F ini rt fin K0 K (decode cL_law 449) 449 L (st) h cs ss = (K 451 L (.int 35 :: st) h cs ss) := by
  rw [dL_law_449, ey_ok, nx_bipush_12] <;> rfl
theorem qL_law_451 : ey F ini rt fin K0 K (decode cL_law 451) 451 L (.int y :: .int x :: r) h cs ss = (if y ≤ x then K 476 L r h cs ss else K 454 L r h cs ss) := by
  rw [dL_law_451, ey_ok, nx_if_icmp_39]
  exact and_l (by unfold jok; decide)
theorem qL_law_454 : ey F ini rt fin K0 K (decode cL_law 454) 454 L (st) h cs ss = (lhas L 1 ∧ isRf (lgt L 1) ∧ K 455 L (lgt L 1 :: st) h cs ss) := by
  rw [dL_law_454, ey_ok, nx_aload_n_3] <;> rfl
theorem qL_law_455 : ey F ini rt fin K0 K (decode cL_law 455) 455 L (st) h cs ss = (K 456 L (.int 0 :: st) h cs ss) := by
  rw [dL_law_455, ey_ok, nx_iconst_11] <;> rfl
theorem qL_law_456 : ey F ini rt fin K0 K (decode cL_law 456) 456 L (st) h cs ss = (lhas L 11 ∧ isI (lgt L 11) ∧ K 458 L (lgt L 11 :: st) h cs ss) := by
  rw [dL_law_456, ey_ok, nx_iload_0] <;> rfl
theorem qL_law_458 : ey F ini rt fin K0 K (decode cL_law 458) 458 L (st) h cs ss = (lhas L 2 ∧ isRf (lgt L 2) ∧ K 459 L (lgt L 2 :: st) h cs ss) := by
  rw [dL_law_458, ey_ok, nx_aload_n_3] <;> rfl
theorem qL_law_459 : ey F ini rt fin K0 K (decode cL_law 459) 459 L (st) h cs ss = (lhas L 3 ∧ isRf (lgt L 3) ∧ K 460 L (lgt L 3 :: st) h cs ss) := by
  rw [dL_law_459, ey_ok, nx_aload_n_3] <;> rfl
theorem qL_law_460 : ey F ini rt fin K0 K (decode cL_law 460) 460 L (st) h cs ss = (lhas L 4 ∧ isRf (lgt L 4) ∧ K 462 L (lgt L 4 :: st) h cs ss) := by
  rw [dL_law_460, ey_ok, nx_aload_2] <;> rfl
theorem qL_law_462 : ey F ini rt fin K0 K (decode cL_law 462) 462 L (st) h cs ss = (lhas L 5 ∧ isRf (lgt L 5) ∧ K 464 L (lgt L 5 :: st) h cs ss) := by
  rw [dL_law_462, ey_ok, nx_aload_2] <;> rfl
theorem qL_law_464 : ey F ini rt fin K0 K (decode cL_law 464) 464 L (st) h cs ss = (lhas L 6 ∧ isRf (lgt L 6) ∧ K 466 L (lgt L 6 :: st) h cs ss) := by
  rw [dL_law_464, ey_ok, nx_aload_2] <;> rfl
theorem qL_law_466 : ey F ini rt fin K0 K (decode cL_law 466) 466 L (st) h cs ss = (lhas L 7 ∧ isRf (lgt L 7) ∧ K 468 L (lgt L 7 :: st) h cs ss) := by
  rw [dL_law_466, ey_ok, nx_aload_2] <;> rfl
theorem qL_law_468 : ey F ini rt fin K0 K (decode cL_law 468) 468 L (st) h cs ss = (lhas L 8 ∧ isRf (lgt L 8) ∧ K 470 L (lgt L 8 :: st) h cs ss) := by
  rw [dL_law_468, ey_ok, nx_aload_2] <;> rfl
theorem qL_law_470 : ey F ini rt fin K0 K (decode cL_law 470) 470 L (st) h cs ss = (K0 470 L st h cs ss) := by
  rw [dL_law_470, ey_ok, nx_invokestatic_73]
theorem qL_law_473 : ey F ini rt fin K0 K (decode cL_law 473) 473 L (st) h cs ss = (K 524 L st h cs ss) := by
  rw [dL_law_473, ey_ok, nx_goto_29]
  exact and_l (by unfold jok; decide)
theorem qL_law_476 : ey F ini rt fin K0 K (decode cL_law 476) 476 L (st) h cs ss = (lhas L 12 ∧ isI (lgt L 12) ∧ K 478 L (lgt L 12 :: st) h cs ss) := by
  rw [dL_law_476, ey_ok, nx_iload_0] <;> rfl
theorem qL_law_478 : ey F ini rt fin K0 K (decode cL_law 478) 478 L (st) h cs ss = (K 480 L (.int 36 :: st) h cs ss) := by
  rw [dL_law_478, ey_ok, nx_bipush_12] <;> rfl
theorem qL_law_480 : ey F ini rt fin K0 K (decode cL_law 480) 480 L (.int y :: .int x :: r) h cs ss = (if y ≤ x then K 505 L r h cs ss else K 483 L r h cs ss) := by
  rw [dL_law_480, ey_ok, nx_if_icmp_39]
  exact and_l (by unfold jok; decide)
theorem qL_law_483 : ey F ini rt fin K0 K (decode cL_law 483) 483 L (st) h cs ss = (lhas L 1 ∧ isRf (lgt L 1) ∧ K 484 L (lgt L 1 :: st) h cs ss) := by
  rw [dL_law_483, ey_ok, nx_aload_n_3] <;> rfl
theorem qL_law_484 : ey F ini rt fin K0 K (decode cL_law 484) 484 L (st) h cs ss = (K 485 L (.int 1 :: st) h cs ss) := by
  rw [dL_law_484, ey_ok, nx_iconst_11] <;> rfl
theorem qL_law_485 : ey F ini rt fin K0 K (decode cL_law 485) 485 L (st) h cs ss = (lhas L 11 ∧ isI (lgt L 11) ∧ K 487 L (lgt L 11 :: st) h cs ss) := by
  rw [dL_law_485, ey_ok, nx_iload_0] <;> rfl
theorem qL_law_487 : ey F ini rt fin K0 K (decode cL_law 487) 487 L (st) h cs ss = (lhas L 2 ∧ isRf (lgt L 2) ∧ K 488 L (lgt L 2 :: st) h cs ss) := by
  rw [dL_law_487, ey_ok, nx_aload_n_3] <;> rfl
theorem qL_law_488 : ey F ini rt fin K0 K (decode cL_law 488) 488 L (st) h cs ss = (lhas L 3 ∧ isRf (lgt L 3) ∧ K 489 L (lgt L 3 :: st) h cs ss) := by
  rw [dL_law_488, ey_ok, nx_aload_n_3] <;> rfl
theorem qL_law_489 : ey F ini rt fin K0 K (decode cL_law 489) 489 L (st) h cs ss = (lhas L 4 ∧ isRf (lgt L 4) ∧ K 491 L (lgt L 4 :: st) h cs ss) := by
  rw [dL_law_489, ey_ok, nx_aload_2] <;> rfl
theorem qL_law_491 : ey F ini rt fin K0 K (decode cL_law 491) 491 L (st) h cs ss = (lhas L 5 ∧ isRf (lgt L 5) ∧ K 493 L (lgt L 5 :: st) h cs ss) := by
  rw [dL_law_491, ey_ok, nx_aload_2] <;> rfl
theorem qL_law_493 : ey F ini rt fin K0 K (decode cL_law 493) 493 L (st) h cs ss = (lhas L 6 ∧ isRf (lgt L 6) ∧ K 495 L (lgt L 6 :: st) h cs ss) := by
  rw [dL_law_493, ey_ok, nx_aload_2] <;> rfl
theorem qL_law_495 : ey F ini rt fin K0 K (decode cL_law 495) 495 L (st) h cs ss = (lhas L 7 ∧ isRf (lgt L 7) ∧ K 497 L (lgt L 7 :: st) h cs ss) := by
  rw [dL_law_495, ey_ok, nx_aload_2] <;> rfl
theorem qL_law_497 : ey F ini rt fin K0 K (decode cL_law 497) 497 L (st) h cs ss = (lhas L 8 ∧ isRf (lgt L 8) ∧ K 499 L (lgt L 8 :: st) h cs ss) := by
  rw [dL_law_497, ey_ok, nx_aload_2] <;> rfl
theorem qL_law_499 : ey F ini rt fin K0 K (decode cL_law 499) 499 L (st) h cs ss = (K0 499 L st h cs ss) := by
  rw [dL_law_499, ey_ok, nx_invokestatic_73]
theorem qL_law_502 : ey F ini rt fin K0 K (decode cL_law 502) 502 L (st) h cs ss = (K 524 L st h cs ss) := by
  rw [dL_law_502, ey_ok, nx_goto_29]
  exact and_l (by unfold jok; decide)
theorem qL_law_505 : ey F ini rt fin K0 K (decode cL_law 505) 505 L (st) h cs ss = (lhas L 1 ∧ isRf (lgt L 1) ∧ K 506 L (lgt L 1 :: st) h cs ss) := by
  rw [dL_law_505, ey_ok, nx_aload_n_3] <;> rfl
theorem qL_law_506 : ey F ini rt fin K0 K (decode cL_law 506) 506 L (st) h cs ss = (K 507 L (.int 2 :: st) h cs ss) := by
  rw [dL_law_506, ey_ok, nx_iconst_11] <;> rfl
theorem qL_law_507 : ey F ini rt fin K0 K (decode cL_law 507) 507 L (st) h cs ss = (lhas L 11 ∧ isI (lgt L 11) ∧ K 509 L (lgt L 11 :: st) h cs ss) := by
  rw [dL_law_507, ey_ok, nx_iload_0] <;> rfl
theorem qL_law_509 : ey F ini rt fin K0 K (decode cL_law 509) 509 L (st) h cs ss = (lhas L 2 ∧ isRf (lgt L 2) ∧ K 510 L (lgt L 2 :: st) h cs ss) := by
  rw [dL_law_509, ey_ok, nx_aload_n_3] <;> rfl
theorem qL_law_510 : ey F ini rt fin K0 K (decode cL_law 510) 510 L (st) h cs ss = (lhas L 3 ∧ isRf (lgt L 3) ∧ K 511 L (lgt L 3 :: st) h cs ss) := by
  rw [dL_law_510, ey_ok, nx_aload_n_3] <;> rfl
theorem qL_law_511 : ey F ini rt fin K0 K (decode cL_law 511) 511 L (st) h cs ss = (lhas L 4 ∧ isRf (lgt L 4) ∧ K 513 L (lgt L 4 :: st) h cs ss) := by
  rw [dL_law_511, ey_ok, nx_aload_2] <;> rfl
theorem qL_law_513 : ey F ini rt fin K0 K (decode cL_law 513) 513 L (st) h cs ss = (lhas L 5 ∧ isRf (lgt L 5) ∧ K 515 L (lgt L 5 :: st) h cs ss) := by
  rw [dL_law_513, ey_ok, nx_aload_2] <;> rfl
theorem qL_law_515 : ey F ini rt fin K0 K (decode cL_law 515) 515 L (st) h cs ss = (lhas L 6 ∧ isRf (lgt L 6) ∧ K 517 L (lgt L 6 :: st) h cs ss) := by
  rw [dL_law_515, ey_ok, nx_aload_2] <;> rfl
theorem qL_law_517 : ey F ini rt fin K0 K (decode cL_law 517) 517 L (st) h cs ss = (lhas L 7 ∧ isRf (lgt L 7) ∧ K 519 L (lgt L 7 :: st) h cs ss) := by
  rw [dL_law_517, ey_ok, nx_aload_2] <;> rfl
theorem qL_law_519 : ey F ini rt fin K0 K (decode cL_law 519) 519 L (st) h cs ss = (lhas L 8 ∧ isRf (lgt L 8) ∧ K 521 L (lgt L 8 :: st) h cs ss) := by
  rw [dL_law_519, ey_ok, nx_aload_2] <;> rfl
theorem qL_law_521 : ey F ini rt fin K0 K (decode cL_law 521) 521 L (st) h cs ss = (K0 521 L st h cs ss) := by
  rw [dL_law_521, ey_ok, nx_invokestatic_73]
theorem qL_law_524 : ey F ini rt fin K0 K (decode cL_law 524) 524 L (.int x :: r) h cs ss = (13 < L.length ∧ K 526 (L.set 13 (some (.int x))) r h cs ss) := by
  rw [dL_law_524, ey_ok, nx_istore_4] <;> rfl
theorem qL_law_526 : ey F ini rt fin K0 K (decode cL_law 526) 526 L (st) h cs ss = (lhas L 13 ∧ isI (lgt L 13) ∧ K 528 L (lgt L 13 :: st) h cs ss) := by
  rw [dL_law_526, ey_ok, nx_iload_0] <;> rfl
theorem qL_law_528 : ey F ini rt fin K0 K (decode cL_law 528) 528 L (.int x :: r) h cs ss = (if x = 0 then K 552 L r h cs ss else K 531 L r h cs ss) := by
  rw [dL_law_528, ey_ok, nx_ifond_30]
  exact and_l (by unfold jok; decide)
theorem qL_law_531 : ey F ini rt fin K0 K (decode cL_law 531) 531 L (st) h cs ss = (lhas L 1 ∧ isRf (lgt L 1) ∧ K 532 L (lgt L 1 :: st) h cs ss) := by
  rw [dL_law_531, ey_ok, nx_aload_n_3] <;> rfl
theorem qL_law_532 : ey F ini rt fin K0 K (decode cL_law 532) 532 L (st) h cs ss = (lhas L 11 ∧ isI (lgt L 11) ∧ K 534 L (lgt L 11 :: st) h cs ss) := by
  rw [dL_law_532, ey_ok, nx_iload_0] <;> rfl
theorem qL_law_534 : ey F ini rt fin K0 K (decode cL_law 534) 534 L (st) h cs ss = (lhas L 2 ∧ isRf (lgt L 2) ∧ K 535 L (lgt L 2 :: st) h cs ss) := by
  rw [dL_law_534, ey_ok, nx_aload_n_3] <;> rfl
theorem qL_law_535 : ey F ini rt fin K0 K (decode cL_law 535) 535 L (st) h cs ss = (lhas L 3 ∧ isRf (lgt L 3) ∧ K 536 L (lgt L 3 :: st) h cs ss) := by
  rw [dL_law_535, ey_ok, nx_aload_n_3] <;> rfl
theorem qL_law_536 : ey F ini rt fin K0 K (decode cL_law 536) 536 L (st) h cs ss = (lhas L 4 ∧ isRf (lgt L 4) ∧ K 538 L (lgt L 4 :: st) h cs ss) := by
  rw [dL_law_536, ey_ok, nx_aload_2] <;> rfl
theorem qL_law_538 : ey F ini rt fin K0 K (decode cL_law 538) 538 L (st) h cs ss = (lhas L 5 ∧ isRf (lgt L 5) ∧ K 540 L (lgt L 5 :: st) h cs ss) := by
  rw [dL_law_538, ey_ok, nx_aload_2] <;> rfl
theorem qL_law_540 : ey F ini rt fin K0 K (decode cL_law 540) 540 L (st) h cs ss = (lhas L 6 ∧ isRf (lgt L 6) ∧ K 542 L (lgt L 6 :: st) h cs ss) := by
  rw [dL_law_540, ey_ok, nx_aload_2] <;> rfl
theorem qL_law_542 : ey F ini rt fin K0 K (decode cL_law 542) 542 L (st) h cs ss = (lhas L 7 ∧ isRf (lgt L 7) ∧ K 544 L (lgt L 7 :: st) h cs ss) := by
  rw [dL_law_542, ey_ok, nx_aload_2] <;> rfl
theorem qL_law_544 : ey F ini rt fin K0 K (decode cL_law 544) 544 L (st) h cs ss = (lhas L 8 ∧ isRf (lgt L 8) ∧ K 546 L (lgt L 8 :: st) h cs ss) := by
  rw [dL_law_544, ey_ok, nx_aload_2] <;> rfl
theorem qL_law_546 : ey F ini rt fin K0 K (decode cL_law 546) 546 L (st) h cs ss = (K0 546 L st h cs ss) := by
  rw [dL_law_546, ey_ok, nx_invokestatic_73]
theorem qL_law_549 : ey F ini rt fin K0 K (decode cL_law 549) 549 L (.int x :: r) h cs ss = (if ¬ x = 0 then K 554 L r h cs ss else K 552 L r h cs ss) := by
  rw [dL_law_549, ey_ok, nx_ifond_31]
  exact and_l (by unfold jok; decide)
theorem qL_law_552 : ey F ini rt fin K0 K (decode cL_law 552) 552 L (st) h cs ss = (K 553 L (.int 0 :: st) h cs ss) := by
  rw [dL_law_552, ey_ok, nx_iconst_11] <;> rfl
theorem qL_law_553 : ey F ini rt fin K0 K (decode cL_law 553) 553 L ([.int x]) h cs ss = (rokI rt x ∧ fin (some (.int x)) h cs ss) := by
  rw [dL_law_553, ey_ok, nx_ireturn_68]
theorem qL_law_554 : ey F ini rt fin K0 K (decode cL_law 554) 554 L (st) h cs ss = (lhas L 9 ∧ isI (lgt L 9) ∧ K 557 (L.set 9 (some (inc (lgt L 9) 1))) st h cs ss) := by
  rw [dL_law_554, ey_ok, nx_iinc_10] <;> rfl
theorem qL_law_557 : ey F ini rt fin K0 K (decode cL_law 557) 557 L (st) h cs ss = (K 97 L st h cs ss) := by
  rw [dL_law_557, ey_ok, nx_goto_29]
  exact and_l (by unfold jok; decide)
theorem qL_law_560 : ey F ini rt fin K0 K (decode cL_law 560) 560 L (st) h cs ss = (K 561 L (.int 1 :: st) h cs ss) := by
  rw [dL_law_560, ey_ok, nx_iconst_11] <;> rfl
theorem qL_law_561 : ey F ini rt fin K0 K (decode cL_law 561) 561 L ([.int x]) h cs ss = (rokI rt x ∧ fin (some (.int x)) h cs ss) := by
  rw [dL_law_561, ey_ok, nx_ireturn_68]
end QQ
