section QQ
variable {F : Nat → Option Fq} {ini : Option Nat} {rt : Option FieldType} {fin : Option Value → Hp → Nat → Nat → Prop} {K0 K : Kt} {L : List (Option Value)} {h : Hp} {cs ss : Nat} {r st : List Value} {x y i : Int32} {a a2 : Nat} {v : Value} {lx ly : Int64}
theorem qL_pass_0 : ey F ini rt fin K0 K (decode cL_pass 0) 0 L (st) h cs ss = (lhas L 2 ∧ isRf (lgt L 2) ∧ K 1 L (lgt L 2 :: st) h cs ss) := by
  rw [dL_pass_0, ey_ok, nx_aload_n_3] <;> rfl
theorem qL_pass_1 : ey F ini rt fin K0 K (decode cL_pass 1) 1 L (st) h cs ss = (K 2 L (.int 0 :: st) h cs ss) := by
  rw [dL_pass_1, ey_ok, nx_iconst_11] <;> rfl
theorem qL_pass_2 : ey F ini rt fin K0 K (decode cL_pass 2) 2 L (st) h cs ss = (lhas L 0 ∧ isRf (lgt L 0) ∧ K 3 L (lgt L 0 :: st) h cs ss) := by
  rw [dL_pass_2, ey_ok, nx_aload_n_3] <;> rfl
theorem qL_pass_3 : ey F ini rt fin K0 K (decode cL_pass 3) 3 L (st) h cs ss = (lhas L 1 ∧ isI (lgt L 1) ∧ K 4 L (lgt L 1 :: st) h cs ss) := by
  rw [dL_pass_3, ey_ok, nx_iload_n_1] <;> rfl
theorem qL_pass_4 : ey F ini rt fin K0 K (decode cL_pass 4) 4 L (st) h cs ss = (K0 4 L st h cs ss) := by
  rw [dL_pass_4, ey_ok, nx_invokevirtual_72]
theorem qL_pass_7 : ey F ini rt fin K0 K (decode cL_pass 7) 7 L (.int x :: r) h cs ss = (K 8 L (.long x.toInt64 :: r) h cs ss) := by
  rw [dL_pass_7, ey_ok, nx_i2l_24]
theorem qL_pass_8 : ey F ini rt fin K0 K (decode cL_pass 8) 8 L (.long lx :: .int i :: .ref a :: r) h cs ss = (isA (h.1 a) (fun k m => k = 3 ∧ vp_in i m) ∧ K 9 L r (h.1, hup h.2 a i.toNatClampNeg (.long lx)) cs ss) := by
  rw [dL_pass_8, ey_ok, nx_lastore_65]
theorem qL_pass_9 : ey F ini rt fin K0 K (decode cL_pass 9) 9 L (st) h cs ss = (K 18 L st h cs ss) := by
  rw [dL_pass_9, ey_ok, nx_goto_29]
  exact and_l (by unfold jok; decide)
theorem qL_pass_12r : ey F ini rt fin K0 K (decode cL_pass 12) 12 L (.ref a :: r) h cs ss = (3 < L.length ∧ K 13 (L.set 3 (some (.ref a))) r h cs ss) := by
  rw [dL_pass_12, ey_ok, nx_astore_n_8] <;> rfl
theorem qL_pass_12n : ey F ini rt fin K0 K (decode cL_pass 12) 12 L (.null :: r) h cs ss = (3 < L.length ∧ K 13 (L.set 3 (some .null)) r h cs ss) := by
  rw [dL_pass_12, ey_ok, nx_astore_n_9] <;> rfl
theorem qL_pass_13 : ey F ini rt fin K0 K (decode cL_pass 13) 13 L (st) h cs ss = (K 14 L (.int 1 :: st) h cs ss) := by
  rw [dL_pass_13, ey_ok, nx_iconst_11] <;> rfl
theorem qL_pass_14 : ey F ini rt fin K0 K (decode cL_pass 14) 14 L ([.int x]) h cs ss = (rokI rt x ∧ fin (some (.int x)) h cs ss) := by
  rw [dL_pass_14, ey_ok, nx_ireturn_68]
theorem qL_pass_15r : ey F ini rt fin K0 K (decode cL_pass 15) 15 L (.ref a :: r) h cs ss = (3 < L.length ∧ K 16 (L.set 3 (some (.ref a))) r h cs ss) := by
  rw [dL_pass_15, ey_ok, nx_astore_n_8] <;> rfl
theorem qL_pass_15n : ey F ini rt fin K0 K (decode cL_pass 15) 15 L (.null :: r) h cs ss = (3 < L.length ∧ K 16 (L.set 3 (some .null)) r h cs ss) := by
  rw [dL_pass_15, ey_ok, nx_astore_n_9] <;> rfl
theorem qL_pass_16 : ey F ini rt fin K0 K (decode cL_pass 16) 16 L (st) h cs ss = (K 17 L (.int 2 :: st) h cs ss) := by
  rw [dL_pass_16, ey_ok, nx_iconst_11] <;> rfl
theorem qL_pass_17 : ey F ini rt fin K0 K (decode cL_pass 17) 17 L ([.int x]) h cs ss = (rokI rt x ∧ fin (some (.int x)) h cs ss) := by
  rw [dL_pass_17, ey_ok, nx_ireturn_68]
theorem qL_pass_18 : ey F ini rt fin K0 K (decode cL_pass 18) 18 L (st) h cs ss = (K 19 L (.int 0 :: st) h cs ss) := by
  rw [dL_pass_18, ey_ok, nx_iconst_11] <;> rfl
theorem qL_pass_19 : ey F ini rt fin K0 K (decode cL_pass 19) 19 L ([.int x]) h cs ss = (rokI rt x ∧ fin (some (.int x)) h cs ss) := by
  rw [dL_pass_19, ey_ok, nx_ireturn_68]
theorem qL_worker_0 : ey F ini rt fin K0 K (decode cL_worker 0) 0 L (st) h cs ss = (lhas L 4 ∧ isRf (lgt L 4) ∧ K 2 L (lgt L 4 :: st) h cs ss) := by
  rw [dL_worker_0, ey_ok, nx_aload_2] <;> rfl
theorem qL_worker_2 : ey F ini rt fin K0 K (decode cL_worker 2) 2 L (st) h cs ss = (K 3 L (.int 0 :: st) h cs ss) := by
  rw [dL_worker_2, ey_ok, nx_iconst_11] <;> rfl
theorem qL_worker_3 : ey F ini rt fin K0 K (decode cL_worker 3) 3 L (st) h cs ss = (lhas L 0 ∧ isRf (lgt L 0) ∧ K 4 L (lgt L 0 :: st) h cs ss) := by
  rw [dL_worker_3, ey_ok, nx_aload_n_3] <;> rfl
theorem qL_worker_4 : ey F ini rt fin K0 K (decode cL_worker 4) 4 L (st) h cs ss = (lhas L 1 ∧ isI (lgt L 1) ∧ K 5 L (lgt L 1 :: st) h cs ss) := by
  rw [dL_worker_4, ey_ok, nx_iload_n_1] <;> rfl
theorem qL_worker_5 : ey F ini rt fin K0 K (decode cL_worker 5) 5 L (st) h cs ss = (lhas L 2 ∧ isI (lgt L 2) ∧ K 6 L (lgt L 2 :: st) h cs ss) := by
  rw [dL_worker_5, ey_ok, nx_iload_n_1] <;> rfl
theorem qL_worker_6 : ey F ini rt fin K0 K (decode cL_worker 6) 6 L (st) h cs ss = (lhas L 3 ∧ isI (lgt L 3) ∧ K 7 L (lgt L 3 :: st) h cs ss) := by
  rw [dL_worker_6, ey_ok, nx_iload_n_1] <;> rfl
theorem qL_worker_7 : ey F ini rt fin K0 K (decode cL_worker 7) 7 L (st) h cs ss = (K0 7 L st h cs ss) := by
  rw [dL_worker_7, ey_ok, nx_invokevirtual_72]
theorem qL_worker_10 : ey F ini rt fin K0 K (decode cL_worker 10) 10 L (.int x :: r) h cs ss = (K 11 L (.long x.toInt64 :: r) h cs ss) := by
  rw [dL_worker_10, ey_ok, nx_i2l_24]
theorem qL_worker_11 : ey F ini rt fin K0 K (decode cL_worker 11) 11 L (.long lx :: .int i :: .ref a :: r) h cs ss = (isA (h.1 a) (fun k m => k = 3 ∧ vp_in i m) ∧ K 12 L r (h.1, hup h.2 a i.toNatClampNeg (.long lx)) cs ss) := by
  rw [dL_worker_11, ey_ok, nx_lastore_65]
theorem qL_worker_12 : ey F ini rt fin K0 K (decode cL_worker 12) 12 L (st) h cs ss = (K 23 L st h cs ss) := by
  rw [dL_worker_12, ey_ok, nx_goto_29]
  exact and_l (by unfold jok; decide)
theorem qL_worker_15r : ey F ini rt fin K0 K (decode cL_worker 15) 15 L (.ref a :: r) h cs ss = (5 < L.length ∧ K 17 (L.set 5 (some (.ref a))) r h cs ss) := by
  rw [dL_worker_15, ey_ok, nx_astore_6] <;> rfl
theorem qL_worker_15n : ey F ini rt fin K0 K (decode cL_worker 15) 15 L (.null :: r) h cs ss = (5 < L.length ∧ K 17 (L.set 5 (some .null)) r h cs ss) := by
  rw [dL_worker_15, ey_ok, nx_astore_7] <;> rfl
theorem qL_worker_17 : ey F ini rt fin K0 K (decode cL_worker 17) 17 L (st) h cs ss = (K 18 L (.int 1 :: st) h cs ss) := by
  rw [dL_worker_17, ey_ok, nx_iconst_11] <;> rfl
theorem qL_worker_18 : ey F ini rt fin K0 K (decode cL_worker 18) 18 L ([.int x]) h cs ss = (rokI rt x ∧ fin (some (.int x)) h cs ss) := by
  rw [dL_worker_18, ey_ok, nx_ireturn_68]
theorem qL_worker_19r : ey F ini rt fin K0 K (decode cL_worker 19) 19 L (.ref a :: r) h cs ss = (5 < L.length ∧ K 21 (L.set 5 (some (.ref a))) r h cs ss) := by
  rw [dL_worker_19, ey_ok, nx_astore_6] <;> rfl
theorem qL_worker_19n : ey F ini rt fin K0 K (decode cL_worker 19) 19 L (.null :: r) h cs ss = (5 < L.length ∧ K 21 (L.set 5 (some .null)) r h cs ss) := by
  rw [dL_worker_19, ey_ok, nx_astore_7] <;> rfl
theorem qL_worker_21 : ey F ini rt fin K0 K (decode cL_worker 21) 21 L (st) h cs ss = (K 22 L (.int 2 :: st) h cs ss) := by
  rw [dL_worker_21, ey_ok, nx_iconst_11] <;> rfl
theorem qL_worker_22 : ey F ini rt fin K0 K (decode cL_worker 22) 22 L ([.int x]) h cs ss = (rokI rt x ∧ fin (some (.int x)) h cs ss) := by
  rw [dL_worker_22, ey_ok, nx_ireturn_68]
theorem qL_worker_23 : ey F ini rt fin K0 K (decode cL_worker 23) 23 L (st) h cs ss = (K 24 L (.int 0 :: st) h cs ss) := by
  rw [dL_worker_23, ey_ok, nx_iconst_11] <;> rfl
theorem qL_worker_24 : ey F ini rt fin K0 K (decode cL_worker 24) 24 L ([.int x]) h cs ss = (rokI rt x ∧ fin (some (.int x)) h cs ss) := by
  rw [dL_worker_24, ey_ok, nx_ireturn_68]
theorem qL_shift_0 : ey F ini rt fin K0 K (decode cL_shift 0) 0 L (st) h cs ss = (lhas L 4 ∧ isRf (lgt L 4) ∧ K 2 L (lgt L 4 :: st) h cs ss) := by
  rw [dL_shift_0, ey_ok, nx_aload_2] <;> rfl
theorem qL_shift_2 : ey F ini rt fin K0 K (decode cL_shift 2) 2 L (st) h cs ss = (K 3 L (.int 0 :: st) h cs ss) := by
  rw [dL_shift_2, ey_ok, nx_iconst_11] <;> rfl
theorem qL_shift_3 : ey F ini rt fin K0 K (decode cL_shift 3) 3 L (st) h cs ss = (lhas L 0 ∧ isRf (lgt L 0) ∧ K 4 L (lgt L 0 :: st) h cs ss) := by
  rw [dL_shift_3, ey_ok, nx_aload_n_3] <;> rfl
theorem qL_shift_4 : ey F ini rt fin K0 K (decode cL_shift 4) 4 L (st) h cs ss = (lhas L 1 ∧ isI (lgt L 1) ∧ K 5 L (lgt L 1 :: st) h cs ss) := by
  rw [dL_shift_4, ey_ok, nx_iload_n_1] <;> rfl
theorem qL_shift_5 : ey F ini rt fin K0 K (decode cL_shift 5) 5 L (st) h cs ss = (lhas L 2 ∧ isI (lgt L 2) ∧ K 6 L (lgt L 2 :: st) h cs ss) := by
  rw [dL_shift_5, ey_ok, nx_iload_n_1] <;> rfl
theorem qL_shift_6 : ey F ini rt fin K0 K (decode cL_shift 6) 6 L (st) h cs ss = (lhas L 3 ∧ isI (lgt L 3) ∧ K 7 L (lgt L 3 :: st) h cs ss) := by
  rw [dL_shift_6, ey_ok, nx_iload_n_1] <;> rfl
theorem qL_shift_7 : ey F ini rt fin K0 K (decode cL_shift 7) 7 L (st) h cs ss = (K0 7 L st h cs ss) := by
  rw [dL_shift_7, ey_ok, nx_invokevirtual_72]
theorem qL_shift_10 : ey F ini rt fin K0 K (decode cL_shift 10) 10 L (.int x :: r) h cs ss = (K 11 L (.long x.toInt64 :: r) h cs ss) := by
  rw [dL_shift_10, ey_ok, nx_i2l_24]
theorem qL_shift_11 : ey F ini rt fin K0 K (decode cL_shift 11) 11 L (.long lx :: .int i :: .ref a :: r) h cs ss = (isA (h.1 a) (fun k m => k = 3 ∧ vp_in i m) ∧ K 12 L r (h.1, hup h.2 a i.toNatClampNeg (.long lx)) cs ss) := by
  rw [dL_shift_11, ey_ok, nx_lastore_65]
theorem qL_shift_12 : ey F ini rt fin K0 K (decode cL_shift 12) 12 L (st) h cs ss = (K 23 L st h cs ss) := by
  rw [dL_shift_12, ey_ok, nx_goto_29]
  exact and_l (by unfold jok; decide)
theorem qL_shift_15r : ey F ini rt fin K0 K (decode cL_shift 15) 15 L (.ref a :: r) h cs ss = (5 < L.length ∧ K 17 (L.set 5 (some (.ref a))) r h cs ss) := by
  rw [dL_shift_15, ey_ok, nx_astore_6] <;> rfl
theorem qL_shift_15n : ey F ini rt fin K0 K (decode cL_shift 15) 15 L (.null :: r) h cs ss = (5 < L.length ∧ K 17 (L.set 5 (some .null)) r h cs ss) := by
  rw [dL_shift_15, ey_ok, nx_astore_7] <;> rfl
theorem qL_shift_17 : ey F ini rt fin K0 K (decode cL_shift 17) 17 L (st) h cs ss = (K 18 L (.int 1 :: st) h cs ss) := by
  rw [dL_shift_17, ey_ok, nx_iconst_11] <;> rfl
theorem qL_shift_18 : ey F ini rt fin K0 K (decode cL_shift 18) 18 L ([.int x]) h cs ss = (rokI rt x ∧ fin (some (.int x)) h cs ss) := by
  rw [dL_shift_18, ey_ok, nx_ireturn_68]
theorem qL_shift_19r : ey F ini rt fin K0 K (decode cL_shift 19) 19 L (.ref a :: r) h cs ss = (5 < L.length ∧ K 21 (L.set 5 (some (.ref a))) r h cs ss) := by
  rw [dL_shift_19, ey_ok, nx_astore_6] <;> rfl
theorem qL_shift_19n : ey F ini rt fin K0 K (decode cL_shift 19) 19 L (.null :: r) h cs ss = (5 < L.length ∧ K 21 (L.set 5 (some .null)) r h cs ss) := by
  rw [dL_shift_19, ey_ok, nx_astore_7] <;> rfl
theorem qL_shift_21 : ey F ini rt fin K0 K (decode cL_shift 21) 21 L (st) h cs ss = (K 22 L (.int 2 :: st) h cs ss) := by
  rw [dL_shift_21, ey_ok, nx_iconst_11] <;> rfl
theorem qL_shift_22 : ey F ini rt fin K0 K (decode cL_shift 22) 22 L ([.int x]) h cs ss = (rokI rt x ∧ fin (some (.int x)) h cs ss) := by
  rw [dL_shift_22, ey_ok, nx_ireturn_68]
theorem qL_shift_23 : ey F ini rt fin K0 K (decode cL_shift 23) 23 L (st) h cs ss = (K 24 L (.int 0 :: st) h cs ss) := by
  rw [dL_shift_23, ey_ok, nx_iconst_11] <;> rfl
theorem qL_shift_24 : ey F ini rt fin K0 K (decode cL_shift 24) 24 L ([.int x]) h cs ss = (rokI rt x ∧ fin (some (.int x)) h cs ss) := by
  rw [dL_shift_24, ey_ok, nx_ireturn_68]
theorem qL_hold_0 : ey F ini rt fin K0 K (decode cL_hold 0) 0 L (st) h cs ss = (lhas L 3 ∧ isRf (lgt L 3) ∧ K 1 L (lgt L 3 :: st) h cs ss) := by
  rw [dL_hold_0, ey_ok, nx_aload_n_3] <;> rfl
theorem qL_hold_1 : ey F ini rt fin K0 K (decode cL_hold 1) 1 L (st) h cs ss = (K 2 L (.int 0 :: st) h cs ss) := by
  rw [dL_hold_1, ey_ok, nx_iconst_11] <;> rfl
theorem qL_hold_2 : ey F ini rt fin K0 K (decode cL_hold 2) 2 L (st) h cs ss = (lhas L 0 ∧ isRf (lgt L 0) ∧ K 3 L (lgt L 0 :: st) h cs ss) := by
  rw [dL_hold_2, ey_ok, nx_aload_n_3] <;> rfl
theorem qL_hold_3 : ey F ini rt fin K0 K (decode cL_hold 3) 3 L (st) h cs ss = (lhas L 1 ∧ isI (lgt L 1) ∧ K 4 L (lgt L 1 :: st) h cs ss) := by
  rw [dL_hold_3, ey_ok, nx_iload_n_1] <;> rfl
theorem qL_hold_4 : ey F ini rt fin K0 K (decode cL_hold 4) 4 L (st) h cs ss = (lhas L 2 ∧ isI (lgt L 2) ∧ K 5 L (lgt L 2 :: st) h cs ss) := by
  rw [dL_hold_4, ey_ok, nx_iload_n_1] <;> rfl
theorem qL_hold_5 : ey F ini rt fin K0 K (decode cL_hold 5) 5 L (st) h cs ss = (K0 5 L st h cs ss) := by
  rw [dL_hold_5, ey_ok, nx_invokevirtual_72]
theorem qL_hold_8 : ey F ini rt fin K0 K (decode cL_hold 8) 8 L (.int x :: r) h cs ss = (K 9 L (.long x.toInt64 :: r) h cs ss) := by
  rw [dL_hold_8, ey_ok, nx_i2l_24]
theorem qL_hold_9 : ey F ini rt fin K0 K (decode cL_hold 9) 9 L (.long lx :: .int i :: .ref a :: r) h cs ss = (isA (h.1 a) (fun k m => k = 3 ∧ vp_in i m) ∧ K 10 L r (h.1, hup h.2 a i.toNatClampNeg (.long lx)) cs ss) := by
  rw [dL_hold_9, ey_ok, nx_lastore_65]
theorem qL_hold_10 : ey F ini rt fin K0 K (decode cL_hold 10) 10 L (st) h cs ss = (K 21 L st h cs ss) := by
  rw [dL_hold_10, ey_ok, nx_goto_29]
  exact and_l (by unfold jok; decide)
theorem qL_hold_13r : ey F ini rt fin K0 K (decode cL_hold 13) 13 L (.ref a :: r) h cs ss = (4 < L.length ∧ K 15 (L.set 4 (some (.ref a))) r h cs ss) := by
  rw [dL_hold_13, ey_ok, nx_astore_6] <;> rfl
theorem qL_hold_13n : ey F ini rt fin K0 K (decode cL_hold 13) 13 L (.null :: r) h cs ss = (4 < L.length ∧ K 15 (L.set 4 (some .null)) r h cs ss) := by
  rw [dL_hold_13, ey_ok, nx_astore_7] <;> rfl
theorem qL_hold_15 : ey F ini rt fin K0 K (decode cL_hold 15) 15 L (st) h cs ss = (K 16 L (.int 1 :: st) h cs ss) := by
  rw [dL_hold_15, ey_ok, nx_iconst_11] <;> rfl
theorem qL_hold_16 : ey F ini rt fin K0 K (decode cL_hold 16) 16 L ([.int x]) h cs ss = (rokI rt x ∧ fin (some (.int x)) h cs ss) := by
  rw [dL_hold_16, ey_ok, nx_ireturn_68]
theorem qL_hold_17r : ey F ini rt fin K0 K (decode cL_hold 17) 17 L (.ref a :: r) h cs ss = (4 < L.length ∧ K 19 (L.set 4 (some (.ref a))) r h cs ss) := by
  rw [dL_hold_17, ey_ok, nx_astore_6] <;> rfl
theorem qL_hold_17n : ey F ini rt fin K0 K (decode cL_hold 17) 17 L (.null :: r) h cs ss = (4 < L.length ∧ K 19 (L.set 4 (some .null)) r h cs ss) := by
  rw [dL_hold_17, ey_ok, nx_astore_7] <;> rfl
theorem qL_hold_19 : ey F ini rt fin K0 K (decode cL_hold 19) 19 L (st) h cs ss = (K 20 L (.int 2 :: st) h cs ss) := by
  rw [dL_hold_19, ey_ok, nx_iconst_11] <;> rfl
theorem qL_hold_20 : ey F ini rt fin K0 K (decode cL_hold 20) 20 L ([.int x]) h cs ss = (rokI rt x ∧ fin (some (.int x)) h cs ss) := by
  rw [dL_hold_20, ey_ok, nx_ireturn_68]
theorem qL_hold_21 : ey F ini rt fin K0 K (decode cL_hold 21) 21 L (st) h cs ss = (K 22 L (.int 0 :: st) h cs ss) := by
  rw [dL_hold_21, ey_ok, nx_iconst_11] <;> rfl
theorem qL_hold_22 : ey F ini rt fin K0 K (decode cL_hold 22) 22 L ([.int x]) h cs ss = (rokI rt x ∧ fin (some (.int x)) h cs ss) := by
  rw [dL_hold_22, ey_ok, nx_ireturn_68]
theorem qL_stamp_0 : ey F ini rt fin K0 K (decode cL_stamp 0) 0 L (st) h cs ss = (lhas L 4 ∧ isRf (lgt L 4) ∧ K 2 L (lgt L 4 :: st) h cs ss) := by
  rw [dL_stamp_0, ey_ok, nx_aload_2] <;> rfl
theorem qL_stamp_2 : ey F ini rt fin K0 K (decode cL_stamp 2) 2 L (st) h cs ss = (K 3 L (.int 0 :: st) h cs ss) := by
  rw [dL_stamp_2, ey_ok, nx_iconst_11] <;> rfl
theorem qL_stamp_3 : ey F ini rt fin K0 K (decode cL_stamp 3) 3 L (st) h cs ss = (lhas L 0 ∧ isRf (lgt L 0) ∧ K 4 L (lgt L 0 :: st) h cs ss) := by
  rw [dL_stamp_3, ey_ok, nx_aload_n_3] <;> rfl
theorem qL_stamp_4 : ey F ini rt fin K0 K (decode cL_stamp 4) 4 L (st) h cs ss = (lhas L 1 ∧ isI (lgt L 1) ∧ K 5 L (lgt L 1 :: st) h cs ss) := by
  rw [dL_stamp_4, ey_ok, nx_iload_n_1] <;> rfl
theorem qL_stamp_5 : ey F ini rt fin K0 K (decode cL_stamp 5) 5 L (st) h cs ss = (lhas L 2 ∧ isI (lgt L 2) ∧ K 6 L (lgt L 2 :: st) h cs ss) := by
  rw [dL_stamp_5, ey_ok, nx_iload_n_1] <;> rfl
theorem qL_stamp_6 : ey F ini rt fin K0 K (decode cL_stamp 6) 6 L (st) h cs ss = (lhas L 3 ∧ isI (lgt L 3) ∧ K 7 L (lgt L 3 :: st) h cs ss) := by
  rw [dL_stamp_6, ey_ok, nx_iload_n_1] <;> rfl
theorem qL_stamp_7 : ey F ini rt fin K0 K (decode cL_stamp 7) 7 L (st) h cs ss = (K0 7 L st h cs ss) := by
  rw [dL_stamp_7, ey_ok, nx_invokevirtual_72]
theorem qL_stamp_10 : ey F ini rt fin K0 K (decode cL_stamp 10) 10 L (.int x :: r) h cs ss = (K 11 L (.long x.toInt64 :: r) h cs ss) := by
  rw [dL_stamp_10, ey_ok, nx_i2l_24]
theorem qL_stamp_11 : ey F ini rt fin K0 K (decode cL_stamp 11) 11 L (.long lx :: .int i :: .ref a :: r) h cs ss = (isA (h.1 a) (fun k m => k = 3 ∧ vp_in i m) ∧ K 12 L r (h.1, hup h.2 a i.toNatClampNeg (.long lx)) cs ss) := by
  rw [dL_stamp_11, ey_ok, nx_lastore_65]
theorem qL_stamp_12 : ey F ini rt fin K0 K (decode cL_stamp 12) 12 L (st) h cs ss = (K 27 L st h cs ss) := by
  rw [dL_stamp_12, ey_ok, nx_goto_29]
  exact and_l (by unfold jok; decide)
theorem qL_stamp_15r : ey F ini rt fin K0 K (decode cL_stamp 15) 15 L (.ref a :: r) h cs ss = (5 < L.length ∧ K 17 (L.set 5 (some (.ref a))) r h cs ss) := by
  rw [dL_stamp_15, ey_ok, nx_astore_6] <;> rfl
theorem qL_stamp_15n : ey F ini rt fin K0 K (decode cL_stamp 15) 15 L (.null :: r) h cs ss = (5 < L.length ∧ K 17 (L.set 5 (some .null)) r h cs ss) := by
  rw [dL_stamp_15, ey_ok, nx_astore_7] <;> rfl
theorem qL_stamp_17 : ey F ini rt fin K0 K (decode cL_stamp 17) 17 L (st) h cs ss = (K 18 L (.int 1 :: st) h cs ss) := by
  rw [dL_stamp_17, ey_ok, nx_iconst_11] <;> rfl
theorem qL_stamp_18 : ey F ini rt fin K0 K (decode cL_stamp 18) 18 L ([.int x]) h cs ss = (rokI rt x ∧ fin (some (.int x)) h cs ss) := by
  rw [dL_stamp_18, ey_ok, nx_ireturn_68]
theorem qL_stamp_19r : ey F ini rt fin K0 K (decode cL_stamp 19) 19 L (.ref a :: r) h cs ss = (5 < L.length ∧ K 21 (L.set 5 (some (.ref a))) r h cs ss) := by
  rw [dL_stamp_19, ey_ok, nx_astore_6] <;> rfl
theorem qL_stamp_19n : ey F ini rt fin K0 K (decode cL_stamp 19) 19 L (.null :: r) h cs ss = (5 < L.length ∧ K 21 (L.set 5 (some .null)) r h cs ss) := by
  rw [dL_stamp_19, ey_ok, nx_astore_7] <;> rfl
theorem qL_stamp_21 : ey F ini rt fin K0 K (decode cL_stamp 21) 21 L (st) h cs ss = (K 22 L (.int 2 :: st) h cs ss) := by
  rw [dL_stamp_21, ey_ok, nx_iconst_11] <;> rfl
theorem qL_stamp_22 : ey F ini rt fin K0 K (decode cL_stamp 22) 22 L ([.int x]) h cs ss = (rokI rt x ∧ fin (some (.int x)) h cs ss) := by
  rw [dL_stamp_22, ey_ok, nx_ireturn_68]
theorem qL_stamp_23r : ey F ini rt fin K0 K (decode cL_stamp 23) 23 L (.ref a :: r) h cs ss = (5 < L.length ∧ K 25 (L.set 5 (some (.ref a))) r h cs ss) := by
  rw [dL_stamp_23, ey_ok, nx_astore_6] <;> rfl
theorem qL_stamp_23n : ey F ini rt fin K0 K (decode cL_stamp 23) 23 L (.null :: r) h cs ss = (5 < L.length ∧ K 25 (L.set 5 (some .null)) r h cs ss) := by
  rw [dL_stamp_23, ey_ok, nx_astore_7] <;> rfl
theorem qL_stamp_25 : ey F ini rt fin K0 K (decode cL_stamp 25) 25 L (st) h cs ss = (K 26 L (.int 3 :: st) h cs ss) := by
  rw [dL_stamp_25, ey_ok, nx_iconst_11] <;> rfl
theorem qL_stamp_26 : ey F ini rt fin K0 K (decode cL_stamp 26) 26 L ([.int x]) h cs ss = (rokI rt x ∧ fin (some (.int x)) h cs ss) := by
  rw [dL_stamp_26, ey_ok, nx_ireturn_68]
theorem qL_stamp_27 : ey F ini rt fin K0 K (decode cL_stamp 27) 27 L (st) h cs ss = (K 28 L (.int 0 :: st) h cs ss) := by
  rw [dL_stamp_27, ey_ok, nx_iconst_11] <;> rfl
theorem qL_stamp_28 : ey F ini rt fin K0 K (decode cL_stamp 28) 28 L ([.int x]) h cs ss = (rokI rt x ∧ fin (some (.int x)) h cs ss) := by
  rw [dL_stamp_28, ey_ok, nx_ireturn_68]
theorem qL_holder_0 : ey F ini rt fin K0 K (decode cL_holder 0) 0 L (st) h cs ss = (lhas L 2 ∧ isRf (lgt L 2) ∧ K 1 L (lgt L 2 :: st) h cs ss) := by
  rw [dL_holder_0, ey_ok, nx_aload_n_3] <;> rfl
theorem qL_holder_1 : ey F ini rt fin K0 K (decode cL_holder 1) 1 L (st) h cs ss = (K 2 L (.int 0 :: st) h cs ss) := by
  rw [dL_holder_1, ey_ok, nx_iconst_11] <;> rfl
theorem qL_holder_2 : ey F ini rt fin K0 K (decode cL_holder 2) 2 L (st) h cs ss = (lhas L 0 ∧ isRf (lgt L 0) ∧ K 3 L (lgt L 0 :: st) h cs ss) := by
  rw [dL_holder_2, ey_ok, nx_aload_n_3] <;> rfl
theorem qL_holder_3 : ey F ini rt fin K0 K (decode cL_holder 3) 3 L (st) h cs ss = (lhas L 1 ∧ isI (lgt L 1) ∧ K 4 L (lgt L 1 :: st) h cs ss) := by
  rw [dL_holder_3, ey_ok, nx_iload_n_1] <;> rfl
theorem qL_holder_4 : ey F ini rt fin K0 K (decode cL_holder 4) 4 L (st) h cs ss = (K0 4 L st h cs ss) := by
  rw [dL_holder_4, ey_ok, nx_invokevirtual_72]
theorem qL_holder_7 : ey F ini rt fin K0 K (decode cL_holder 7) 7 L (.int x :: r) h cs ss = (K 8 L (.long x.toInt64 :: r) h cs ss) := by
  rw [dL_holder_7, ey_ok, nx_i2l_24]
theorem qL_holder_8 : ey F ini rt fin K0 K (decode cL_holder 8) 8 L (.long lx :: .int i :: .ref a :: r) h cs ss = (isA (h.1 a) (fun k m => k = 3 ∧ vp_in i m) ∧ K 9 L r (h.1, hup h.2 a i.toNatClampNeg (.long lx)) cs ss) := by
  rw [dL_holder_8, ey_ok, nx_lastore_65]
theorem qL_holder_9 : ey F ini rt fin K0 K (decode cL_holder 9) 9 L (st) h cs ss = (K 15 L st h cs ss) := by
  rw [dL_holder_9, ey_ok, nx_goto_29]
  exact and_l (by unfold jok; decide)
theorem qL_holder_12r : ey F ini rt fin K0 K (decode cL_holder 12) 12 L (.ref a :: r) h cs ss = (3 < L.length ∧ K 13 (L.set 3 (some (.ref a))) r h cs ss) := by
  rw [dL_holder_12, ey_ok, nx_astore_n_8] <;> rfl
theorem qL_holder_12n : ey F ini rt fin K0 K (decode cL_holder 12) 12 L (.null :: r) h cs ss = (3 < L.length ∧ K 13 (L.set 3 (some .null)) r h cs ss) := by
  rw [dL_holder_12, ey_ok, nx_astore_n_9] <;> rfl
theorem qL_holder_13 : ey F ini rt fin K0 K (decode cL_holder 13) 13 L (st) h cs ss = (K 14 L (.int 1 :: st) h cs ss) := by
  rw [dL_holder_13, ey_ok, nx_iconst_11] <;> rfl
theorem qL_holder_14 : ey F ini rt fin K0 K (decode cL_holder 14) 14 L ([.int x]) h cs ss = (rokI rt x ∧ fin (some (.int x)) h cs ss) := by
  rw [dL_holder_14, ey_ok, nx_ireturn_68]
theorem qL_holder_15 : ey F ini rt fin K0 K (decode cL_holder 15) 15 L (st) h cs ss = (K 16 L (.int 0 :: st) h cs ss) := by
  rw [dL_holder_15, ey_ok, nx_iconst_11] <;> rfl
theorem qL_holder_16 : ey F ini rt fin K0 K (decode cL_holder 16) 16 L ([.int x]) h cs ss = (rokI rt x ∧ fin (some (.int x)) h cs ss) := by
  rw [dL_holder_16, ey_ok, nx_ireturn_68]
theorem qL_shiftOf_0 : ey F ini rt fin K0 K (decode cL_shiftOf 0) 0 L (st) h cs ss = (lhas L 3 ∧ isRf (lgt L 3) ∧ K 1 L (lgt L 3 :: st) h cs ss) := by
  rw [dL_shiftOf_0, ey_ok, nx_aload_n_3] <;> rfl
theorem qL_shiftOf_1 : ey F ini rt fin K0 K (decode cL_shiftOf 1) 1 L (st) h cs ss = (K 2 L (.int 0 :: st) h cs ss) := by
  rw [dL_shiftOf_1, ey_ok, nx_iconst_11] <;> rfl
theorem qL_shiftOf_2 : ey F ini rt fin K0 K (decode cL_shiftOf 2) 2 L (st) h cs ss = (lhas L 0 ∧ isRf (lgt L 0) ∧ K 3 L (lgt L 0 :: st) h cs ss) := by
  rw [dL_shiftOf_2, ey_ok, nx_aload_n_3] <;> rfl
theorem qL_shiftOf_3 : ey F ini rt fin K0 K (decode cL_shiftOf 3) 3 L (st) h cs ss = (lhas L 1 ∧ isI (lgt L 1) ∧ K 4 L (lgt L 1 :: st) h cs ss) := by
  rw [dL_shiftOf_3, ey_ok, nx_iload_n_1] <;> rfl
theorem qL_shiftOf_4 : ey F ini rt fin K0 K (decode cL_shiftOf 4) 4 L (st) h cs ss = (lhas L 2 ∧ isI (lgt L 2) ∧ K 5 L (lgt L 2 :: st) h cs ss) := by
  rw [dL_shiftOf_4, ey_ok, nx_iload_n_1] <;> rfl
theorem qL_shiftOf_5 : ey F ini rt fin K0 K (decode cL_shiftOf 5) 5 L (st) h cs ss = (K0 5 L st h cs ss) := by
  rw [dL_shiftOf_5, ey_ok, nx_invokevirtual_72]
theorem qL_shiftOf_8 : ey F ini rt fin K0 K (decode cL_shiftOf 8) 8 L (.int x :: r) h cs ss = (K 9 L (.long x.toInt64 :: r) h cs ss) := by
  rw [dL_shiftOf_8, ey_ok, nx_i2l_24]
theorem qL_shiftOf_9 : ey F ini rt fin K0 K (decode cL_shiftOf 9) 9 L (.long lx :: .int i :: .ref a :: r) h cs ss = (isA (h.1 a) (fun k m => k = 3 ∧ vp_in i m) ∧ K 10 L r (h.1, hup h.2 a i.toNatClampNeg (.long lx)) cs ss) := by
  rw [dL_shiftOf_9, ey_ok, nx_lastore_65]
theorem qL_shiftOf_10 : ey F ini rt fin K0 K (decode cL_shiftOf 10) 10 L (st) h cs ss = (K 17 L st h cs ss) := by
  rw [dL_shiftOf_10, ey_ok, nx_goto_29]
  exact and_l (by unfold jok; decide)
theorem qL_shiftOf_13r : ey F ini rt fin K0 K (decode cL_shiftOf 13) 13 L (.ref a :: r) h cs ss = (4 < L.length ∧ K 15 (L.set 4 (some (.ref a))) r h cs ss) := by
  rw [dL_shiftOf_13, ey_ok, nx_astore_6] <;> rfl
theorem qL_shiftOf_13n : ey F ini rt fin K0 K (decode cL_shiftOf 13) 13 L (.null :: r) h cs ss = (4 < L.length ∧ K 15 (L.set 4 (some .null)) r h cs ss) := by
  rw [dL_shiftOf_13, ey_ok, nx_astore_7] <;> rfl
theorem qL_shiftOf_15 : ey F ini rt fin K0 K (decode cL_shiftOf 15) 15 L (st) h cs ss = (K 16 L (.int 1 :: st) h cs ss) := by
  rw [dL_shiftOf_15, ey_ok, nx_iconst_11] <;> rfl
theorem qL_shiftOf_16 : ey F ini rt fin K0 K (decode cL_shiftOf 16) 16 L ([.int x]) h cs ss = (rokI rt x ∧ fin (some (.int x)) h cs ss) := by
  rw [dL_shiftOf_16, ey_ok, nx_ireturn_68]
theorem qL_shiftOf_17 : ey F ini rt fin K0 K (decode cL_shiftOf 17) 17 L (st) h cs ss = (K 18 L (.int 0 :: st) h cs ss) := by
  rw [dL_shiftOf_17, ey_ok, nx_iconst_11] <;> rfl
theorem qL_shiftOf_18 : ey F ini rt fin K0 K (decode cL_shiftOf 18) 18 L ([.int x]) h cs ss = (rokI rt x ∧ fin (some (.int x)) h cs ss) := by
  rw [dL_shiftOf_18, ey_ok, nx_ireturn_68]
theorem qL_rest_0 : ey F ini rt fin K0 K (decode cL_rest 0) 0 L (st) h cs ss = (lhas L 2 ∧ isRf (lgt L 2) ∧ K 1 L (lgt L 2 :: st) h cs ss) := by
  rw [dL_rest_0, ey_ok, nx_aload_n_3] <;> rfl
theorem qL_rest_1 : ey F ini rt fin K0 K (decode cL_rest 1) 1 L (st) h cs ss = (K 2 L (.int 0 :: st) h cs ss) := by
  rw [dL_rest_1, ey_ok, nx_iconst_11] <;> rfl
theorem qL_rest_2 : ey F ini rt fin K0 K (decode cL_rest 2) 2 L (st) h cs ss = (lhas L 0 ∧ isRf (lgt L 0) ∧ K 3 L (lgt L 0 :: st) h cs ss) := by
  rw [dL_rest_2, ey_ok, nx_aload_n_3] <;> rfl
theorem qL_rest_3 : ey F ini rt fin K0 K (decode cL_rest 3) 3 L (st) h cs ss = (lhas L 1 ∧ isI (lgt L 1) ∧ K 4 L (lgt L 1 :: st) h cs ss) := by
  rw [dL_rest_3, ey_ok, nx_iload_n_1] <;> rfl
theorem qL_rest_4 : ey F ini rt fin K0 K (decode cL_rest 4) 4 L (st) h cs ss = (K0 4 L st h cs ss) := by
  rw [dL_rest_4, ey_ok, nx_invokevirtual_72]
theorem qL_rest_7 : ey F ini rt fin K0 K (decode cL_rest 7) 7 L (.int x :: r) h cs ss = (K 8 L (.long x.toInt64 :: r) h cs ss) := by
  rw [dL_rest_7, ey_ok, nx_i2l_24]
theorem qL_rest_8 : ey F ini rt fin K0 K (decode cL_rest 8) 8 L (.long lx :: .int i :: .ref a :: r) h cs ss = (isA (h.1 a) (fun k m => k = 3 ∧ vp_in i m) ∧ K 9 L r (h.1, hup h.2 a i.toNatClampNeg (.long lx)) cs ss) := by
  rw [dL_rest_8, ey_ok, nx_lastore_65]
theorem qL_rest_9 : ey F ini rt fin K0 K (decode cL_rest 9) 9 L (st) h cs ss = (K 15 L st h cs ss) := by
  rw [dL_rest_9, ey_ok, nx_goto_29]
  exact and_l (by unfold jok; decide)
theorem qL_rest_12r : ey F ini rt fin K0 K (decode cL_rest 12) 12 L (.ref a :: r) h cs ss = (3 < L.length ∧ K 13 (L.set 3 (some (.ref a))) r h cs ss) := by
  rw [dL_rest_12, ey_ok, nx_astore_n_8] <;> rfl
theorem qL_rest_12n : ey F ini rt fin K0 K (decode cL_rest 12) 12 L (.null :: r) h cs ss = (3 < L.length ∧ K 13 (L.set 3 (some .null)) r h cs ss) := by
  rw [dL_rest_12, ey_ok, nx_astore_n_9] <;> rfl
theorem qL_rest_13 : ey F ini rt fin K0 K (decode cL_rest 13) 13 L (st) h cs ss = (K 14 L (.int 1 :: st) h cs ss) := by
  rw [dL_rest_13, ey_ok, nx_iconst_11] <;> rfl
theorem qL_rest_14 : ey F ini rt fin K0 K (decode cL_rest 14) 14 L ([.int x]) h cs ss = (rokI rt x ∧ fin (some (.int x)) h cs ss) := by
  rw [dL_rest_14, ey_ok, nx_ireturn_68]
theorem qL_rest_15 : ey F ini rt fin K0 K (decode cL_rest 15) 15 L (st) h cs ss = (K 16 L (.int 0 :: st) h cs ss) := by
  rw [dL_rest_15, ey_ok, nx_iconst_11] <;> rfl
theorem qL_rest_16 : ey F ini rt fin K0 K (decode cL_rest 16) 16 L ([.int x]) h cs ss = (rokI rt x ∧ fin (some (.int x)) h cs ss) := by
  rw [dL_rest_16, ey_ok, nx_ireturn_68]
theorem qL_put_0 : ey F ini rt fin K0 K (decode cL_put 0) 0 L (st) h cs ss = (lhas L 2 ∧ isRf (lgt L 2) ∧ K 1 L (lgt L 2 :: st) h cs ss) := by
  rw [dL_put_0, ey_ok, nx_aload_n_3] <;> rfl
theorem qL_put_1 : ey F ini rt fin K0 K (decode cL_put 1) 1 L (st) h cs ss = (K 2 L (.int 0 :: st) h cs ss) := by
  rw [dL_put_1, ey_ok, nx_iconst_11] <;> rfl
theorem qL_put_2 : ey F ini rt fin K0 K (decode cL_put 2) 2 L (st) h cs ss = (lhas L 0 ∧ isRf (lgt L 0) ∧ K 3 L (lgt L 0 :: st) h cs ss) := by
  rw [dL_put_2, ey_ok, nx_aload_n_3] <;> rfl
theorem qL_put_3 : ey F ini rt fin K0 K (decode cL_put 3) 3 L (st) h cs ss = (lhas L 1 ∧ isI (lgt L 1) ∧ K 4 L (lgt L 1 :: st) h cs ss) := by
  rw [dL_put_3, ey_ok, nx_iload_n_1] <;> rfl
theorem qL_put_4 : ey F ini rt fin K0 K (decode cL_put 4) 4 L (st) h cs ss = (K0 4 L st h cs ss) := by
  rw [dL_put_4, ey_ok, nx_invokevirtual_72]
theorem qL_put_7 : ey F ini rt fin K0 K (decode cL_put 7) 7 L (.int x :: r) h cs ss = (K 8 L (.long x.toInt64 :: r) h cs ss) := by
  rw [dL_put_7, ey_ok, nx_i2l_24]
theorem qL_put_8 : ey F ini rt fin K0 K (decode cL_put 8) 8 L (.long lx :: .int i :: .ref a :: r) h cs ss = (isA (h.1 a) (fun k m => k = 3 ∧ vp_in i m) ∧ K 9 L r (h.1, hup h.2 a i.toNatClampNeg (.long lx)) cs ss) := by
  rw [dL_put_8, ey_ok, nx_lastore_65]
theorem qL_put_9 : ey F ini rt fin K0 K (decode cL_put 9) 9 L (st) h cs ss = (K 18 L st h cs ss) := by
  rw [dL_put_9, ey_ok, nx_goto_29]
  exact and_l (by unfold jok; decide)
theorem qL_put_12r : ey F ini rt fin K0 K (decode cL_put 12) 12 L (.ref a :: r) h cs ss = (3 < L.length ∧ K 13 (L.set 3 (some (.ref a))) r h cs ss) := by
  rw [dL_put_12, ey_ok, nx_astore_n_8] <;> rfl
theorem qL_put_12n : ey F ini rt fin K0 K (decode cL_put 12) 12 L (.null :: r) h cs ss = (3 < L.length ∧ K 13 (L.set 3 (some .null)) r h cs ss) := by
  rw [dL_put_12, ey_ok, nx_astore_n_9] <;> rfl
theorem qL_put_13 : ey F ini rt fin K0 K (decode cL_put 13) 13 L (st) h cs ss = (K 14 L (.int 1 :: st) h cs ss) := by
  rw [dL_put_13, ey_ok, nx_iconst_11] <;> rfl
theorem qL_put_14 : ey F ini rt fin K0 K (decode cL_put 14) 14 L ([.int x]) h cs ss = (rokI rt x ∧ fin (some (.int x)) h cs ss) := by
  rw [dL_put_14, ey_ok, nx_ireturn_68]
theorem qL_put_15r : ey F ini rt fin K0 K (decode cL_put 15) 15 L (.ref a :: r) h cs ss = (3 < L.length ∧ K 16 (L.set 3 (some (.ref a))) r h cs ss) := by
  rw [dL_put_15, ey_ok, nx_astore_n_8] <;> rfl
theorem qL_put_15n : ey F ini rt fin K0 K (decode cL_put 15) 15 L (.null :: r) h cs ss = (3 < L.length ∧ K 16 (L.set 3 (some .null)) r h cs ss) := by
  rw [dL_put_15, ey_ok, nx_astore_n_9] <;> rfl
theorem qL_put_16 : ey F ini rt fin K0 K (decode cL_put 16) 16 L (st) h cs ss = (K 17 L (.int 2 :: st) h cs ss) := by
  rw [dL_put_16, ey_ok, nx_iconst_11] <;> rfl
theorem qL_put_17 : ey F ini rt fin K0 K (decode cL_put 17) 17 L ([.int x]) h cs ss = (rokI rt x ∧ fin (some (.int x)) h cs ss) := by
  rw [dL_put_17, ey_ok, nx_ireturn_68]
theorem qL_put_18 : ey F ini rt fin K0 K (decode cL_put 18) 18 L (st) h cs ss = (K 19 L (.int 0 :: st) h cs ss) := by
  rw [dL_put_18, ey_ok, nx_iconst_11] <;> rfl
theorem qL_put_19 : ey F ini rt fin K0 K (decode cL_put 19) 19 L ([.int x]) h cs ss = (rokI rt x ∧ fin (some (.int x)) h cs ss) := by
  rw [dL_put_19, ey_ok, nx_ireturn_68]
theorem qL_read_0 : ey F ini rt fin K0 K (decode cL_read 0) 0 L (st) h cs ss = (lhas L 1 ∧ isRf (lgt L 1) ∧ K 1 L (lgt L 1 :: st) h cs ss) := by
  rw [dL_read_0, ey_ok, nx_aload_n_3] <;> rfl
theorem qL_read_1 : ey F ini rt fin K0 K (decode cL_read 1) 1 L (st) h cs ss = (K 2 L (.int 0 :: st) h cs ss) := by
  rw [dL_read_1, ey_ok, nx_iconst_11] <;> rfl
theorem qL_read_2 : ey F ini rt fin K0 K (decode cL_read 2) 2 L (st) h cs ss = (lhas L 0 ∧ isRf (lgt L 0) ∧ K 3 L (lgt L 0 :: st) h cs ss) := by
  rw [dL_read_2, ey_ok, nx_aload_n_3] <;> rfl
theorem qL_read_3 : ey F ini rt fin K0 K (decode cL_read 3) 3 L (st) h cs ss = (K0 3 L st h cs ss) := by
  rw [dL_read_3, ey_ok, nx_invokevirtual_72]
theorem qL_read_6 : ey F ini rt fin K0 K (decode cL_read 6) 6 L (.int x :: r) h cs ss = (K 7 L (.long x.toInt64 :: r) h cs ss) := by
  rw [dL_read_6, ey_ok, nx_i2l_24]
theorem qL_read_7 : ey F ini rt fin K0 K (decode cL_read 7) 7 L (.long lx :: .int i :: .ref a :: r) h cs ss = (isA (h.1 a) (fun k m => k = 3 ∧ vp_in i m) ∧ K 8 L r (h.1, hup h.2 a i.toNatClampNeg (.long lx)) cs ss) := by
  rw [dL_read_7, ey_ok, nx_lastore_65]
theorem qL_read_8 : ey F ini rt fin K0 K (decode cL_read 8) 8 L (st) h cs ss = (K 17 L st h cs ss) := by
  rw [dL_read_8, ey_ok, nx_goto_29]
  exact and_l (by unfold jok; decide)
theorem qL_read_11r : ey F ini rt fin K0 K (decode cL_read 11) 11 L (.ref a :: r) h cs ss = (2 < L.length ∧ K 12 (L.set 2 (some (.ref a))) r h cs ss) := by
  rw [dL_read_11, ey_ok, nx_astore_n_8] <;> rfl
theorem qL_read_11n : ey F ini rt fin K0 K (decode cL_read 11) 11 L (.null :: r) h cs ss = (2 < L.length ∧ K 12 (L.set 2 (some .null)) r h cs ss) := by
  rw [dL_read_11, ey_ok, nx_astore_n_9] <;> rfl
theorem qL_read_12 : ey F ini rt fin K0 K (decode cL_read 12) 12 L (st) h cs ss = (K 13 L (.int 1 :: st) h cs ss) := by
  rw [dL_read_12, ey_ok, nx_iconst_11] <;> rfl
theorem qL_read_13 : ey F ini rt fin K0 K (decode cL_read 13) 13 L ([.int x]) h cs ss = (rokI rt x ∧ fin (some (.int x)) h cs ss) := by
  rw [dL_read_13, ey_ok, nx_ireturn_68]
theorem qL_read_14r : ey F ini rt fin K0 K (decode cL_read 14) 14 L (.ref a :: r) h cs ss = (2 < L.length ∧ K 15 (L.set 2 (some (.ref a))) r h cs ss) := by
  rw [dL_read_14, ey_ok, nx_astore_n_8] <;> rfl
theorem qL_read_14n : ey F ini rt fin K0 K (decode cL_read 14) 14 L (.null :: r) h cs ss = (2 < L.length ∧ K 15 (L.set 2 (some .null)) r h cs ss) := by
  rw [dL_read_14, ey_ok, nx_astore_n_9] <;> rfl
theorem qL_read_15 : ey F ini rt fin K0 K (decode cL_read 15) 15 L (st) h cs ss = (K 16 L (.int 2 :: st) h cs ss) := by
  rw [dL_read_15, ey_ok, nx_iconst_11] <;> rfl
theorem qL_read_16 : ey F ini rt fin K0 K (decode cL_read 16) 16 L ([.int x]) h cs ss = (rokI rt x ∧ fin (some (.int x)) h cs ss) := by
  rw [dL_read_16, ey_ok, nx_ireturn_68]
theorem qL_read_17 : ey F ini rt fin K0 K (decode cL_read 17) 17 L (st) h cs ss = (K 18 L (.int 0 :: st) h cs ss) := by
  rw [dL_read_17, ey_ok, nx_iconst_11] <;> rfl
theorem qL_read_18 : ey F ini rt fin K0 K (decode cL_read 18) 18 L ([.int x]) h cs ss = (rokI rt x ∧ fin (some (.int x)) h cs ss) := by
  rw [dL_read_18, ey_ok, nx_ireturn_68]
theorem qL_drop_0 : ey F ini rt fin K0 K (decode cL_drop 0) 0 L (st) h cs ss = (lhas L 2 ∧ isRf (lgt L 2) ∧ K 1 L (lgt L 2 :: st) h cs ss) := by
  rw [dL_drop_0, ey_ok, nx_aload_n_3] <;> rfl
theorem qL_drop_1 : ey F ini rt fin K0 K (decode cL_drop 1) 1 L (st) h cs ss = (K 2 L (.int 0 :: st) h cs ss) := by
  rw [dL_drop_1, ey_ok, nx_iconst_11] <;> rfl
theorem qL_drop_2 : ey F ini rt fin K0 K (decode cL_drop 2) 2 L (st) h cs ss = (lhas L 0 ∧ isRf (lgt L 0) ∧ K 3 L (lgt L 0 :: st) h cs ss) := by
  rw [dL_drop_2, ey_ok, nx_aload_n_3] <;> rfl
theorem qL_drop_3 : ey F ini rt fin K0 K (decode cL_drop 3) 3 L (st) h cs ss = (lhas L 1 ∧ isI (lgt L 1) ∧ K 4 L (lgt L 1 :: st) h cs ss) := by
  rw [dL_drop_3, ey_ok, nx_iload_n_1] <;> rfl
theorem qL_drop_4 : ey F ini rt fin K0 K (decode cL_drop 4) 4 L (st) h cs ss = (K0 4 L st h cs ss) := by
  rw [dL_drop_4, ey_ok, nx_invokevirtual_72]
theorem qL_drop_7 : ey F ini rt fin K0 K (decode cL_drop 7) 7 L (.int x :: r) h cs ss = (K 8 L (.long x.toInt64 :: r) h cs ss) := by
  rw [dL_drop_7, ey_ok, nx_i2l_24]
theorem qL_drop_8 : ey F ini rt fin K0 K (decode cL_drop 8) 8 L (.long lx :: .int i :: .ref a :: r) h cs ss = (isA (h.1 a) (fun k m => k = 3 ∧ vp_in i m) ∧ K 9 L r (h.1, hup h.2 a i.toNatClampNeg (.long lx)) cs ss) := by
  rw [dL_drop_8, ey_ok, nx_lastore_65]
theorem qL_drop_9 : ey F ini rt fin K0 K (decode cL_drop 9) 9 L (st) h cs ss = (K 18 L st h cs ss) := by
  rw [dL_drop_9, ey_ok, nx_goto_29]
  exact and_l (by unfold jok; decide)
theorem qL_drop_12r : ey F ini rt fin K0 K (decode cL_drop 12) 12 L (.ref a :: r) h cs ss = (3 < L.length ∧ K 13 (L.set 3 (some (.ref a))) r h cs ss) := by
  rw [dL_drop_12, ey_ok, nx_astore_n_8] <;> rfl
theorem qL_drop_12n : ey F ini rt fin K0 K (decode cL_drop 12) 12 L (.null :: r) h cs ss = (3 < L.length ∧ K 13 (L.set 3 (some .null)) r h cs ss) := by
  rw [dL_drop_12, ey_ok, nx_astore_n_9] <;> rfl
theorem qL_drop_13 : ey F ini rt fin K0 K (decode cL_drop 13) 13 L (st) h cs ss = (K 14 L (.int 1 :: st) h cs ss) := by
  rw [dL_drop_13, ey_ok, nx_iconst_11] <;> rfl
theorem qL_drop_14 : ey F ini rt fin K0 K (decode cL_drop 14) 14 L ([.int x]) h cs ss = (rokI rt x ∧ fin (some (.int x)) h cs ss) := by
  rw [dL_drop_14, ey_ok, nx_ireturn_68]
theorem qL_drop_15r : ey F ini rt fin K0 K (decode cL_drop 15) 15 L (.ref a :: r) h cs ss = (3 < L.length ∧ K 16 (L.set 3 (some (.ref a))) r h cs ss) := by
  rw [dL_drop_15, ey_ok, nx_astore_n_8] <;> rfl
theorem qL_drop_15n : ey F ini rt fin K0 K (decode cL_drop 15) 15 L (.null :: r) h cs ss = (3 < L.length ∧ K 16 (L.set 3 (some .null)) r h cs ss) := by
  rw [dL_drop_15, ey_ok, nx_astore_n_9] <;> rfl
theorem qL_drop_16 : ey F ini rt fin K0 K (decode cL_drop 16) 16 L (st) h cs ss = (K 17 L (.int 2 :: st) h cs ss) := by
  rw [dL_drop_16, ey_ok, nx_iconst_11] <;> rfl
theorem qL_drop_17 : ey F ini rt fin K0 K (decode cL_drop 17) 17 L ([.int x]) h cs ss = (rokI rt x ∧ fin (some (.int x)) h cs ss) := by
  rw [dL_drop_17, ey_ok, nx_ireturn_68]
theorem qL_drop_18 : ey F ini rt fin K0 K (decode cL_drop 18) 18 L (st) h cs ss = (K 19 L (.int 0 :: st) h cs ss) := by
  rw [dL_drop_18, ey_ok, nx_iconst_11] <;> rfl
theorem qL_drop_19 : ey F ini rt fin K0 K (decode cL_drop 19) 19 L ([.int x]) h cs ss = (rokI rt x ∧ fin (some (.int x)) h cs ss) := by
  rw [dL_drop_19, ey_ok, nx_ireturn_68]
theorem qL_breaks_0 : ey F ini rt fin K0 K (decode cL_breaks 0) 0 L (st) h cs ss = (lhas L 3 ∧ isRf (lgt L 3) ∧ K 1 L (lgt L 3 :: st) h cs ss) := by
  rw [dL_breaks_0, ey_ok, nx_aload_n_3] <;> rfl
theorem qL_breaks_1 : ey F ini rt fin K0 K (decode cL_breaks 1) 1 L (st) h cs ss = (K 2 L (.int 0 :: st) h cs ss) := by
  rw [dL_breaks_1, ey_ok, nx_iconst_11] <;> rfl
theorem qL_breaks_2 : ey F ini rt fin K0 K (decode cL_breaks 2) 2 L (st) h cs ss = (lhas L 0 ∧ isRf (lgt L 0) ∧ K 3 L (lgt L 0 :: st) h cs ss) := by
  rw [dL_breaks_2, ey_ok, nx_aload_n_3] <;> rfl
theorem qL_breaks_3 : ey F ini rt fin K0 K (decode cL_breaks 3) 3 L (st) h cs ss = (lhas L 1 ∧ isI (lgt L 1) ∧ K 4 L (lgt L 1 :: st) h cs ss) := by
  rw [dL_breaks_3, ey_ok, nx_iload_n_1] <;> rfl
theorem qL_breaks_4 : ey F ini rt fin K0 K (decode cL_breaks 4) 4 L (st) h cs ss = (lhas L 2 ∧ isI (lgt L 2) ∧ K 5 L (lgt L 2 :: st) h cs ss) := by
  rw [dL_breaks_4, ey_ok, nx_iload_n_1] <;> rfl
theorem qL_breaks_5 : ey F ini rt fin K0 K (decode cL_breaks 5) 5 L (st) h cs ss = (K0 5 L st h cs ss) := by
  rw [dL_breaks_5, ey_ok, nx_invokevirtual_72]
theorem qL_breaks_8 : ey F ini rt fin K0 K (decode cL_breaks 8) 8 L (.int x :: r) h cs ss = (if x = 0 then K 15 L r h cs ss else K 11 L r h cs ss) := by
  rw [dL_breaks_8, ey_ok, nx_ifond_30]
  exact and_l (by unfold jok; decide)
theorem qL_breaks_11 : ey F ini rt fin K0 K (decode cL_breaks 11) 11 L (st) h cs ss = (K 12 L (.long 1 :: st) h cs ss) := by
  rw [dL_breaks_11, ey_ok, nx_lconst_14] <;> rfl
theorem qL_breaks_12 : ey F ini rt fin K0 K (decode cL_breaks 12) 12 L (st) h cs ss = (K 16 L st h cs ss) := by
  rw [dL_breaks_12, ey_ok, nx_goto_29]
  exact and_l (by unfold jok; decide)
theorem qL_breaks_15 : ey F ini rt fin K0 K (decode cL_breaks 15) 15 L (st) h cs ss = (K 16 L (.long 0 :: st) h cs ss) := by
  rw [dL_breaks_15, ey_ok, nx_lconst_14] <;> rfl
theorem qL_breaks_16 : ey F ini rt fin K0 K (decode cL_breaks 16) 16 L (.long lx :: .int i :: .ref a :: r) h cs ss = (isA (h.1 a) (fun k m => k = 3 ∧ vp_in i m) ∧ K 17 L r (h.1, hup h.2 a i.toNatClampNeg (.long lx)) cs ss) := by
  rw [dL_breaks_16, ey_ok, nx_lastore_65]
theorem qL_breaks_17 : ey F ini rt fin K0 K (decode cL_breaks 17) 17 L (st) h cs ss = (K 24 L st h cs ss) := by
  rw [dL_breaks_17, ey_ok, nx_goto_29]
  exact and_l (by unfold jok; decide)
theorem qL_breaks_20r : ey F ini rt fin K0 K (decode cL_breaks 20) 20 L (.ref a :: r) h cs ss = (4 < L.length ∧ K 22 (L.set 4 (some (.ref a))) r h cs ss) := by
  rw [dL_breaks_20, ey_ok, nx_astore_6] <;> rfl
theorem qL_breaks_20n : ey F ini rt fin K0 K (decode cL_breaks 20) 20 L (.null :: r) h cs ss = (4 < L.length ∧ K 22 (L.set 4 (some .null)) r h cs ss) := by
  rw [dL_breaks_20, ey_ok, nx_astore_7] <;> rfl
theorem qL_breaks_22 : ey F ini rt fin K0 K (decode cL_breaks 22) 22 L (st) h cs ss = (K 23 L (.int 1 :: st) h cs ss) := by
  rw [dL_breaks_22, ey_ok, nx_iconst_11] <;> rfl
theorem qL_breaks_23 : ey F ini rt fin K0 K (decode cL_breaks 23) 23 L ([.int x]) h cs ss = (rokI rt x ∧ fin (some (.int x)) h cs ss) := by
  rw [dL_breaks_23, ey_ok, nx_ireturn_68]
theorem qL_breaks_24 : ey F ini rt fin K0 K (decode cL_breaks 24) 24 L (st) h cs ss = (K 25 L (.int 0 :: st) h cs ss) := by
  rw [dL_breaks_24, ey_ok, nx_iconst_11] <;> rfl
theorem qL_breaks_25 : ey F ini rt fin K0 K (decode cL_breaks 25) 25 L ([.int x]) h cs ss = (rokI rt x ∧ fin (some (.int x)) h cs ss) := by
  rw [dL_breaks_25, ey_ok, nx_ireturn_68]
theorem qL_breaches_0 : ey F ini rt fin K0 K (decode cL_breaches 0) 0 L (st) h cs ss = (lhas L 3 ∧ isRf (lgt L 3) ∧ K 1 L (lgt L 3 :: st) h cs ss) := by
  rw [dL_breaches_0, ey_ok, nx_aload_n_3] <;> rfl
theorem qL_breaches_1 : ey F ini rt fin K0 K (decode cL_breaches 1) 1 L (st) h cs ss = (K 2 L (.int 0 :: st) h cs ss) := by
  rw [dL_breaches_1, ey_ok, nx_iconst_11] <;> rfl
theorem qL_breaches_2 : ey F ini rt fin K0 K (decode cL_breaches 2) 2 L (st) h cs ss = (lhas L 0 ∧ isRf (lgt L 0) ∧ K 3 L (lgt L 0 :: st) h cs ss) := by
  rw [dL_breaches_2, ey_ok, nx_aload_n_3] <;> rfl
theorem qL_breaches_3 : ey F ini rt fin K0 K (decode cL_breaches 3) 3 L (st) h cs ss = (lhas L 1 ∧ isI (lgt L 1) ∧ K 4 L (lgt L 1 :: st) h cs ss) := by
  rw [dL_breaches_3, ey_ok, nx_iload_n_1] <;> rfl
theorem qL_breaches_4 : ey F ini rt fin K0 K (decode cL_breaches 4) 4 L (st) h cs ss = (lhas L 2 ∧ isI (lgt L 2) ∧ K 5 L (lgt L 2 :: st) h cs ss) := by
  rw [dL_breaches_4, ey_ok, nx_iload_n_1] <;> rfl
theorem qL_breaches_5 : ey F ini rt fin K0 K (decode cL_breaches 5) 5 L (st) h cs ss = (K0 5 L st h cs ss) := by
  rw [dL_breaches_5, ey_ok, nx_invokevirtual_72]
theorem qL_breaches_8 : ey F ini rt fin K0 K (decode cL_breaches 8) 8 L (.int x :: r) h cs ss = (K 9 L (.long x.toInt64 :: r) h cs ss) := by
  rw [dL_breaches_8, ey_ok, nx_i2l_24]
theorem qL_breaches_9 : ey F ini rt fin K0 K (decode cL_breaches 9) 9 L (.long lx :: .int i :: .ref a :: r) h cs ss = (isA (h.1 a) (fun k m => k = 3 ∧ vp_in i m) ∧ K 10 L r (h.1, hup h.2 a i.toNatClampNeg (.long lx)) cs ss) := by
  rw [dL_breaches_9, ey_ok, nx_lastore_65]
theorem qL_breaches_10 : ey F ini rt fin K0 K (decode cL_breaches 10) 10 L (st) h cs ss = (K 21 L st h cs ss) := by
  rw [dL_breaches_10, ey_ok, nx_goto_29]
  exact and_l (by unfold jok; decide)
theorem qL_breaches_13r : ey F ini rt fin K0 K (decode cL_breaches 13) 13 L (.ref a :: r) h cs ss = (4 < L.length ∧ K 15 (L.set 4 (some (.ref a))) r h cs ss) := by
  rw [dL_breaches_13, ey_ok, nx_astore_6] <;> rfl
theorem qL_breaches_13n : ey F ini rt fin K0 K (decode cL_breaches 13) 13 L (.null :: r) h cs ss = (4 < L.length ∧ K 15 (L.set 4 (some .null)) r h cs ss) := by
  rw [dL_breaches_13, ey_ok, nx_astore_7] <;> rfl
theorem qL_breaches_15 : ey F ini rt fin K0 K (decode cL_breaches 15) 15 L (st) h cs ss = (K 16 L (.int 1 :: st) h cs ss) := by
  rw [dL_breaches_15, ey_ok, nx_iconst_11] <;> rfl
theorem qL_breaches_16 : ey F ini rt fin K0 K (decode cL_breaches 16) 16 L ([.int x]) h cs ss = (rokI rt x ∧ fin (some (.int x)) h cs ss) := by
  rw [dL_breaches_16, ey_ok, nx_ireturn_68]
theorem qL_breaches_17r : ey F ini rt fin K0 K (decode cL_breaches 17) 17 L (.ref a :: r) h cs ss = (4 < L.length ∧ K 19 (L.set 4 (some (.ref a))) r h cs ss) := by
  rw [dL_breaches_17, ey_ok, nx_astore_6] <;> rfl
theorem qL_breaches_17n : ey F ini rt fin K0 K (decode cL_breaches 17) 17 L (.null :: r) h cs ss = (4 < L.length ∧ K 19 (L.set 4 (some .null)) r h cs ss) := by
  rw [dL_breaches_17, ey_ok, nx_astore_7] <;> rfl
theorem qL_breaches_19 : ey F ini rt fin K0 K (decode cL_breaches 19) 19 L (st) h cs ss = (K 20 L (.int 2 :: st) h cs ss) := by
  rw [dL_breaches_19, ey_ok, nx_iconst_11] <;> rfl
theorem qL_breaches_20 : ey F ini rt fin K0 K (decode cL_breaches 20) 20 L ([.int x]) h cs ss = (rokI rt x ∧ fin (some (.int x)) h cs ss) := by
  rw [dL_breaches_20, ey_ok, nx_ireturn_68]
theorem qL_breaches_21 : ey F ini rt fin K0 K (decode cL_breaches 21) 21 L (st) h cs ss = (K 22 L (.int 0 :: st) h cs ss) := by
  rw [dL_breaches_21, ey_ok, nx_iconst_11] <;> rfl
theorem qL_breaches_22 : ey F ini rt fin K0 K (decode cL_breaches 22) 22 L ([.int x]) h cs ss = (rokI rt x ∧ fin (some (.int x)) h cs ss) := by
  rw [dL_breaches_22, ey_ok, nx_ireturn_68]
theorem qL_state_0 : ey F ini rt fin K0 K (decode cL_state 0) 0 L (st) h cs ss = (lhas L 2 ∧ isRf (lgt L 2) ∧ K 1 L (lgt L 2 :: st) h cs ss) := by
  rw [dL_state_0, ey_ok, nx_aload_n_3] <;> rfl
theorem qL_state_1 : ey F ini rt fin K0 K (decode cL_state 1) 1 L (st) h cs ss = (K 2 L (.int 0 :: st) h cs ss) := by
  rw [dL_state_1, ey_ok, nx_iconst_11] <;> rfl
theorem qL_state_2 : ey F ini rt fin K0 K (decode cL_state 2) 2 L (st) h cs ss = (lhas L 0 ∧ isRf (lgt L 0) ∧ K 3 L (lgt L 0 :: st) h cs ss) := by
  rw [dL_state_2, ey_ok, nx_aload_n_3] <;> rfl
theorem qL_state_3 : ey F ini rt fin K0 K (decode cL_state 3) 3 L (st) h cs ss = (lhas L 1 ∧ isI (lgt L 1) ∧ K 4 L (lgt L 1 :: st) h cs ss) := by
  rw [dL_state_3, ey_ok, nx_iload_n_1] <;> rfl
theorem qL_state_4 : ey F ini rt fin K0 K (decode cL_state 4) 4 L (st) h cs ss = (K0 4 L st h cs ss) := by
  rw [dL_state_4, ey_ok, nx_invokevirtual_72]
theorem qL_state_7 : ey F ini rt fin K0 K (decode cL_state 7) 7 L (.int x :: r) h cs ss = (K 8 L (.long x.toInt64 :: r) h cs ss) := by
  rw [dL_state_7, ey_ok, nx_i2l_24]
theorem qL_state_8 : ey F ini rt fin K0 K (decode cL_state 8) 8 L (.long lx :: .int i :: .ref a :: r) h cs ss = (isA (h.1 a) (fun k m => k = 3 ∧ vp_in i m) ∧ K 9 L r (h.1, hup h.2 a i.toNatClampNeg (.long lx)) cs ss) := by
  rw [dL_state_8, ey_ok, nx_lastore_65]
theorem qL_state_9 : ey F ini rt fin K0 K (decode cL_state 9) 9 L (st) h cs ss = (K 15 L st h cs ss) := by
  rw [dL_state_9, ey_ok, nx_goto_29]
  exact and_l (by unfold jok; decide)
theorem qL_state_12r : ey F ini rt fin K0 K (decode cL_state 12) 12 L (.ref a :: r) h cs ss = (3 < L.length ∧ K 13 (L.set 3 (some (.ref a))) r h cs ss) := by
  rw [dL_state_12, ey_ok, nx_astore_n_8] <;> rfl
theorem qL_state_12n : ey F ini rt fin K0 K (decode cL_state 12) 12 L (.null :: r) h cs ss = (3 < L.length ∧ K 13 (L.set 3 (some .null)) r h cs ss) := by
  rw [dL_state_12, ey_ok, nx_astore_n_9] <;> rfl
theorem qL_state_13 : ey F ini rt fin K0 K (decode cL_state 13) 13 L (st) h cs ss = (K 14 L (.int 1 :: st) h cs ss) := by
  rw [dL_state_13, ey_ok, nx_iconst_11] <;> rfl
theorem qL_state_14 : ey F ini rt fin K0 K (decode cL_state 14) 14 L ([.int x]) h cs ss = (rokI rt x ∧ fin (some (.int x)) h cs ss) := by
  rw [dL_state_14, ey_ok, nx_ireturn_68]
theorem qL_state_15 : ey F ini rt fin K0 K (decode cL_state 15) 15 L (st) h cs ss = (K 16 L (.int 0 :: st) h cs ss) := by
  rw [dL_state_15, ey_ok, nx_iconst_11] <;> rfl
theorem qL_state_16 : ey F ini rt fin K0 K (decode cL_state 16) 16 L ([.int x]) h cs ss = (rokI rt x ∧ fin (some (.int x)) h cs ss) := by
  rw [dL_state_16, ey_ok, nx_ireturn_68]
theorem qL_about_0 : ey F ini rt fin K0 K (decode cL_about 0) 0 L (st) h cs ss = (lhas L 2 ∧ isRf (lgt L 2) ∧ K 1 L (lgt L 2 :: st) h cs ss) := by
  rw [dL_about_0, ey_ok, nx_aload_n_3] <;> rfl
theorem qL_about_1 : ey F ini rt fin K0 K (decode cL_about 1) 1 L (st) h cs ss = (K 2 L (.int 0 :: st) h cs ss) := by
  rw [dL_about_1, ey_ok, nx_iconst_11] <;> rfl
theorem qL_about_2 : ey F ini rt fin K0 K (decode cL_about 2) 2 L (st) h cs ss = (lhas L 0 ∧ isRf (lgt L 0) ∧ K 3 L (lgt L 0 :: st) h cs ss) := by
  rw [dL_about_2, ey_ok, nx_aload_n_3] <;> rfl
theorem qL_about_3 : ey F ini rt fin K0 K (decode cL_about 3) 3 L (st) h cs ss = (lhas L 1 ∧ isI (lgt L 1) ∧ K 4 L (lgt L 1 :: st) h cs ss) := by
  rw [dL_about_3, ey_ok, nx_iload_n_1] <;> rfl
theorem qL_about_4 : ey F ini rt fin K0 K (decode cL_about 4) 4 L (st) h cs ss = (K0 4 L st h cs ss) := by
  rw [dL_about_4, ey_ok, nx_invokevirtual_72]
theorem qL_about_7 : ey F ini rt fin K0 K (decode cL_about 7) 7 L (.int x :: r) h cs ss = (K 8 L (.long x.toInt64 :: r) h cs ss) := by
  rw [dL_about_7, ey_ok, nx_i2l_24]
theorem qL_about_8 : ey F ini rt fin K0 K (decode cL_about 8) 8 L (.long lx :: .int i :: .ref a :: r) h cs ss = (isA (h.1 a) (fun k m => k = 3 ∧ vp_in i m) ∧ K 9 L r (h.1, hup h.2 a i.toNatClampNeg (.long lx)) cs ss) := by
  rw [dL_about_8, ey_ok, nx_lastore_65]
theorem qL_about_9 : ey F ini rt fin K0 K (decode cL_about 9) 9 L (st) h cs ss = (K 15 L st h cs ss) := by
  rw [dL_about_9, ey_ok, nx_goto_29]
  exact and_l (by unfold jok; decide)
theorem qL_about_12r : ey F ini rt fin K0 K (decode cL_about 12) 12 L (.ref a :: r) h cs ss = (3 < L.length ∧ K 13 (L.set 3 (some (.ref a))) r h cs ss) := by
  rw [dL_about_12, ey_ok, nx_astore_n_8] <;> rfl
theorem qL_about_12n : ey F ini rt fin K0 K (decode cL_about 12) 12 L (.null :: r) h cs ss = (3 < L.length ∧ K 13 (L.set 3 (some .null)) r h cs ss) := by
  rw [dL_about_12, ey_ok, nx_astore_n_9] <;> rfl
theorem qL_about_13 : ey F ini rt fin K0 K (decode cL_about 13) 13 L (st) h cs ss = (K 14 L (.int 1 :: st) h cs ss) := by
  rw [dL_about_13, ey_ok, nx_iconst_11] <;> rfl
theorem qL_about_14 : ey F ini rt fin K0 K (decode cL_about 14) 14 L ([.int x]) h cs ss = (rokI rt x ∧ fin (some (.int x)) h cs ss) := by
  rw [dL_about_14, ey_ok, nx_ireturn_68]
theorem qL_about_15 : ey F ini rt fin K0 K (decode cL_about 15) 15 L (st) h cs ss = (K 16 L (.int 0 :: st) h cs ss) := by
  rw [dL_about_15, ey_ok, nx_iconst_11] <;> rfl
theorem qL_about_16 : ey F ini rt fin K0 K (decode cL_about 16) 16 L ([.int x]) h cs ss = (rokI rt x ∧ fin (some (.int x)) h cs ss) := by
  rw [dL_about_16, ey_ok, nx_ireturn_68]
theorem qL_worth_0 : ey F ini rt fin K0 K (decode cL_worth 0) 0 L (st) h cs ss = (lhas L 2 ∧ isRf (lgt L 2) ∧ K 1 L (lgt L 2 :: st) h cs ss) := by
  rw [dL_worth_0, ey_ok, nx_aload_n_3] <;> rfl
theorem qL_worth_1 : ey F ini rt fin K0 K (decode cL_worth 1) 1 L (st) h cs ss = (K 2 L (.int 0 :: st) h cs ss) := by
  rw [dL_worth_1, ey_ok, nx_iconst_11] <;> rfl
theorem qL_worth_2 : ey F ini rt fin K0 K (decode cL_worth 2) 2 L (st) h cs ss = (lhas L 0 ∧ isRf (lgt L 0) ∧ K 3 L (lgt L 0 :: st) h cs ss) := by
  rw [dL_worth_2, ey_ok, nx_aload_n_3] <;> rfl
theorem qL_worth_3 : ey F ini rt fin K0 K (decode cL_worth 3) 3 L (st) h cs ss = (lhas L 1 ∧ isI (lgt L 1) ∧ K 4 L (lgt L 1 :: st) h cs ss) := by
  rw [dL_worth_3, ey_ok, nx_iload_n_1] <;> rfl
theorem qL_worth_4 : ey F ini rt fin K0 K (decode cL_worth 4) 4 L (st) h cs ss = (K0 4 L st h cs ss) := by
  rw [dL_worth_4, ey_ok, nx_invokevirtual_72]
theorem qL_worth_7 : ey F ini rt fin K0 K (decode cL_worth 7) 7 L (.int x :: r) h cs ss = (K 8 L (.long x.toInt64 :: r) h cs ss) := by
  rw [dL_worth_7, ey_ok, nx_i2l_24]
theorem qL_worth_8 : ey F ini rt fin K0 K (decode cL_worth 8) 8 L (.long lx :: .int i :: .ref a :: r) h cs ss = (isA (h.1 a) (fun k m => k = 3 ∧ vp_in i m) ∧ K 9 L r (h.1, hup h.2 a i.toNatClampNeg (.long lx)) cs ss) := by
  rw [dL_worth_8, ey_ok, nx_lastore_65]
theorem qL_worth_9 : ey F ini rt fin K0 K (decode cL_worth 9) 9 L (st) h cs ss = (K 15 L st h cs ss) := by
  rw [dL_worth_9, ey_ok, nx_goto_29]
  exact and_l (by unfold jok; decide)
theorem qL_worth_12r : ey F ini rt fin K0 K (decode cL_worth 12) 12 L (.ref a :: r) h cs ss = (3 < L.length ∧ K 13 (L.set 3 (some (.ref a))) r h cs ss) := by
  rw [dL_worth_12, ey_ok, nx_astore_n_8] <;> rfl
theorem qL_worth_12n : ey F ini rt fin K0 K (decode cL_worth 12) 12 L (.null :: r) h cs ss = (3 < L.length ∧ K 13 (L.set 3 (some .null)) r h cs ss) := by
  rw [dL_worth_12, ey_ok, nx_astore_n_9] <;> rfl
theorem qL_worth_13 : ey F ini rt fin K0 K (decode cL_worth 13) 13 L (st) h cs ss = (K 14 L (.int 1 :: st) h cs ss) := by
  rw [dL_worth_13, ey_ok, nx_iconst_11] <;> rfl
theorem qL_worth_14 : ey F ini rt fin K0 K (decode cL_worth 14) 14 L ([.int x]) h cs ss = (rokI rt x ∧ fin (some (.int x)) h cs ss) := by
  rw [dL_worth_14, ey_ok, nx_ireturn_68]
theorem qL_worth_15 : ey F ini rt fin K0 K (decode cL_worth 15) 15 L (st) h cs ss = (K 16 L (.int 0 :: st) h cs ss) := by
  rw [dL_worth_15, ey_ok, nx_iconst_11] <;> rfl
theorem qL_worth_16 : ey F ini rt fin K0 K (decode cL_worth 16) 16 L ([.int x]) h cs ss = (rokI rt x ∧ fin (some (.int x)) h cs ss) := by
  rw [dL_worth_16, ey_ok, nx_ireturn_68]
theorem qL_pay_0 : ey F ini rt fin K0 K (decode cL_pay 0) 0 L (st) h cs ss = (lhas L 2 ∧ isRf (lgt L 2) ∧ K 1 L (lgt L 2 :: st) h cs ss) := by
  rw [dL_pay_0, ey_ok, nx_aload_n_3] <;> rfl
theorem qL_pay_1 : ey F ini rt fin K0 K (decode cL_pay 1) 1 L (st) h cs ss = (K 2 L (.int 0 :: st) h cs ss) := by
  rw [dL_pay_1, ey_ok, nx_iconst_11] <;> rfl
theorem qL_pay_2 : ey F ini rt fin K0 K (decode cL_pay 2) 2 L (st) h cs ss = (lhas L 0 ∧ isRf (lgt L 0) ∧ K 3 L (lgt L 0 :: st) h cs ss) := by
  rw [dL_pay_2, ey_ok, nx_aload_n_3] <;> rfl
theorem qL_pay_3 : ey F ini rt fin K0 K (decode cL_pay 3) 3 L (st) h cs ss = (lhas L 1 ∧ isI (lgt L 1) ∧ K 4 L (lgt L 1 :: st) h cs ss) := by
  rw [dL_pay_3, ey_ok, nx_iload_n_1] <;> rfl
theorem qL_pay_4 : ey F ini rt fin K0 K (decode cL_pay 4) 4 L (st) h cs ss = (K0 4 L st h cs ss) := by
  rw [dL_pay_4, ey_ok, nx_invokevirtual_72]
theorem qL_pay_7 : ey F ini rt fin K0 K (decode cL_pay 7) 7 L (.int x :: r) h cs ss = (K 8 L (.long x.toInt64 :: r) h cs ss) := by
  rw [dL_pay_7, ey_ok, nx_i2l_24]
theorem qL_pay_8 : ey F ini rt fin K0 K (decode cL_pay 8) 8 L (.long lx :: .int i :: .ref a :: r) h cs ss = (isA (h.1 a) (fun k m => k = 3 ∧ vp_in i m) ∧ K 9 L r (h.1, hup h.2 a i.toNatClampNeg (.long lx)) cs ss) := by
  rw [dL_pay_8, ey_ok, nx_lastore_65]
theorem qL_pay_9 : ey F ini rt fin K0 K (decode cL_pay 9) 9 L (st) h cs ss = (K 18 L st h cs ss) := by
  rw [dL_pay_9, ey_ok, nx_goto_29]
  exact and_l (by unfold jok; decide)
theorem qL_pay_12r : ey F ini rt fin K0 K (decode cL_pay 12) 12 L (.ref a :: r) h cs ss = (3 < L.length ∧ K 13 (L.set 3 (some (.ref a))) r h cs ss) := by
  rw [dL_pay_12, ey_ok, nx_astore_n_8] <;> rfl
theorem qL_pay_12n : ey F ini rt fin K0 K (decode cL_pay 12) 12 L (.null :: r) h cs ss = (3 < L.length ∧ K 13 (L.set 3 (some .null)) r h cs ss) := by
  rw [dL_pay_12, ey_ok, nx_astore_n_9] <;> rfl
theorem qL_pay_13 : ey F ini rt fin K0 K (decode cL_pay 13) 13 L (st) h cs ss = (K 14 L (.int 1 :: st) h cs ss) := by
  rw [dL_pay_13, ey_ok, nx_iconst_11] <;> rfl
theorem qL_pay_14 : ey F ini rt fin K0 K (decode cL_pay 14) 14 L ([.int x]) h cs ss = (rokI rt x ∧ fin (some (.int x)) h cs ss) := by
  rw [dL_pay_14, ey_ok, nx_ireturn_68]
theorem qL_pay_15r : ey F ini rt fin K0 K (decode cL_pay 15) 15 L (.ref a :: r) h cs ss = (3 < L.length ∧ K 16 (L.set 3 (some (.ref a))) r h cs ss) := by
  rw [dL_pay_15, ey_ok, nx_astore_n_8] <;> rfl
theorem qL_pay_15n : ey F ini rt fin K0 K (decode cL_pay 15) 15 L (.null :: r) h cs ss = (3 < L.length ∧ K 16 (L.set 3 (some .null)) r h cs ss) := by
  rw [dL_pay_15, ey_ok, nx_astore_n_9] <;> rfl
theorem qL_pay_16 : ey F ini rt fin K0 K (decode cL_pay 16) 16 L (st) h cs ss = (K 17 L (.int 2 :: st) h cs ss) := by
  rw [dL_pay_16, ey_ok, nx_iconst_11] <;> rfl
theorem qL_pay_17 : ey F ini rt fin K0 K (decode cL_pay 17) 17 L ([.int x]) h cs ss = (rokI rt x ∧ fin (some (.int x)) h cs ss) := by
  rw [dL_pay_17, ey_ok, nx_ireturn_68]
theorem qL_pay_18 : ey F ini rt fin K0 K (decode cL_pay 18) 18 L (st) h cs ss = (K 19 L (.int 0 :: st) h cs ss) := by
  rw [dL_pay_18, ey_ok, nx_iconst_11] <;> rfl
theorem qL_pay_19 : ey F ini rt fin K0 K (decode cL_pay 19) 19 L ([.int x]) h cs ss = (rokI rt x ∧ fin (some (.int x)) h cs ss) := by
  rw [dL_pay_19, ey_ok, nx_ireturn_68]
theorem qL_takeBack_0 : ey F ini rt fin K0 K (decode cL_takeBack 0) 0 L (st) h cs ss = (lhas L 2 ∧ isRf (lgt L 2) ∧ K 1 L (lgt L 2 :: st) h cs ss) := by
  rw [dL_takeBack_0, ey_ok, nx_aload_n_3] <;> rfl
theorem qL_takeBack_1 : ey F ini rt fin K0 K (decode cL_takeBack 1) 1 L (st) h cs ss = (K 2 L (.int 0 :: st) h cs ss) := by
  rw [dL_takeBack_1, ey_ok, nx_iconst_11] <;> rfl
theorem qL_takeBack_2 : ey F ini rt fin K0 K (decode cL_takeBack 2) 2 L (st) h cs ss = (lhas L 0 ∧ isRf (lgt L 0) ∧ K 3 L (lgt L 0 :: st) h cs ss) := by
  rw [dL_takeBack_2, ey_ok, nx_aload_n_3] <;> rfl
theorem qL_takeBack_3 : ey F ini rt fin K0 K (decode cL_takeBack 3) 3 L (st) h cs ss = (lhas L 1 ∧ isI (lgt L 1) ∧ K 4 L (lgt L 1 :: st) h cs ss) := by
  rw [dL_takeBack_3, ey_ok, nx_iload_n_1] <;> rfl
theorem qL_takeBack_4 : ey F ini rt fin K0 K (decode cL_takeBack 4) 4 L (st) h cs ss = (K0 4 L st h cs ss) := by
  rw [dL_takeBack_4, ey_ok, nx_invokevirtual_72]
theorem qL_takeBack_7 : ey F ini rt fin K0 K (decode cL_takeBack 7) 7 L (.int x :: r) h cs ss = (K 8 L (.long x.toInt64 :: r) h cs ss) := by
  rw [dL_takeBack_7, ey_ok, nx_i2l_24]
theorem qL_takeBack_8 : ey F ini rt fin K0 K (decode cL_takeBack 8) 8 L (.long lx :: .int i :: .ref a :: r) h cs ss = (isA (h.1 a) (fun k m => k = 3 ∧ vp_in i m) ∧ K 9 L r (h.1, hup h.2 a i.toNatClampNeg (.long lx)) cs ss) := by
  rw [dL_takeBack_8, ey_ok, nx_lastore_65]
theorem qL_takeBack_9 : ey F ini rt fin K0 K (decode cL_takeBack 9) 9 L (st) h cs ss = (K 18 L st h cs ss) := by
  rw [dL_takeBack_9, ey_ok, nx_goto_29]
  exact and_l (by unfold jok; decide)
theorem qL_takeBack_12r : ey F ini rt fin K0 K (decode cL_takeBack 12) 12 L (.ref a :: r) h cs ss = (3 < L.length ∧ K 13 (L.set 3 (some (.ref a))) r h cs ss) := by
  rw [dL_takeBack_12, ey_ok, nx_astore_n_8] <;> rfl
theorem qL_takeBack_12n : ey F ini rt fin K0 K (decode cL_takeBack 12) 12 L (.null :: r) h cs ss = (3 < L.length ∧ K 13 (L.set 3 (some .null)) r h cs ss) := by
  rw [dL_takeBack_12, ey_ok, nx_astore_n_9] <;> rfl
theorem qL_takeBack_13 : ey F ini rt fin K0 K (decode cL_takeBack 13) 13 L (st) h cs ss = (K 14 L (.int 1 :: st) h cs ss) := by
  rw [dL_takeBack_13, ey_ok, nx_iconst_11] <;> rfl
theorem qL_takeBack_14 : ey F ini rt fin K0 K (decode cL_takeBack 14) 14 L ([.int x]) h cs ss = (rokI rt x ∧ fin (some (.int x)) h cs ss) := by
  rw [dL_takeBack_14, ey_ok, nx_ireturn_68]
theorem qL_takeBack_15r : ey F ini rt fin K0 K (decode cL_takeBack 15) 15 L (.ref a :: r) h cs ss = (3 < L.length ∧ K 16 (L.set 3 (some (.ref a))) r h cs ss) := by
  rw [dL_takeBack_15, ey_ok, nx_astore_n_8] <;> rfl
theorem qL_takeBack_15n : ey F ini rt fin K0 K (decode cL_takeBack 15) 15 L (.null :: r) h cs ss = (3 < L.length ∧ K 16 (L.set 3 (some .null)) r h cs ss) := by
  rw [dL_takeBack_15, ey_ok, nx_astore_n_9] <;> rfl
theorem qL_takeBack_16 : ey F ini rt fin K0 K (decode cL_takeBack 16) 16 L (st) h cs ss = (K 17 L (.int 2 :: st) h cs ss) := by
  rw [dL_takeBack_16, ey_ok, nx_iconst_11] <;> rfl
theorem qL_takeBack_17 : ey F ini rt fin K0 K (decode cL_takeBack 17) 17 L ([.int x]) h cs ss = (rokI rt x ∧ fin (some (.int x)) h cs ss) := by
  rw [dL_takeBack_17, ey_ok, nx_ireturn_68]
theorem qL_takeBack_18 : ey F ini rt fin K0 K (decode cL_takeBack 18) 18 L (st) h cs ss = (K 19 L (.int 0 :: st) h cs ss) := by
  rw [dL_takeBack_18, ey_ok, nx_iconst_11] <;> rfl
theorem qL_takeBack_19 : ey F ini rt fin K0 K (decode cL_takeBack 19) 19 L ([.int x]) h cs ss = (rokI rt x ∧ fin (some (.int x)) h cs ss) := by
  rw [dL_takeBack_19, ey_ok, nx_ireturn_68]
theorem qL_wages_0 : ey F ini rt fin K0 K (decode cL_wages 0) 0 L (st) h cs ss = (lhas L 2 ∧ isRf (lgt L 2) ∧ K 1 L (lgt L 2 :: st) h cs ss) := by
  rw [dL_wages_0, ey_ok, nx_aload_n_3] <;> rfl
theorem qL_wages_1 : ey F ini rt fin K0 K (decode cL_wages 1) 1 L (st) h cs ss = (K 2 L (.int 0 :: st) h cs ss) := by
  rw [dL_wages_1, ey_ok, nx_iconst_11] <;> rfl
theorem qL_wages_2 : ey F ini rt fin K0 K (decode cL_wages 2) 2 L (st) h cs ss = (lhas L 0 ∧ isRf (lgt L 0) ∧ K 3 L (lgt L 0 :: st) h cs ss) := by
  rw [dL_wages_2, ey_ok, nx_aload_n_3] <;> rfl
theorem qL_wages_3 : ey F ini rt fin K0 K (decode cL_wages 3) 3 L (st) h cs ss = (lhas L 1 ∧ isI (lgt L 1) ∧ K 4 L (lgt L 1 :: st) h cs ss) := by
  rw [dL_wages_3, ey_ok, nx_iload_n_1] <;> rfl
theorem qL_wages_4 : ey F ini rt fin K0 K (decode cL_wages 4) 4 L (st) h cs ss = (K0 4 L st h cs ss) := by
  rw [dL_wages_4, ey_ok, nx_invokevirtual_72]
theorem qL_wages_7 : ey F ini rt fin K0 K (decode cL_wages 7) 7 L (.int x :: r) h cs ss = (K 8 L (.long x.toInt64 :: r) h cs ss) := by
  rw [dL_wages_7, ey_ok, nx_i2l_24]
theorem qL_wages_8 : ey F ini rt fin K0 K (decode cL_wages 8) 8 L (.long lx :: .int i :: .ref a :: r) h cs ss = (isA (h.1 a) (fun k m => k = 3 ∧ vp_in i m) ∧ K 9 L r (h.1, hup h.2 a i.toNatClampNeg (.long lx)) cs ss) := by
  rw [dL_wages_8, ey_ok, nx_lastore_65]
theorem qL_wages_9 : ey F ini rt fin K0 K (decode cL_wages 9) 9 L (st) h cs ss = (K 15 L st h cs ss) := by
  rw [dL_wages_9, ey_ok, nx_goto_29]
  exact and_l (by unfold jok; decide)
theorem qL_wages_12r : ey F ini rt fin K0 K (decode cL_wages 12) 12 L (.ref a :: r) h cs ss = (3 < L.length ∧ K 13 (L.set 3 (some (.ref a))) r h cs ss) := by
  rw [dL_wages_12, ey_ok, nx_astore_n_8] <;> rfl
theorem qL_wages_12n : ey F ini rt fin K0 K (decode cL_wages 12) 12 L (.null :: r) h cs ss = (3 < L.length ∧ K 13 (L.set 3 (some .null)) r h cs ss) := by
  rw [dL_wages_12, ey_ok, nx_astore_n_9] <;> rfl
theorem qL_wages_13 : ey F ini rt fin K0 K (decode cL_wages 13) 13 L (st) h cs ss = (K 14 L (.int 1 :: st) h cs ss) := by
  rw [dL_wages_13, ey_ok, nx_iconst_11] <;> rfl
theorem qL_wages_14 : ey F ini rt fin K0 K (decode cL_wages 14) 14 L ([.int x]) h cs ss = (rokI rt x ∧ fin (some (.int x)) h cs ss) := by
  rw [dL_wages_14, ey_ok, nx_ireturn_68]
theorem qL_wages_15 : ey F ini rt fin K0 K (decode cL_wages 15) 15 L (st) h cs ss = (K 16 L (.int 0 :: st) h cs ss) := by
  rw [dL_wages_15, ey_ok, nx_iconst_11] <;> rfl
theorem qL_wages_16 : ey F ini rt fin K0 K (decode cL_wages 16) 16 L ([.int x]) h cs ss = (rokI rt x ∧ fin (some (.int x)) h cs ss) := by
  rw [dL_wages_16, ey_ok, nx_ireturn_68]
theorem qL_offer_0 : ey F ini rt fin K0 K (decode cL_offer 0) 0 L (st) h cs ss = (lhas L 3 ∧ isRf (lgt L 3) ∧ K 1 L (lgt L 3 :: st) h cs ss) := by
  rw [dL_offer_0, ey_ok, nx_aload_n_3] <;> rfl
theorem qL_offer_1 : ey F ini rt fin K0 K (decode cL_offer 1) 1 L (st) h cs ss = (K 2 L (.int 0 :: st) h cs ss) := by
  rw [dL_offer_1, ey_ok, nx_iconst_11] <;> rfl
theorem qL_offer_2 : ey F ini rt fin K0 K (decode cL_offer 2) 2 L (st) h cs ss = (lhas L 0 ∧ isRf (lgt L 0) ∧ K 3 L (lgt L 0 :: st) h cs ss) := by
  rw [dL_offer_2, ey_ok, nx_aload_n_3] <;> rfl
theorem qL_offer_3 : ey F ini rt fin K0 K (decode cL_offer 3) 3 L (st) h cs ss = (lhas L 1 ∧ isI (lgt L 1) ∧ K 4 L (lgt L 1 :: st) h cs ss) := by
  rw [dL_offer_3, ey_ok, nx_iload_n_1] <;> rfl
theorem qL_offer_4 : ey F ini rt fin K0 K (decode cL_offer 4) 4 L (st) h cs ss = (lhas L 2 ∧ isI (lgt L 2) ∧ K 5 L (lgt L 2 :: st) h cs ss) := by
  rw [dL_offer_4, ey_ok, nx_iload_n_1] <;> rfl
theorem qL_offer_5 : ey F ini rt fin K0 K (decode cL_offer 5) 5 L (st) h cs ss = (K0 5 L st h cs ss) := by
  rw [dL_offer_5, ey_ok, nx_invokevirtual_72]
theorem qL_offer_8 : ey F ini rt fin K0 K (decode cL_offer 8) 8 L (.int x :: r) h cs ss = (K 9 L (.long x.toInt64 :: r) h cs ss) := by
  rw [dL_offer_8, ey_ok, nx_i2l_24]
theorem qL_offer_9 : ey F ini rt fin K0 K (decode cL_offer 9) 9 L (.long lx :: .int i :: .ref a :: r) h cs ss = (isA (h.1 a) (fun k m => k = 3 ∧ vp_in i m) ∧ K 10 L r (h.1, hup h.2 a i.toNatClampNeg (.long lx)) cs ss) := by
  rw [dL_offer_9, ey_ok, nx_lastore_65]
theorem qL_offer_10 : ey F ini rt fin K0 K (decode cL_offer 10) 10 L (st) h cs ss = (K 21 L st h cs ss) := by
  rw [dL_offer_10, ey_ok, nx_goto_29]
  exact and_l (by unfold jok; decide)
theorem qL_offer_13r : ey F ini rt fin K0 K (decode cL_offer 13) 13 L (.ref a :: r) h cs ss = (4 < L.length ∧ K 15 (L.set 4 (some (.ref a))) r h cs ss) := by
  rw [dL_offer_13, ey_ok, nx_astore_6] <;> rfl
theorem qL_offer_13n : ey F ini rt fin K0 K (decode cL_offer 13) 13 L (.null :: r) h cs ss = (4 < L.length ∧ K 15 (L.set 4 (some .null)) r h cs ss) := by
  rw [dL_offer_13, ey_ok, nx_astore_7] <;> rfl
theorem qL_offer_15 : ey F ini rt fin K0 K (decode cL_offer 15) 15 L (st) h cs ss = (K 16 L (.int 1 :: st) h cs ss) := by
  rw [dL_offer_15, ey_ok, nx_iconst_11] <;> rfl
theorem qL_offer_16 : ey F ini rt fin K0 K (decode cL_offer 16) 16 L ([.int x]) h cs ss = (rokI rt x ∧ fin (some (.int x)) h cs ss) := by
  rw [dL_offer_16, ey_ok, nx_ireturn_68]
theorem qL_offer_17r : ey F ini rt fin K0 K (decode cL_offer 17) 17 L (.ref a :: r) h cs ss = (4 < L.length ∧ K 19 (L.set 4 (some (.ref a))) r h cs ss) := by
  rw [dL_offer_17, ey_ok, nx_astore_6] <;> rfl
theorem qL_offer_17n : ey F ini rt fin K0 K (decode cL_offer 17) 17 L (.null :: r) h cs ss = (4 < L.length ∧ K 19 (L.set 4 (some .null)) r h cs ss) := by
  rw [dL_offer_17, ey_ok, nx_astore_7] <;> rfl
theorem qL_offer_19 : ey F ini rt fin K0 K (decode cL_offer 19) 19 L (st) h cs ss = (K 20 L (.int 2 :: st) h cs ss) := by
  rw [dL_offer_19, ey_ok, nx_iconst_11] <;> rfl
theorem qL_offer_20 : ey F ini rt fin K0 K (decode cL_offer 20) 20 L ([.int x]) h cs ss = (rokI rt x ∧ fin (some (.int x)) h cs ss) := by
  rw [dL_offer_20, ey_ok, nx_ireturn_68]
theorem qL_offer_21 : ey F ini rt fin K0 K (decode cL_offer 21) 21 L (st) h cs ss = (K 22 L (.int 0 :: st) h cs ss) := by
  rw [dL_offer_21, ey_ok, nx_iconst_11] <;> rfl
theorem qL_offer_22 : ey F ini rt fin K0 K (decode cL_offer 22) 22 L ([.int x]) h cs ss = (rokI rt x ∧ fin (some (.int x)) h cs ss) := by
  rw [dL_offer_22, ey_ok, nx_ireturn_68]
theorem qL_withdraw_0 : ey F ini rt fin K0 K (decode cL_withdraw 0) 0 L (st) h cs ss = (lhas L 2 ∧ isRf (lgt L 2) ∧ K 1 L (lgt L 2 :: st) h cs ss) := by
  rw [dL_withdraw_0, ey_ok, nx_aload_n_3] <;> rfl
theorem qL_withdraw_1 : ey F ini rt fin K0 K (decode cL_withdraw 1) 1 L (st) h cs ss = (K 2 L (.int 0 :: st) h cs ss) := by
  rw [dL_withdraw_1, ey_ok, nx_iconst_11] <;> rfl
theorem qL_withdraw_2 : ey F ini rt fin K0 K (decode cL_withdraw 2) 2 L (st) h cs ss = (lhas L 0 ∧ isRf (lgt L 0) ∧ K 3 L (lgt L 0 :: st) h cs ss) := by
  rw [dL_withdraw_2, ey_ok, nx_aload_n_3] <;> rfl
theorem qL_withdraw_3 : ey F ini rt fin K0 K (decode cL_withdraw 3) 3 L (st) h cs ss = (lhas L 1 ∧ isI (lgt L 1) ∧ K 4 L (lgt L 1 :: st) h cs ss) := by
  rw [dL_withdraw_3, ey_ok, nx_iload_n_1] <;> rfl
theorem qL_withdraw_4 : ey F ini rt fin K0 K (decode cL_withdraw 4) 4 L (st) h cs ss = (K0 4 L st h cs ss) := by
  rw [dL_withdraw_4, ey_ok, nx_invokevirtual_72]
theorem qL_withdraw_7 : ey F ini rt fin K0 K (decode cL_withdraw 7) 7 L (.int x :: r) h cs ss = (K 8 L (.long x.toInt64 :: r) h cs ss) := by
  rw [dL_withdraw_7, ey_ok, nx_i2l_24]
theorem qL_withdraw_8 : ey F ini rt fin K0 K (decode cL_withdraw 8) 8 L (.long lx :: .int i :: .ref a :: r) h cs ss = (isA (h.1 a) (fun k m => k = 3 ∧ vp_in i m) ∧ K 9 L r (h.1, hup h.2 a i.toNatClampNeg (.long lx)) cs ss) := by
  rw [dL_withdraw_8, ey_ok, nx_lastore_65]
theorem qL_withdraw_9 : ey F ini rt fin K0 K (decode cL_withdraw 9) 9 L (st) h cs ss = (K 18 L st h cs ss) := by
  rw [dL_withdraw_9, ey_ok, nx_goto_29]
  exact and_l (by unfold jok; decide)
theorem qL_withdraw_12r : ey F ini rt fin K0 K (decode cL_withdraw 12) 12 L (.ref a :: r) h cs ss = (3 < L.length ∧ K 13 (L.set 3 (some (.ref a))) r h cs ss) := by
  rw [dL_withdraw_12, ey_ok, nx_astore_n_8] <;> rfl
theorem qL_withdraw_12n : ey F ini rt fin K0 K (decode cL_withdraw 12) 12 L (.null :: r) h cs ss = (3 < L.length ∧ K 13 (L.set 3 (some .null)) r h cs ss) := by
  rw [dL_withdraw_12, ey_ok, nx_astore_n_9] <;> rfl
theorem qL_withdraw_13 : ey F ini rt fin K0 K (decode cL_withdraw 13) 13 L (st) h cs ss = (K 14 L (.int 1 :: st) h cs ss) := by
  rw [dL_withdraw_13, ey_ok, nx_iconst_11] <;> rfl
theorem qL_withdraw_14 : ey F ini rt fin K0 K (decode cL_withdraw 14) 14 L ([.int x]) h cs ss = (rokI rt x ∧ fin (some (.int x)) h cs ss) := by
  rw [dL_withdraw_14, ey_ok, nx_ireturn_68]
theorem qL_withdraw_15r : ey F ini rt fin K0 K (decode cL_withdraw 15) 15 L (.ref a :: r) h cs ss = (3 < L.length ∧ K 16 (L.set 3 (some (.ref a))) r h cs ss) := by
  rw [dL_withdraw_15, ey_ok, nx_astore_n_8] <;> rfl
theorem qL_withdraw_15n : ey F ini rt fin K0 K (decode cL_withdraw 15) 15 L (.null :: r) h cs ss = (3 < L.length ∧ K 16 (L.set 3 (some .null)) r h cs ss) := by
  rw [dL_withdraw_15, ey_ok, nx_astore_n_9] <;> rfl
theorem qL_withdraw_16 : ey F ini rt fin K0 K (decode cL_withdraw 16) 16 L (st) h cs ss = (K 17 L (.int 2 :: st) h cs ss) := by
  rw [dL_withdraw_16, ey_ok, nx_iconst_11] <;> rfl
theorem qL_withdraw_17 : ey F ini rt fin K0 K (decode cL_withdraw 17) 17 L ([.int x]) h cs ss = (rokI rt x ∧ fin (some (.int x)) h cs ss) := by
  rw [dL_withdraw_17, ey_ok, nx_ireturn_68]
theorem qL_withdraw_18 : ey F ini rt fin K0 K (decode cL_withdraw 18) 18 L (st) h cs ss = (K 19 L (.int 0 :: st) h cs ss) := by
  rw [dL_withdraw_18, ey_ok, nx_iconst_11] <;> rfl
theorem qL_withdraw_19 : ey F ini rt fin K0 K (decode cL_withdraw 19) 19 L ([.int x]) h cs ss = (rokI rt x ∧ fin (some (.int x)) h cs ss) := by
  rw [dL_withdraw_19, ey_ok, nx_ireturn_68]
theorem qL_ring_0 : ey F ini rt fin K0 K (decode cL_ring 0) 0 L (st) h cs ss = (lhas L 2 ∧ isRf (lgt L 2) ∧ K 1 L (lgt L 2 :: st) h cs ss) := by
  rw [dL_ring_0, ey_ok, nx_aload_n_3] <;> rfl
theorem qL_ring_1 : ey F ini rt fin K0 K (decode cL_ring 1) 1 L (st) h cs ss = (K 2 L (.int 0 :: st) h cs ss) := by
  rw [dL_ring_1, ey_ok, nx_iconst_11] <;> rfl
theorem qL_ring_2 : ey F ini rt fin K0 K (decode cL_ring 2) 2 L (st) h cs ss = (lhas L 0 ∧ isRf (lgt L 0) ∧ K 3 L (lgt L 0 :: st) h cs ss) := by
  rw [dL_ring_2, ey_ok, nx_aload_n_3] <;> rfl
theorem qL_ring_3 : ey F ini rt fin K0 K (decode cL_ring 3) 3 L (st) h cs ss = (lhas L 1 ∧ isI (lgt L 1) ∧ K 4 L (lgt L 1 :: st) h cs ss) := by
  rw [dL_ring_3, ey_ok, nx_iload_n_1] <;> rfl
theorem qL_ring_4 : ey F ini rt fin K0 K (decode cL_ring 4) 4 L (st) h cs ss = (K0 4 L st h cs ss) := by
  rw [dL_ring_4, ey_ok, nx_invokevirtual_72]
theorem qL_ring_7 : ey F ini rt fin K0 K (decode cL_ring 7) 7 L (.int x :: r) h cs ss = (K 8 L (.long x.toInt64 :: r) h cs ss) := by
  rw [dL_ring_7, ey_ok, nx_i2l_24]
theorem qL_ring_8 : ey F ini rt fin K0 K (decode cL_ring 8) 8 L (.long lx :: .int i :: .ref a :: r) h cs ss = (isA (h.1 a) (fun k m => k = 3 ∧ vp_in i m) ∧ K 9 L r (h.1, hup h.2 a i.toNatClampNeg (.long lx)) cs ss) := by
  rw [dL_ring_8, ey_ok, nx_lastore_65]
theorem qL_ring_9 : ey F ini rt fin K0 K (decode cL_ring 9) 9 L (st) h cs ss = (K 15 L st h cs ss) := by
  rw [dL_ring_9, ey_ok, nx_goto_29]
  exact and_l (by unfold jok; decide)
theorem qL_ring_12r : ey F ini rt fin K0 K (decode cL_ring 12) 12 L (.ref a :: r) h cs ss = (3 < L.length ∧ K 13 (L.set 3 (some (.ref a))) r h cs ss) := by
  rw [dL_ring_12, ey_ok, nx_astore_n_8] <;> rfl
theorem qL_ring_12n : ey F ini rt fin K0 K (decode cL_ring 12) 12 L (.null :: r) h cs ss = (3 < L.length ∧ K 13 (L.set 3 (some .null)) r h cs ss) := by
  rw [dL_ring_12, ey_ok, nx_astore_n_9] <;> rfl
theorem qL_ring_13 : ey F ini rt fin K0 K (decode cL_ring 13) 13 L (st) h cs ss = (K 14 L (.int 1 :: st) h cs ss) := by
  rw [dL_ring_13, ey_ok, nx_iconst_11] <;> rfl
theorem qL_ring_14 : ey F ini rt fin K0 K (decode cL_ring 14) 14 L ([.int x]) h cs ss = (rokI rt x ∧ fin (some (.int x)) h cs ss) := by
  rw [dL_ring_14, ey_ok, nx_ireturn_68]
theorem qL_ring_15 : ey F ini rt fin K0 K (decode cL_ring 15) 15 L (st) h cs ss = (K 16 L (.int 0 :: st) h cs ss) := by
  rw [dL_ring_15, ey_ok, nx_iconst_11] <;> rfl
theorem qL_ring_16 : ey F ini rt fin K0 K (decode cL_ring 16) 16 L ([.int x]) h cs ss = (rokI rt x ∧ fin (some (.int x)) h cs ss) := by
  rw [dL_ring_16, ey_ok, nx_ireturn_68]
theorem qL_swap_0 : ey F ini rt fin K0 K (decode cL_swap 0) 0 L (st) h cs ss = (lhas L 2 ∧ isRf (lgt L 2) ∧ K 1 L (lgt L 2 :: st) h cs ss) := by
  rw [dL_swap_0, ey_ok, nx_aload_n_3] <;> rfl
theorem qL_swap_1 : ey F ini rt fin K0 K (decode cL_swap 1) 1 L (st) h cs ss = (K 2 L (.int 0 :: st) h cs ss) := by
  rw [dL_swap_1, ey_ok, nx_iconst_11] <;> rfl
theorem qL_swap_2 : ey F ini rt fin K0 K (decode cL_swap 2) 2 L (st) h cs ss = (lhas L 0 ∧ isRf (lgt L 0) ∧ K 3 L (lgt L 0 :: st) h cs ss) := by
  rw [dL_swap_2, ey_ok, nx_aload_n_3] <;> rfl
theorem qL_swap_3 : ey F ini rt fin K0 K (decode cL_swap 3) 3 L (st) h cs ss = (lhas L 1 ∧ isI (lgt L 1) ∧ K 4 L (lgt L 1 :: st) h cs ss) := by
  rw [dL_swap_3, ey_ok, nx_iload_n_1] <;> rfl
theorem qL_swap_4 : ey F ini rt fin K0 K (decode cL_swap 4) 4 L (st) h cs ss = (K0 4 L st h cs ss) := by
  rw [dL_swap_4, ey_ok, nx_invokevirtual_72]
theorem qL_swap_7 : ey F ini rt fin K0 K (decode cL_swap 7) 7 L (.int x :: r) h cs ss = (K 8 L (.long x.toInt64 :: r) h cs ss) := by
  rw [dL_swap_7, ey_ok, nx_i2l_24]
theorem qL_swap_8 : ey F ini rt fin K0 K (decode cL_swap 8) 8 L (.long lx :: .int i :: .ref a :: r) h cs ss = (isA (h.1 a) (fun k m => k = 3 ∧ vp_in i m) ∧ K 9 L r (h.1, hup h.2 a i.toNatClampNeg (.long lx)) cs ss) := by
  rw [dL_swap_8, ey_ok, nx_lastore_65]
theorem qL_swap_9 : ey F ini rt fin K0 K (decode cL_swap 9) 9 L (st) h cs ss = (K 18 L st h cs ss) := by
  rw [dL_swap_9, ey_ok, nx_goto_29]
  exact and_l (by unfold jok; decide)
theorem qL_swap_12r : ey F ini rt fin K0 K (decode cL_swap 12) 12 L (.ref a :: r) h cs ss = (3 < L.length ∧ K 13 (L.set 3 (some (.ref a))) r h cs ss) := by
  rw [dL_swap_12, ey_ok, nx_astore_n_8] <;> rfl
theorem qL_swap_12n : ey F ini rt fin K0 K (decode cL_swap 12) 12 L (.null :: r) h cs ss = (3 < L.length ∧ K 13 (L.set 3 (some .null)) r h cs ss) := by
  rw [dL_swap_12, ey_ok, nx_astore_n_9] <;> rfl
theorem qL_swap_13 : ey F ini rt fin K0 K (decode cL_swap 13) 13 L (st) h cs ss = (K 14 L (.int 1 :: st) h cs ss) := by
  rw [dL_swap_13, ey_ok, nx_iconst_11] <;> rfl
theorem qL_swap_14 : ey F ini rt fin K0 K (decode cL_swap 14) 14 L ([.int x]) h cs ss = (rokI rt x ∧ fin (some (.int x)) h cs ss) := by
  rw [dL_swap_14, ey_ok, nx_ireturn_68]
theorem qL_swap_15r : ey F ini rt fin K0 K (decode cL_swap 15) 15 L (.ref a :: r) h cs ss = (3 < L.length ∧ K 16 (L.set 3 (some (.ref a))) r h cs ss) := by
  rw [dL_swap_15, ey_ok, nx_astore_n_8] <;> rfl
theorem qL_swap_15n : ey F ini rt fin K0 K (decode cL_swap 15) 15 L (.null :: r) h cs ss = (3 < L.length ∧ K 16 (L.set 3 (some .null)) r h cs ss) := by
  rw [dL_swap_15, ey_ok, nx_astore_n_9] <;> rfl
theorem qL_swap_16 : ey F ini rt fin K0 K (decode cL_swap 16) 16 L (st) h cs ss = (K 17 L (.int 2 :: st) h cs ss) := by
  rw [dL_swap_16, ey_ok, nx_iconst_11] <;> rfl
theorem qL_swap_17 : ey F ini rt fin K0 K (decode cL_swap 17) 17 L ([.int x]) h cs ss = (rokI rt x ∧ fin (some (.int x)) h cs ss) := by
  rw [dL_swap_17, ey_ok, nx_ireturn_68]
theorem qL_swap_18 : ey F ini rt fin K0 K (decode cL_swap 18) 18 L (st) h cs ss = (K 19 L (.int 0 :: st) h cs ss) := by
  rw [dL_swap_18, ey_ok, nx_iconst_11] <;> rfl
theorem qL_swap_19 : ey F ini rt fin K0 K (decode cL_swap 19) 19 L ([.int x]) h cs ss = (rokI rt x ∧ fin (some (.int x)) h cs ss) := by
  rw [dL_swap_19, ey_ok, nx_ireturn_68]
theorem qL_law_0 : ey F ini rt fin K0 K (decode cL_law 0) 0 L (st) h cs ss = (K0 0 L st h cs ss) := by
  rw [dL_law_0, ey_ok, nx_new_75]
theorem qL_law_3 : ey F ini rt fin K0 K (decode cL_law 3) 3 L (v :: r) h cs ss = (v.category = 1 ∧ K 4 L (v :: v :: r) h cs ss) := by
  rw [dL_law_3, ey_ok, nx_dup_27]
theorem qL_law_4 : ey F ini rt fin K0 K (decode cL_law 4) 4 L (st) h cs ss = (K0 4 L st h cs ss) := by
  rw [dL_law_4, ey_ok, nx_invokespecial_74]
theorem qL_law_7r : ey F ini rt fin K0 K (decode cL_law 7) 7 L (.ref a :: r) h cs ss = (1 < L.length ∧ K 8 (L.set 1 (some (.ref a))) r h cs ss) := by
  rw [dL_law_7, ey_ok, nx_astore_n_8] <;> rfl
theorem qL_law_7n : ey F ini rt fin K0 K (decode cL_law 7) 7 L (.null :: r) h cs ss = (1 < L.length ∧ K 8 (L.set 1 (some .null)) r h cs ss) := by
  rw [dL_law_7, ey_ok, nx_astore_n_9] <;> rfl
theorem qL_law_8 : ey F ini rt fin K0 K (decode cL_law 8) 8 L (st) h cs ss = (K0 8 L st h cs ss) := by
  rw [dL_law_8, ey_ok, nx_new_75]
theorem qL_law_11 : ey F ini rt fin K0 K (decode cL_law 11) 11 L (v :: r) h cs ss = (v.category = 1 ∧ K 12 L (v :: v :: r) h cs ss) := by
  rw [dL_law_11, ey_ok, nx_dup_27]
theorem qL_law_12 : ey F ini rt fin K0 K (decode cL_law 12) 12 L (st) h cs ss = (K0 12 L st h cs ss) := by
  rw [dL_law_12, ey_ok, nx_invokespecial_74]
theorem qL_law_15r : ey F ini rt fin K0 K (decode cL_law 15) 15 L (.ref a :: r) h cs ss = (2 < L.length ∧ K 16 (L.set 2 (some (.ref a))) r h cs ss) := by
  rw [dL_law_15, ey_ok, nx_astore_n_8] <;> rfl
theorem qL_law_15n : ey F ini rt fin K0 K (decode cL_law 15) 15 L (.null :: r) h cs ss = (2 < L.length ∧ K 16 (L.set 2 (some .null)) r h cs ss) := by
  rw [dL_law_15, ey_ok, nx_astore_n_9] <;> rfl
theorem qL_law_16 : ey F ini rt fin K0 K (decode cL_law 16) 16 L (st) h cs ss = (K 17 L (.int 1 :: st) h cs ss) := by
  rw [dL_law_16, ey_ok, nx_iconst_11] <;> rfl
theorem qL_law_17 : ey F ini rt fin K0 K (decode cL_law 17) 17 L (st) h cs ss = (K0 17 L st h cs ss) := by
  rw [dL_law_17, ey_ok, nx_newarray_76]
theorem qL_law_19r : ey F ini rt fin K0 K (decode cL_law 19) 19 L (.ref a :: r) h cs ss = (3 < L.length ∧ K 20 (L.set 3 (some (.ref a))) r h cs ss) := by
  rw [dL_law_19, ey_ok, nx_astore_n_8] <;> rfl
theorem qL_law_19n : ey F ini rt fin K0 K (decode cL_law 19) 19 L (.null :: r) h cs ss = (3 < L.length ∧ K 20 (L.set 3 (some .null)) r h cs ss) := by
  rw [dL_law_19, ey_ok, nx_astore_n_9] <;> rfl
theorem qL_law_20 : ey F ini rt fin K0 K (decode cL_law 20) 20 L (st) h cs ss = (K 21 L (.int 0 :: st) h cs ss) := by
  rw [dL_law_20, ey_ok, nx_iconst_11] <;> rfl
theorem qL_law_21 : ey F ini rt fin K0 K (decode cL_law 21) 21 L (.int x :: r) h cs ss = (4 < L.length ∧ K 23 (L.set 4 (some (.int x))) r h cs ss) := by
  rw [dL_law_21, ey_ok, nx_istore_4] <;> rfl
theorem qL_law_23 : ey F ini rt fin K0 K (decode cL_law 23) 23 L (st) h cs ss = (lhas L 4 ∧ isI (lgt L 4) ∧ K 25 L (lgt L 4 :: st) h cs ss) := by
  rw [dL_law_23, ey_ok, nx_iload_0] <;> rfl
theorem qL_law_25 : ey F ini rt fin K0 K (decode cL_law 25) 25 L (st) h cs ss = (lhas L 0 ∧ isRf (lgt L 0) ∧ K 26 L (lgt L 0 :: st) h cs ss) := by
  rw [dL_law_25, ey_ok, nx_aload_n_3] <;> rfl
theorem qL_law_26 : ey F ini rt fin K0 K (decode cL_law 26) 26 L (.ref a :: r) h cs ss = (isA (h.1 a) (fun _ _ => True) ∧ K 27 L (.int (nI (alen (h.1 a))) :: r) h cs ss) := by
  rw [dL_law_26, ey_ok, nx_arraylength_56]
theorem qL_law_27 : ey F ini rt fin K0 K (decode cL_law 27) 27 L (st) h cs ss = (K 28 L (.int 4 :: st) h cs ss) := by
  rw [dL_law_27, ey_ok, nx_iconst_11] <;> rfl
theorem qL_law_28 : ey F ini rt fin K0 K (decode cL_law 28) 28 L (.int y :: .int x :: r) h cs ss = (K 29 L (.int (x - y) :: r) h cs ss) := by
  rw [dL_law_28, ey_ok, nx_isub_17]
theorem qL_law_29 : ey F ini rt fin K0 K (decode cL_law 29) 29 L (.int y :: .int x :: r) h cs ss = (if y < x then K 1635 L r h cs ss else K 32 L r h cs ss) := by
  rw [dL_law_29, ey_ok, nx_if_icmp_40]
  exact and_l (by unfold jok; decide)
theorem qL_law_32 : ey F ini rt fin K0 K (decode cL_law 32) 32 L (st) h cs ss = (lhas L 0 ∧ isRf (lgt L 0) ∧ K 33 L (lgt L 0 :: st) h cs ss) := by
  rw [dL_law_32, ey_ok, nx_aload_n_3] <;> rfl
theorem qL_law_33 : ey F ini rt fin K0 K (decode cL_law 33) 33 L (st) h cs ss = (lhas L 4 ∧ isI (lgt L 4) ∧ K 35 L (lgt L 4 :: st) h cs ss) := by
  rw [dL_law_33, ey_ok, nx_iload_0] <;> rfl
theorem qL_law_35 : ey F ini rt fin K0 K (decode cL_law 35) 35 L (.int i :: .ref a :: r) h cs ss = (isA (h.1 a) (fun k m => k = 0 ∧ vp_in i m) ∧ K 36 L (h.2 a i.toNatClampNeg :: r) h cs ss) := by
  rw [dL_law_35, ey_ok, nx_iaload_57]
theorem qL_law_36 : ey F ini rt fin K0 K (decode cL_law 36) 36 L (st) h cs ss = (K 38 L (.int 31 :: st) h cs ss) := by
  rw [dL_law_36, ey_ok, nx_bipush_12] <;> rfl
theorem qL_law_38 : ey F ini rt fin K0 K (decode cL_law 38) 38 L (.int y :: .int x :: r) h cs ss = (K 39 L (.int (x &&& y) :: r) h cs ss) := by
  rw [dL_law_38, ey_ok, nx_iand_19]
theorem qL_law_39 : ey F ini rt fin K0 K (decode cL_law 39) 39 L (st) h cs ss = (K0 39 L st h cs ss) := by
  rw [dL_law_39, ey_ok, nx_tableswitch_78]
theorem qL_law_160 : ey F ini rt fin K0 K (decode cL_law 160) 160 L (st) h cs ss = (lhas L 1 ∧ isRf (lgt L 1) ∧ K 161 L (lgt L 1 :: st) h cs ss) := by
  rw [dL_law_160, ey_ok, nx_aload_n_3] <;> rfl
theorem qL_law_161 : ey F ini rt fin K0 K (decode cL_law 161) 161 L (st) h cs ss = (lhas L 0 ∧ isRf (lgt L 0) ∧ K 162 L (lgt L 0 :: st) h cs ss) := by
  rw [dL_law_161, ey_ok, nx_aload_n_3] <;> rfl
theorem qL_law_162 : ey F ini rt fin K0 K (decode cL_law 162) 162 L (st) h cs ss = (lhas L 4 ∧ isI (lgt L 4) ∧ K 164 L (lgt L 4 :: st) h cs ss) := by
  rw [dL_law_162, ey_ok, nx_iload_0] <;> rfl
theorem qL_law_164 : ey F ini rt fin K0 K (decode cL_law 164) 164 L (st) h cs ss = (K 165 L (.int 1 :: st) h cs ss) := by
  rw [dL_law_164, ey_ok, nx_iconst_11] <;> rfl
theorem qL_law_165 : ey F ini rt fin K0 K (decode cL_law 165) 165 L (.int y :: .int x :: r) h cs ss = (K 166 L (.int (x + y) :: r) h cs ss) := by
  rw [dL_law_165, ey_ok, nx_iadd_16]
theorem qL_law_166 : ey F ini rt fin K0 K (decode cL_law 166) 166 L (.int i :: .ref a :: r) h cs ss = (isA (h.1 a) (fun k m => k = 0 ∧ vp_in i m) ∧ K 167 L (h.2 a i.toNatClampNeg :: r) h cs ss) := by
  rw [dL_law_166, ey_ok, nx_iaload_57]
theorem qL_law_167 : ey F ini rt fin K0 K (decode cL_law 167) 167 L (st) h cs ss = (lhas L 3 ∧ isRf (lgt L 3) ∧ K 168 L (lgt L 3 :: st) h cs ss) := by
  rw [dL_law_167, ey_ok, nx_aload_n_3] <;> rfl
theorem qL_law_168 : ey F ini rt fin K0 K (decode cL_law 168) 168 L (st) h cs ss = (K0 168 L st h cs ss) := by
  rw [dL_law_168, ey_ok, nx_invokestatic_73]
theorem qL_law_171 : ey F ini rt fin K0 K (decode cL_law 171) 171 L (.int x :: r) h cs ss = (5 < L.length ∧ K 173 (L.set 5 (some (.int x))) r h cs ss) := by
  rw [dL_law_171, ey_ok, nx_istore_4] <;> rfl
theorem qL_law_173 : ey F ini rt fin K0 K (decode cL_law 173) 173 L (st) h cs ss = (lhas L 2 ∧ isRf (lgt L 2) ∧ K 174 L (lgt L 2 :: st) h cs ss) := by
  rw [dL_law_173, ey_ok, nx_aload_n_3] <;> rfl
theorem qL_law_174 : ey F ini rt fin K0 K (decode cL_law 174) 174 L (st) h cs ss = (lhas L 0 ∧ isRf (lgt L 0) ∧ K 175 L (lgt L 0 :: st) h cs ss) := by
  rw [dL_law_174, ey_ok, nx_aload_n_3] <;> rfl
theorem qL_law_175 : ey F ini rt fin K0 K (decode cL_law 175) 175 L (st) h cs ss = (lhas L 4 ∧ isI (lgt L 4) ∧ K 177 L (lgt L 4 :: st) h cs ss) := by
  rw [dL_law_175, ey_ok, nx_iload_0] <;> rfl
theorem qL_law_177 : ey F ini rt fin K0 K (decode cL_law 177) 177 L (st) h cs ss = (K 178 L (.int 1 :: st) h cs ss) := by
  rw [dL_law_177, ey_ok, nx_iconst_11] <;> rfl
theorem qL_law_178 : ey F ini rt fin K0 K (decode cL_law 178) 178 L (.int y :: .int x :: r) h cs ss = (K 179 L (.int (x + y) :: r) h cs ss) := by
  rw [dL_law_178, ey_ok, nx_iadd_16]
theorem qL_law_179 : ey F ini rt fin K0 K (decode cL_law 179) 179 L (.int i :: .ref a :: r) h cs ss = (isA (h.1 a) (fun k m => k = 0 ∧ vp_in i m) ∧ K 180 L (h.2 a i.toNatClampNeg :: r) h cs ss) := by
  rw [dL_law_179, ey_ok, nx_iaload_57]
theorem qL_law_180 : ey F ini rt fin K0 K (decode cL_law 180) 180 L (st) h cs ss = (K0 180 L st h cs ss) := by
  rw [dL_law_180, ey_ok, nx_invokevirtual_72]
theorem qL_law_183 : ey F ini rt fin K0 K (decode cL_law 183) 183 L (.int x :: r) h cs ss = (6 < L.length ∧ K 185 (L.set 6 (some (.int x))) r h cs ss) := by
  rw [dL_law_183, ey_ok, nx_istore_4] <;> rfl
theorem qL_law_185 : ey F ini rt fin K0 K (decode cL_law 185) 185 L (st) h cs ss = (lhas L 2 ∧ isRf (lgt L 2) ∧ K 186 L (lgt L 2 :: st) h cs ss) := by
  rw [dL_law_185, ey_ok, nx_aload_n_3] <;> rfl
theorem qL_law_186 : ey F ini rt fin K0 K (decode cL_law 186) 186 L (st) h cs ss = (K0 186 L st h cs ss) := by
  rw [dL_law_186, ey_ok, nx_invokevirtual_72]
theorem qL_law_189 : ey F ini rt fin K0 K (decode cL_law 189) 189 L (st) h cs ss = (lhas L 5 ∧ isI (lgt L 5) ∧ K 191 L (lgt L 5 :: st) h cs ss) := by
  rw [dL_law_189, ey_ok, nx_iload_0] <;> rfl
theorem qL_law_191 : ey F ini rt fin K0 K (decode cL_law 191) 191 L (.int y :: .int x :: r) h cs ss = (if x = y then K 196 L r h cs ss else K 194 L r h cs ss) := by
  rw [dL_law_191, ey_ok, nx_if_icmp_36]
  exact and_l (by unfold jok; decide)
theorem qL_law_194 : ey F ini rt fin K0 K (decode cL_law 194) 194 L (st) h cs ss = (K 195 L (.int 0 :: st) h cs ss) := by
  rw [dL_law_194, ey_ok, nx_iconst_11] <;> rfl
theorem qL_law_195 : ey F ini rt fin K0 K (decode cL_law 195) 195 L ([.int x]) h cs ss = (rokI rt x ∧ fin (some (.int x)) h cs ss) := by
  rw [dL_law_195, ey_ok, nx_ireturn_68]
theorem qL_law_196 : ey F ini rt fin K0 K (decode cL_law 196) 196 L (st) h cs ss = (lhas L 5 ∧ isI (lgt L 5) ∧ K 198 L (lgt L 5 :: st) h cs ss) := by
  rw [dL_law_196, ey_ok, nx_iload_0] <;> rfl
theorem qL_law_198 : ey F ini rt fin K0 K (decode cL_law 198) 198 L (.int x :: r) h cs ss = (if ¬ x = 0 then K 213 L r h cs ss else K 201 L r h cs ss) := by
  rw [dL_law_198, ey_ok, nx_ifond_31]
  exact and_l (by unfold jok; decide)
theorem qL_law_201 : ey F ini rt fin K0 K (decode cL_law 201) 201 L (st) h cs ss = (lhas L 3 ∧ isRf (lgt L 3) ∧ K 202 L (lgt L 3 :: st) h cs ss) := by
  rw [dL_law_201, ey_ok, nx_aload_n_3] <;> rfl
theorem qL_law_202 : ey F ini rt fin K0 K (decode cL_law 202) 202 L (st) h cs ss = (K 203 L (.int 0 :: st) h cs ss) := by
  rw [dL_law_202, ey_ok, nx_iconst_11] <;> rfl
theorem qL_law_203 : ey F ini rt fin K0 K (decode cL_law 203) 203 L (.int i :: .ref a :: r) h cs ss = (isA (h.1 a) (fun k m => k = 3 ∧ vp_in i m) ∧ K 204 L (h.2 a i.toNatClampNeg :: r) h cs ss) := by
  rw [dL_law_203, ey_ok, nx_laload_60]
theorem qL_law_204 : ey F ini rt fin K0 K (decode cL_law 204) 204 L (st) h cs ss = (lhas L 6 ∧ isI (lgt L 6) ∧ K 206 L (lgt L 6 :: st) h cs ss) := by
  rw [dL_law_204, ey_ok, nx_iload_0] <;> rfl
theorem qL_law_206 : ey F ini rt fin K0 K (decode cL_law 206) 206 L (.int x :: r) h cs ss = (K 207 L (.long x.toInt64 :: r) h cs ss) := by
  rw [dL_law_206, ey_ok, nx_i2l_24]
theorem qL_law_207 : ey F ini rt fin K0 K (decode cL_law 207) 207 L (.long ly :: .long lx :: r) h cs ss = (K 208 L (.int (lg_cmp lx ly) :: r) h cs ss) := by
  rw [dL_law_207, ey_ok, nx_lcmp_26]
theorem qL_law_208 : ey F ini rt fin K0 K (decode cL_law 208) 208 L (.int x :: r) h cs ss = (if x = 0 then K 213 L r h cs ss else K 211 L r h cs ss) := by
  rw [dL_law_208, ey_ok, nx_ifond_30]
  exact and_l (by unfold jok; decide)
theorem qL_law_211 : ey F ini rt fin K0 K (decode cL_law 211) 211 L (st) h cs ss = (K 212 L (.int 0 :: st) h cs ss) := by
  rw [dL_law_211, ey_ok, nx_iconst_11] <;> rfl
theorem qL_law_212 : ey F ini rt fin K0 K (decode cL_law 212) 212 L ([.int x]) h cs ss = (rokI rt x ∧ fin (some (.int x)) h cs ss) := by
  rw [dL_law_212, ey_ok, nx_ireturn_68]
theorem qL_law_213 : ey F ini rt fin K0 K (decode cL_law 213) 213 L (st) h cs ss = (K 1629 L st h cs ss) := by
  rw [dL_law_213, ey_ok, nx_goto_29]
  exact and_l (by unfold jok; decide)
theorem qL_law_216 : ey F ini rt fin K0 K (decode cL_law 216) 216 L (st) h cs ss = (lhas L 1 ∧ isRf (lgt L 1) ∧ K 217 L (lgt L 1 :: st) h cs ss) := by
  rw [dL_law_216, ey_ok, nx_aload_n_3] <;> rfl
theorem qL_law_217 : ey F ini rt fin K0 K (decode cL_law 217) 217 L (st) h cs ss = (lhas L 0 ∧ isRf (lgt L 0) ∧ K 218 L (lgt L 0 :: st) h cs ss) := by
  rw [dL_law_217, ey_ok, nx_aload_n_3] <;> rfl
theorem qL_law_218 : ey F ini rt fin K0 K (decode cL_law 218) 218 L (st) h cs ss = (lhas L 4 ∧ isI (lgt L 4) ∧ K 220 L (lgt L 4 :: st) h cs ss) := by
  rw [dL_law_218, ey_ok, nx_iload_0] <;> rfl
theorem qL_law_220 : ey F ini rt fin K0 K (decode cL_law 220) 220 L (st) h cs ss = (K 221 L (.int 1 :: st) h cs ss) := by
  rw [dL_law_220, ey_ok, nx_iconst_11] <;> rfl
theorem qL_law_221 : ey F ini rt fin K0 K (decode cL_law 221) 221 L (.int y :: .int x :: r) h cs ss = (K 222 L (.int (x + y) :: r) h cs ss) := by
  rw [dL_law_221, ey_ok, nx_iadd_16]
theorem qL_law_222 : ey F ini rt fin K0 K (decode cL_law 222) 222 L (.int i :: .ref a :: r) h cs ss = (isA (h.1 a) (fun k m => k = 0 ∧ vp_in i m) ∧ K 223 L (h.2 a i.toNatClampNeg :: r) h cs ss) := by
  rw [dL_law_222, ey_ok, nx_iaload_57]
theorem qL_law_223 : ey F ini rt fin K0 K (decode cL_law 223) 223 L (st) h cs ss = (lhas L 0 ∧ isRf (lgt L 0) ∧ K 224 L (lgt L 0 :: st) h cs ss) := by
  rw [dL_law_223, ey_ok, nx_aload_n_3] <;> rfl
theorem qL_law_224 : ey F ini rt fin K0 K (decode cL_law 224) 224 L (st) h cs ss = (lhas L 4 ∧ isI (lgt L 4) ∧ K 226 L (lgt L 4 :: st) h cs ss) := by
  rw [dL_law_224, ey_ok, nx_iload_0] <;> rfl
theorem qL_law_226 : ey F ini rt fin K0 K (decode cL_law 226) 226 L (st) h cs ss = (K 227 L (.int 2 :: st) h cs ss) := by
  rw [dL_law_226, ey_ok, nx_iconst_11] <;> rfl
theorem qL_law_227 : ey F ini rt fin K0 K (decode cL_law 227) 227 L (.int y :: .int x :: r) h cs ss = (K 228 L (.int (x + y) :: r) h cs ss) := by
  rw [dL_law_227, ey_ok, nx_iadd_16]
theorem qL_law_228 : ey F ini rt fin K0 K (decode cL_law 228) 228 L (.int i :: .ref a :: r) h cs ss = (isA (h.1 a) (fun k m => k = 0 ∧ vp_in i m) ∧ K 229 L (h.2 a i.toNatClampNeg :: r) h cs ss) := by
  rw [dL_law_228, ey_ok, nx_iaload_57]
theorem qL_law_229 : ey F ini rt fin K0 K (decode cL_law 229) 229 L (st) h cs ss = (lhas L 0 ∧ isRf (lgt L 0) ∧ K 230 L (lgt L 0 :: st) h cs ss) := by
  rw [dL_law_229, ey_ok, nx_aload_n_3] <;> rfl
theorem qL_law_230 : ey F ini rt fin K0 K (decode cL_law 230) 230 L (st) h cs ss = (lhas L 4 ∧ isI (lgt L 4) ∧ K 232 L (lgt L 4 :: st) h cs ss) := by
  rw [dL_law_230, ey_ok, nx_iload_0] <;> rfl
theorem qL_law_232 : ey F ini rt fin K0 K (decode cL_law 232) 232 L (st) h cs ss = (K 233 L (.int 3 :: st) h cs ss) := by
  rw [dL_law_232, ey_ok, nx_iconst_11] <;> rfl
theorem qL_law_233 : ey F ini rt fin K0 K (decode cL_law 233) 233 L (.int y :: .int x :: r) h cs ss = (K 234 L (.int (x + y) :: r) h cs ss) := by
  rw [dL_law_233, ey_ok, nx_iadd_16]
theorem qL_law_234 : ey F ini rt fin K0 K (decode cL_law 234) 234 L (.int i :: .ref a :: r) h cs ss = (isA (h.1 a) (fun k m => k = 0 ∧ vp_in i m) ∧ K 235 L (h.2 a i.toNatClampNeg :: r) h cs ss) := by
  rw [dL_law_234, ey_ok, nx_iaload_57]
theorem qL_law_235 : ey F ini rt fin K0 K (decode cL_law 235) 235 L (st) h cs ss = (lhas L 3 ∧ isRf (lgt L 3) ∧ K 236 L (lgt L 3 :: st) h cs ss) := by
  rw [dL_law_235, ey_ok, nx_aload_n_3] <;> rfl
theorem qL_law_236 : ey F ini rt fin K0 K (decode cL_law 236) 236 L (st) h cs ss = (K0 236 L st h cs ss) := by
  rw [dL_law_236, ey_ok, nx_invokestatic_73]
theorem qL_law_239 : ey F ini rt fin K0 K (decode cL_law 239) 239 L (.int x :: r) h cs ss = (5 < L.length ∧ K 241 (L.set 5 (some (.int x))) r h cs ss) := by
  rw [dL_law_239, ey_ok, nx_istore_4] <;> rfl
theorem qL_law_241 : ey F ini rt fin K0 K (decode cL_law 241) 241 L (st) h cs ss = (lhas L 2 ∧ isRf (lgt L 2) ∧ K 242 L (lgt L 2 :: st) h cs ss) := by
  rw [dL_law_241, ey_ok, nx_aload_n_3] <;> rfl
theorem qL_law_242 : ey F ini rt fin K0 K (decode cL_law 242) 242 L (st) h cs ss = (lhas L 0 ∧ isRf (lgt L 0) ∧ K 243 L (lgt L 0 :: st) h cs ss) := by
  rw [dL_law_242, ey_ok, nx_aload_n_3] <;> rfl
theorem qL_law_243 : ey F ini rt fin K0 K (decode cL_law 243) 243 L (st) h cs ss = (lhas L 4 ∧ isI (lgt L 4) ∧ K 245 L (lgt L 4 :: st) h cs ss) := by
  rw [dL_law_243, ey_ok, nx_iload_0] <;> rfl
theorem qL_law_245 : ey F ini rt fin K0 K (decode cL_law 245) 245 L (st) h cs ss = (K 246 L (.int 1 :: st) h cs ss) := by
  rw [dL_law_245, ey_ok, nx_iconst_11] <;> rfl
theorem qL_law_246 : ey F ini rt fin K0 K (decode cL_law 246) 246 L (.int y :: .int x :: r) h cs ss = (K 247 L (.int (x + y) :: r) h cs ss) := by
  rw [dL_law_246, ey_ok, nx_iadd_16]
theorem qL_law_247 : ey F ini rt fin K0 K (decode cL_law 247) 247 L (.int i :: .ref a :: r) h cs ss = (isA (h.1 a) (fun k m => k = 0 ∧ vp_in i m) ∧ K 248 L (h.2 a i.toNatClampNeg :: r) h cs ss) := by
  rw [dL_law_247, ey_ok, nx_iaload_57]
theorem qL_law_248 : ey F ini rt fin K0 K (decode cL_law 248) 248 L (st) h cs ss = (lhas L 0 ∧ isRf (lgt L 0) ∧ K 249 L (lgt L 0 :: st) h cs ss) := by
  rw [dL_law_248, ey_ok, nx_aload_n_3] <;> rfl
theorem qL_law_249 : ey F ini rt fin K0 K (decode cL_law 249) 249 L (st) h cs ss = (lhas L 4 ∧ isI (lgt L 4) ∧ K 251 L (lgt L 4 :: st) h cs ss) := by
  rw [dL_law_249, ey_ok, nx_iload_0] <;> rfl
theorem qL_law_251 : ey F ini rt fin K0 K (decode cL_law 251) 251 L (st) h cs ss = (K 252 L (.int 2 :: st) h cs ss) := by
  rw [dL_law_251, ey_ok, nx_iconst_11] <;> rfl
theorem qL_law_252 : ey F ini rt fin K0 K (decode cL_law 252) 252 L (.int y :: .int x :: r) h cs ss = (K 253 L (.int (x + y) :: r) h cs ss) := by
  rw [dL_law_252, ey_ok, nx_iadd_16]
theorem qL_law_253 : ey F ini rt fin K0 K (decode cL_law 253) 253 L (.int i :: .ref a :: r) h cs ss = (isA (h.1 a) (fun k m => k = 0 ∧ vp_in i m) ∧ K 254 L (h.2 a i.toNatClampNeg :: r) h cs ss) := by
  rw [dL_law_253, ey_ok, nx_iaload_57]
theorem qL_law_254 : ey F ini rt fin K0 K (decode cL_law 254) 254 L (st) h cs ss = (lhas L 0 ∧ isRf (lgt L 0) ∧ K 255 L (lgt L 0 :: st) h cs ss) := by
  rw [dL_law_254, ey_ok, nx_aload_n_3] <;> rfl
theorem qL_law_255 : ey F ini rt fin K0 K (decode cL_law 255) 255 L (st) h cs ss = (lhas L 4 ∧ isI (lgt L 4) ∧ K 257 L (lgt L 4 :: st) h cs ss) := by
  rw [dL_law_255, ey_ok, nx_iload_0] <;> rfl
theorem qL_law_257 : ey F ini rt fin K0 K (decode cL_law 257) 257 L (st) h cs ss = (K 258 L (.int 3 :: st) h cs ss) := by
  rw [dL_law_257, ey_ok, nx_iconst_11] <;> rfl
theorem qL_law_258 : ey F ini rt fin K0 K (decode cL_law 258) 258 L (.int y :: .int x :: r) h cs ss = (K 259 L (.int (x + y) :: r) h cs ss) := by
  rw [dL_law_258, ey_ok, nx_iadd_16]
theorem qL_law_259 : ey F ini rt fin K0 K (decode cL_law 259) 259 L (.int i :: .ref a :: r) h cs ss = (isA (h.1 a) (fun k m => k = 0 ∧ vp_in i m) ∧ K 260 L (h.2 a i.toNatClampNeg :: r) h cs ss) := by
  rw [dL_law_259, ey_ok, nx_iaload_57]
theorem qL_law_260 : ey F ini rt fin K0 K (decode cL_law 260) 260 L (st) h cs ss = (K0 260 L st h cs ss) := by
  rw [dL_law_260, ey_ok, nx_invokevirtual_72]
theorem qL_law_263 : ey F ini rt fin K0 K (decode cL_law 263) 263 L (.int x :: r) h cs ss = (6 < L.length ∧ K 265 (L.set 6 (some (.int x))) r h cs ss) := by
  rw [dL_law_263, ey_ok, nx_istore_4] <;> rfl
theorem qL_law_265 : ey F ini rt fin K0 K (decode cL_law 265) 265 L (st) h cs ss = (lhas L 2 ∧ isRf (lgt L 2) ∧ K 266 L (lgt L 2 :: st) h cs ss) := by
  rw [dL_law_265, ey_ok, nx_aload_n_3] <;> rfl
theorem qL_law_266 : ey F ini rt fin K0 K (decode cL_law 266) 266 L (st) h cs ss = (K0 266 L st h cs ss) := by
  rw [dL_law_266, ey_ok, nx_invokevirtual_72]
theorem qL_law_269 : ey F ini rt fin K0 K (decode cL_law 269) 269 L (st) h cs ss = (lhas L 5 ∧ isI (lgt L 5) ∧ K 271 L (lgt L 5 :: st) h cs ss) := by
  rw [dL_law_269, ey_ok, nx_iload_0] <;> rfl
theorem qL_law_271 : ey F ini rt fin K0 K (decode cL_law 271) 271 L (.int y :: .int x :: r) h cs ss = (if x = y then K 276 L r h cs ss else K 274 L r h cs ss) := by
  rw [dL_law_271, ey_ok, nx_if_icmp_36]
  exact and_l (by unfold jok; decide)
theorem qL_law_274 : ey F ini rt fin K0 K (decode cL_law 274) 274 L (st) h cs ss = (K 275 L (.int 0 :: st) h cs ss) := by
  rw [dL_law_274, ey_ok, nx_iconst_11] <;> rfl
theorem qL_law_275 : ey F ini rt fin K0 K (decode cL_law 275) 275 L ([.int x]) h cs ss = (rokI rt x ∧ fin (some (.int x)) h cs ss) := by
  rw [dL_law_275, ey_ok, nx_ireturn_68]
theorem qL_law_276 : ey F ini rt fin K0 K (decode cL_law 276) 276 L (st) h cs ss = (lhas L 5 ∧ isI (lgt L 5) ∧ K 278 L (lgt L 5 :: st) h cs ss) := by
  rw [dL_law_276, ey_ok, nx_iload_0] <;> rfl
theorem qL_law_278 : ey F ini rt fin K0 K (decode cL_law 278) 278 L (.int x :: r) h cs ss = (if ¬ x = 0 then K 293 L r h cs ss else K 281 L r h cs ss) := by
  rw [dL_law_278, ey_ok, nx_ifond_31]
  exact and_l (by unfold jok; decide)
theorem qL_law_281 : ey F ini rt fin K0 K (decode cL_law 281) 281 L (st) h cs ss = (lhas L 3 ∧ isRf (lgt L 3) ∧ K 282 L (lgt L 3 :: st) h cs ss) := by
  rw [dL_law_281, ey_ok, nx_aload_n_3] <;> rfl
theorem qL_law_282 : ey F ini rt fin K0 K (decode cL_law 282) 282 L (st) h cs ss = (K 283 L (.int 0 :: st) h cs ss) := by
  rw [dL_law_282, ey_ok, nx_iconst_11] <;> rfl
theorem qL_law_283 : ey F ini rt fin K0 K (decode cL_law 283) 283 L (.int i :: .ref a :: r) h cs ss = (isA (h.1 a) (fun k m => k = 3 ∧ vp_in i m) ∧ K 284 L (h.2 a i.toNatClampNeg :: r) h cs ss) := by
  rw [dL_law_283, ey_ok, nx_laload_60]
theorem qL_law_284 : ey F ini rt fin K0 K (decode cL_law 284) 284 L (st) h cs ss = (lhas L 6 ∧ isI (lgt L 6) ∧ K 286 L (lgt L 6 :: st) h cs ss) := by
  rw [dL_law_284, ey_ok, nx_iload_0] <;> rfl
theorem qL_law_286 : ey F ini rt fin K0 K (decode cL_law 286) 286 L (.int x :: r) h cs ss = (K 287 L (.long x.toInt64 :: r) h cs ss) := by
  rw [dL_law_286, ey_ok, nx_i2l_24]
theorem qL_law_287 : ey F ini rt fin K0 K (decode cL_law 287) 287 L (.long ly :: .long lx :: r) h cs ss = (K 288 L (.int (lg_cmp lx ly) :: r) h cs ss) := by
  rw [dL_law_287, ey_ok, nx_lcmp_26]
theorem qL_law_288 : ey F ini rt fin K0 K (decode cL_law 288) 288 L (.int x :: r) h cs ss = (if x = 0 then K 293 L r h cs ss else K 291 L r h cs ss) := by
  rw [dL_law_288, ey_ok, nx_ifond_30]
  exact and_l (by unfold jok; decide)
theorem qL_law_291 : ey F ini rt fin K0 K (decode cL_law 291) 291 L (st) h cs ss = (K 292 L (.int 0 :: st) h cs ss) := by
  rw [dL_law_291, ey_ok, nx_iconst_11] <;> rfl
theorem qL_law_292 : ey F ini rt fin K0 K (decode cL_law 292) 292 L ([.int x]) h cs ss = (rokI rt x ∧ fin (some (.int x)) h cs ss) := by
  rw [dL_law_292, ey_ok, nx_ireturn_68]
theorem qL_law_293 : ey F ini rt fin K0 K (decode cL_law 293) 293 L (st) h cs ss = (K 1629 L st h cs ss) := by
  rw [dL_law_293, ey_ok, nx_goto_29]
  exact and_l (by unfold jok; decide)
theorem qL_law_296 : ey F ini rt fin K0 K (decode cL_law 296) 296 L (st) h cs ss = (lhas L 1 ∧ isRf (lgt L 1) ∧ K 297 L (lgt L 1 :: st) h cs ss) := by
  rw [dL_law_296, ey_ok, nx_aload_n_3] <;> rfl
theorem qL_law_297 : ey F ini rt fin K0 K (decode cL_law 297) 297 L (st) h cs ss = (lhas L 0 ∧ isRf (lgt L 0) ∧ K 298 L (lgt L 0 :: st) h cs ss) := by
  rw [dL_law_297, ey_ok, nx_aload_n_3] <;> rfl
theorem qL_law_298 : ey F ini rt fin K0 K (decode cL_law 298) 298 L (st) h cs ss = (lhas L 4 ∧ isI (lgt L 4) ∧ K 300 L (lgt L 4 :: st) h cs ss) := by
  rw [dL_law_298, ey_ok, nx_iload_0] <;> rfl
theorem qL_law_300 : ey F ini rt fin K0 K (decode cL_law 300) 300 L (st) h cs ss = (K 301 L (.int 1 :: st) h cs ss) := by
  rw [dL_law_300, ey_ok, nx_iconst_11] <;> rfl
theorem qL_law_301 : ey F ini rt fin K0 K (decode cL_law 301) 301 L (.int y :: .int x :: r) h cs ss = (K 302 L (.int (x + y) :: r) h cs ss) := by
  rw [dL_law_301, ey_ok, nx_iadd_16]
theorem qL_law_302 : ey F ini rt fin K0 K (decode cL_law 302) 302 L (.int i :: .ref a :: r) h cs ss = (isA (h.1 a) (fun k m => k = 0 ∧ vp_in i m) ∧ K 303 L (h.2 a i.toNatClampNeg :: r) h cs ss) := by
  rw [dL_law_302, ey_ok, nx_iaload_57]
theorem qL_law_303 : ey F ini rt fin K0 K (decode cL_law 303) 303 L (st) h cs ss = (lhas L 0 ∧ isRf (lgt L 0) ∧ K 304 L (lgt L 0 :: st) h cs ss) := by
  rw [dL_law_303, ey_ok, nx_aload_n_3] <;> rfl
theorem qL_law_304 : ey F ini rt fin K0 K (decode cL_law 304) 304 L (st) h cs ss = (lhas L 4 ∧ isI (lgt L 4) ∧ K 306 L (lgt L 4 :: st) h cs ss) := by
  rw [dL_law_304, ey_ok, nx_iload_0] <;> rfl
theorem qL_law_306 : ey F ini rt fin K0 K (decode cL_law 306) 306 L (st) h cs ss = (K 307 L (.int 2 :: st) h cs ss) := by
  rw [dL_law_306, ey_ok, nx_iconst_11] <;> rfl
theorem qL_law_307 : ey F ini rt fin K0 K (decode cL_law 307) 307 L (.int y :: .int x :: r) h cs ss = (K 308 L (.int (x + y) :: r) h cs ss) := by
  rw [dL_law_307, ey_ok, nx_iadd_16]
theorem qL_law_308 : ey F ini rt fin K0 K (decode cL_law 308) 308 L (.int i :: .ref a :: r) h cs ss = (isA (h.1 a) (fun k m => k = 0 ∧ vp_in i m) ∧ K 309 L (h.2 a i.toNatClampNeg :: r) h cs ss) := by
  rw [dL_law_308, ey_ok, nx_iaload_57]
theorem qL_law_309 : ey F ini rt fin K0 K (decode cL_law 309) 309 L (st) h cs ss = (lhas L 0 ∧ isRf (lgt L 0) ∧ K 310 L (lgt L 0 :: st) h cs ss) := by
  rw [dL_law_309, ey_ok, nx_aload_n_3] <;> rfl
theorem qL_law_310 : ey F ini rt fin K0 K (decode cL_law 310) 310 L (st) h cs ss = (lhas L 4 ∧ isI (lgt L 4) ∧ K 312 L (lgt L 4 :: st) h cs ss) := by
  rw [dL_law_310, ey_ok, nx_iload_0] <;> rfl
theorem qL_law_312 : ey F ini rt fin K0 K (decode cL_law 312) 312 L (st) h cs ss = (K 313 L (.int 3 :: st) h cs ss) := by
  rw [dL_law_312, ey_ok, nx_iconst_11] <;> rfl
theorem qL_law_313 : ey F ini rt fin K0 K (decode cL_law 313) 313 L (.int y :: .int x :: r) h cs ss = (K 314 L (.int (x + y) :: r) h cs ss) := by
  rw [dL_law_313, ey_ok, nx_iadd_16]
theorem qL_law_314 : ey F ini rt fin K0 K (decode cL_law 314) 314 L (.int i :: .ref a :: r) h cs ss = (isA (h.1 a) (fun k m => k = 0 ∧ vp_in i m) ∧ K 315 L (h.2 a i.toNatClampNeg :: r) h cs ss) := by
  rw [dL_law_314, ey_ok, nx_iaload_57]
theorem qL_law_315 : ey F ini rt fin K0 K (decode cL_law 315) 315 L (st) h cs ss = (lhas L 3 ∧ isRf (lgt L 3) ∧ K 316 L (lgt L 3 :: st) h cs ss) := by
  rw [dL_law_315, ey_ok, nx_aload_n_3] <;> rfl
theorem qL_law_316 : ey F ini rt fin K0 K (decode cL_law 316) 316 L (st) h cs ss = (K0 316 L st h cs ss) := by
  rw [dL_law_316, ey_ok, nx_invokestatic_73]
theorem qL_law_319 : ey F ini rt fin K0 K (decode cL_law 319) 319 L (.int x :: r) h cs ss = (5 < L.length ∧ K 321 (L.set 5 (some (.int x))) r h cs ss) := by
  rw [dL_law_319, ey_ok, nx_istore_4] <;> rfl
theorem qL_law_321 : ey F ini rt fin K0 K (decode cL_law 321) 321 L (st) h cs ss = (lhas L 2 ∧ isRf (lgt L 2) ∧ K 322 L (lgt L 2 :: st) h cs ss) := by
  rw [dL_law_321, ey_ok, nx_aload_n_3] <;> rfl
theorem qL_law_322 : ey F ini rt fin K0 K (decode cL_law 322) 322 L (st) h cs ss = (lhas L 0 ∧ isRf (lgt L 0) ∧ K 323 L (lgt L 0 :: st) h cs ss) := by
  rw [dL_law_322, ey_ok, nx_aload_n_3] <;> rfl
theorem qL_law_323 : ey F ini rt fin K0 K (decode cL_law 323) 323 L (st) h cs ss = (lhas L 4 ∧ isI (lgt L 4) ∧ K 325 L (lgt L 4 :: st) h cs ss) := by
  rw [dL_law_323, ey_ok, nx_iload_0] <;> rfl
theorem qL_law_325 : ey F ini rt fin K0 K (decode cL_law 325) 325 L (st) h cs ss = (K 326 L (.int 1 :: st) h cs ss) := by
  rw [dL_law_325, ey_ok, nx_iconst_11] <;> rfl
theorem qL_law_326 : ey F ini rt fin K0 K (decode cL_law 326) 326 L (.int y :: .int x :: r) h cs ss = (K 327 L (.int (x + y) :: r) h cs ss) := by
  rw [dL_law_326, ey_ok, nx_iadd_16]
theorem qL_law_327 : ey F ini rt fin K0 K (decode cL_law 327) 327 L (.int i :: .ref a :: r) h cs ss = (isA (h.1 a) (fun k m => k = 0 ∧ vp_in i m) ∧ K 328 L (h.2 a i.toNatClampNeg :: r) h cs ss) := by
  rw [dL_law_327, ey_ok, nx_iaload_57]
theorem qL_law_328 : ey F ini rt fin K0 K (decode cL_law 328) 328 L (st) h cs ss = (lhas L 0 ∧ isRf (lgt L 0) ∧ K 329 L (lgt L 0 :: st) h cs ss) := by
  rw [dL_law_328, ey_ok, nx_aload_n_3] <;> rfl
theorem qL_law_329 : ey F ini rt fin K0 K (decode cL_law 329) 329 L (st) h cs ss = (lhas L 4 ∧ isI (lgt L 4) ∧ K 331 L (lgt L 4 :: st) h cs ss) := by
  rw [dL_law_329, ey_ok, nx_iload_0] <;> rfl
theorem qL_law_331 : ey F ini rt fin K0 K (decode cL_law 331) 331 L (st) h cs ss = (K 332 L (.int 2 :: st) h cs ss) := by
  rw [dL_law_331, ey_ok, nx_iconst_11] <;> rfl
theorem qL_law_332 : ey F ini rt fin K0 K (decode cL_law 332) 332 L (.int y :: .int x :: r) h cs ss = (K 333 L (.int (x + y) :: r) h cs ss) := by
  rw [dL_law_332, ey_ok, nx_iadd_16]
theorem qL_law_333 : ey F ini rt fin K0 K (decode cL_law 333) 333 L (.int i :: .ref a :: r) h cs ss = (isA (h.1 a) (fun k m => k = 0 ∧ vp_in i m) ∧ K 334 L (h.2 a i.toNatClampNeg :: r) h cs ss) := by
  rw [dL_law_333, ey_ok, nx_iaload_57]
theorem qL_law_334 : ey F ini rt fin K0 K (decode cL_law 334) 334 L (st) h cs ss = (lhas L 0 ∧ isRf (lgt L 0) ∧ K 335 L (lgt L 0 :: st) h cs ss) := by
  rw [dL_law_334, ey_ok, nx_aload_n_3] <;> rfl
theorem qL_law_335 : ey F ini rt fin K0 K (decode cL_law 335) 335 L (st) h cs ss = (lhas L 4 ∧ isI (lgt L 4) ∧ K 337 L (lgt L 4 :: st) h cs ss) := by
  rw [dL_law_335, ey_ok, nx_iload_0] <;> rfl
theorem qL_law_337 : ey F ini rt fin K0 K (decode cL_law 337) 337 L (st) h cs ss = (K 338 L (.int 3 :: st) h cs ss) := by
  rw [dL_law_337, ey_ok, nx_iconst_11] <;> rfl
theorem qL_law_338 : ey F ini rt fin K0 K (decode cL_law 338) 338 L (.int y :: .int x :: r) h cs ss = (K 339 L (.int (x + y) :: r) h cs ss) := by
  rw [dL_law_338, ey_ok, nx_iadd_16]
theorem qL_law_339 : ey F ini rt fin K0 K (decode cL_law 339) 339 L (.int i :: .ref a :: r) h cs ss = (isA (h.1 a) (fun k m => k = 0 ∧ vp_in i m) ∧ K 340 L (h.2 a i.toNatClampNeg :: r) h cs ss) := by
  rw [dL_law_339, ey_ok, nx_iaload_57]
theorem qL_law_340 : ey F ini rt fin K0 K (decode cL_law 340) 340 L (st) h cs ss = (K0 340 L st h cs ss) := by
  rw [dL_law_340, ey_ok, nx_invokevirtual_72]
theorem qL_law_343 : ey F ini rt fin K0 K (decode cL_law 343) 343 L (.int x :: r) h cs ss = (6 < L.length ∧ K 345 (L.set 6 (some (.int x))) r h cs ss) := by
  rw [dL_law_343, ey_ok, nx_istore_4] <;> rfl
theorem qL_law_345 : ey F ini rt fin K0 K (decode cL_law 345) 345 L (st) h cs ss = (lhas L 2 ∧ isRf (lgt L 2) ∧ K 346 L (lgt L 2 :: st) h cs ss) := by
  rw [dL_law_345, ey_ok, nx_aload_n_3] <;> rfl
theorem qL_law_346 : ey F ini rt fin K0 K (decode cL_law 346) 346 L (st) h cs ss = (K0 346 L st h cs ss) := by
  rw [dL_law_346, ey_ok, nx_invokevirtual_72]
theorem qL_law_349 : ey F ini rt fin K0 K (decode cL_law 349) 349 L (st) h cs ss = (lhas L 5 ∧ isI (lgt L 5) ∧ K 351 L (lgt L 5 :: st) h cs ss) := by
  rw [dL_law_349, ey_ok, nx_iload_0] <;> rfl
theorem qL_law_351 : ey F ini rt fin K0 K (decode cL_law 351) 351 L (.int y :: .int x :: r) h cs ss = (if x = y then K 356 L r h cs ss else K 354 L r h cs ss) := by
  rw [dL_law_351, ey_ok, nx_if_icmp_36]
  exact and_l (by unfold jok; decide)
theorem qL_law_354 : ey F ini rt fin K0 K (decode cL_law 354) 354 L (st) h cs ss = (K 355 L (.int 0 :: st) h cs ss) := by
  rw [dL_law_354, ey_ok, nx_iconst_11] <;> rfl
theorem qL_law_355 : ey F ini rt fin K0 K (decode cL_law 355) 355 L ([.int x]) h cs ss = (rokI rt x ∧ fin (some (.int x)) h cs ss) := by
  rw [dL_law_355, ey_ok, nx_ireturn_68]
theorem qL_law_356 : ey F ini rt fin K0 K (decode cL_law 356) 356 L (st) h cs ss = (lhas L 5 ∧ isI (lgt L 5) ∧ K 358 L (lgt L 5 :: st) h cs ss) := by
  rw [dL_law_356, ey_ok, nx_iload_0] <;> rfl
theorem qL_law_358 : ey F ini rt fin K0 K (decode cL_law 358) 358 L (.int x :: r) h cs ss = (if ¬ x = 0 then K 373 L r h cs ss else K 361 L r h cs ss) := by
  rw [dL_law_358, ey_ok, nx_ifond_31]
  exact and_l (by unfold jok; decide)
theorem qL_law_361 : ey F ini rt fin K0 K (decode cL_law 361) 361 L (st) h cs ss = (lhas L 3 ∧ isRf (lgt L 3) ∧ K 362 L (lgt L 3 :: st) h cs ss) := by
  rw [dL_law_361, ey_ok, nx_aload_n_3] <;> rfl
theorem qL_law_362 : ey F ini rt fin K0 K (decode cL_law 362) 362 L (st) h cs ss = (K 363 L (.int 0 :: st) h cs ss) := by
  rw [dL_law_362, ey_ok, nx_iconst_11] <;> rfl
theorem qL_law_363 : ey F ini rt fin K0 K (decode cL_law 363) 363 L (.int i :: .ref a :: r) h cs ss = (isA (h.1 a) (fun k m => k = 3 ∧ vp_in i m) ∧ K 364 L (h.2 a i.toNatClampNeg :: r) h cs ss) := by
  rw [dL_law_363, ey_ok, nx_laload_60]
theorem qL_law_364 : ey F ini rt fin K0 K (decode cL_law 364) 364 L (st) h cs ss = (lhas L 6 ∧ isI (lgt L 6) ∧ K 366 L (lgt L 6 :: st) h cs ss) := by
  rw [dL_law_364, ey_ok, nx_iload_0] <;> rfl
theorem qL_law_366 : ey F ini rt fin K0 K (decode cL_law 366) 366 L (.int x :: r) h cs ss = (K 367 L (.long x.toInt64 :: r) h cs ss) := by
  rw [dL_law_366, ey_ok, nx_i2l_24]
theorem qL_law_367 : ey F ini rt fin K0 K (decode cL_law 367) 367 L (.long ly :: .long lx :: r) h cs ss = (K 368 L (.int (lg_cmp lx ly) :: r) h cs ss) := by
  rw [dL_law_367, ey_ok, nx_lcmp_26]
theorem qL_law_368 : ey F ini rt fin K0 K (decode cL_law 368) 368 L (.int x :: r) h cs ss = (if x = 0 then K 373 L r h cs ss else K 371 L r h cs ss) := by
  rw [dL_law_368, ey_ok, nx_ifond_30]
  exact and_l (by unfold jok; decide)
theorem qL_law_371 : ey F ini rt fin K0 K (decode cL_law 371) 371 L (st) h cs ss = (K 372 L (.int 0 :: st) h cs ss) := by
  rw [dL_law_371, ey_ok, nx_iconst_11] <;> rfl
theorem qL_law_372 : ey F ini rt fin K0 K (decode cL_law 372) 372 L ([.int x]) h cs ss = (rokI rt x ∧ fin (some (.int x)) h cs ss) := by
  rw [dL_law_372, ey_ok, nx_ireturn_68]
theorem qL_law_373 : ey F ini rt fin K0 K (decode cL_law 373) 373 L (st) h cs ss = (K 1629 L st h cs ss) := by
  rw [dL_law_373, ey_ok, nx_goto_29]
  exact and_l (by unfold jok; decide)
theorem qL_law_376 : ey F ini rt fin K0 K (decode cL_law 376) 376 L (st) h cs ss = (lhas L 1 ∧ isRf (lgt L 1) ∧ K 377 L (lgt L 1 :: st) h cs ss) := by
  rw [dL_law_376, ey_ok, nx_aload_n_3] <;> rfl
theorem qL_law_377 : ey F ini rt fin K0 K (decode cL_law 377) 377 L (st) h cs ss = (lhas L 0 ∧ isRf (lgt L 0) ∧ K 378 L (lgt L 0 :: st) h cs ss) := by
  rw [dL_law_377, ey_ok, nx_aload_n_3] <;> rfl
theorem qL_law_378 : ey F ini rt fin K0 K (decode cL_law 378) 378 L (st) h cs ss = (lhas L 4 ∧ isI (lgt L 4) ∧ K 380 L (lgt L 4 :: st) h cs ss) := by
  rw [dL_law_378, ey_ok, nx_iload_0] <;> rfl
theorem qL_law_380 : ey F ini rt fin K0 K (decode cL_law 380) 380 L (st) h cs ss = (K 381 L (.int 1 :: st) h cs ss) := by
  rw [dL_law_380, ey_ok, nx_iconst_11] <;> rfl
theorem qL_law_381 : ey F ini rt fin K0 K (decode cL_law 381) 381 L (.int y :: .int x :: r) h cs ss = (K 382 L (.int (x + y) :: r) h cs ss) := by
  rw [dL_law_381, ey_ok, nx_iadd_16]
theorem qL_law_382 : ey F ini rt fin K0 K (decode cL_law 382) 382 L (.int i :: .ref a :: r) h cs ss = (isA (h.1 a) (fun k m => k = 0 ∧ vp_in i m) ∧ K 383 L (h.2 a i.toNatClampNeg :: r) h cs ss) := by
  rw [dL_law_382, ey_ok, nx_iaload_57]
theorem qL_law_383 : ey F ini rt fin K0 K (decode cL_law 383) 383 L (st) h cs ss = (lhas L 0 ∧ isRf (lgt L 0) ∧ K 384 L (lgt L 0 :: st) h cs ss) := by
  rw [dL_law_383, ey_ok, nx_aload_n_3] <;> rfl
theorem qL_law_384 : ey F ini rt fin K0 K (decode cL_law 384) 384 L (st) h cs ss = (lhas L 4 ∧ isI (lgt L 4) ∧ K 386 L (lgt L 4 :: st) h cs ss) := by
  rw [dL_law_384, ey_ok, nx_iload_0] <;> rfl
theorem qL_law_386 : ey F ini rt fin K0 K (decode cL_law 386) 386 L (st) h cs ss = (K 387 L (.int 2 :: st) h cs ss) := by
  rw [dL_law_386, ey_ok, nx_iconst_11] <;> rfl
theorem qL_law_387 : ey F ini rt fin K0 K (decode cL_law 387) 387 L (.int y :: .int x :: r) h cs ss = (K 388 L (.int (x + y) :: r) h cs ss) := by
  rw [dL_law_387, ey_ok, nx_iadd_16]
theorem qL_law_388 : ey F ini rt fin K0 K (decode cL_law 388) 388 L (.int i :: .ref a :: r) h cs ss = (isA (h.1 a) (fun k m => k = 0 ∧ vp_in i m) ∧ K 389 L (h.2 a i.toNatClampNeg :: r) h cs ss) := by
  rw [dL_law_388, ey_ok, nx_iaload_57]
theorem qL_law_389 : ey F ini rt fin K0 K (decode cL_law 389) 389 L (st) h cs ss = (lhas L 3 ∧ isRf (lgt L 3) ∧ K 390 L (lgt L 3 :: st) h cs ss) := by
  rw [dL_law_389, ey_ok, nx_aload_n_3] <;> rfl
theorem qL_law_390 : ey F ini rt fin K0 K (decode cL_law 390) 390 L (st) h cs ss = (K0 390 L st h cs ss) := by
  rw [dL_law_390, ey_ok, nx_invokestatic_73]
theorem qL_law_393 : ey F ini rt fin K0 K (decode cL_law 393) 393 L (.int x :: r) h cs ss = (5 < L.length ∧ K 395 (L.set 5 (some (.int x))) r h cs ss) := by
  rw [dL_law_393, ey_ok, nx_istore_4] <;> rfl
theorem qL_law_395 : ey F ini rt fin K0 K (decode cL_law 395) 395 L (st) h cs ss = (lhas L 2 ∧ isRf (lgt L 2) ∧ K 396 L (lgt L 2 :: st) h cs ss) := by
  rw [dL_law_395, ey_ok, nx_aload_n_3] <;> rfl
theorem qL_law_396 : ey F ini rt fin K0 K (decode cL_law 396) 396 L (st) h cs ss = (lhas L 0 ∧ isRf (lgt L 0) ∧ K 397 L (lgt L 0 :: st) h cs ss) := by
  rw [dL_law_396, ey_ok, nx_aload_n_3] <;> rfl
theorem qL_law_397 : ey F ini rt fin K0 K (decode cL_law 397) 397 L (st) h cs ss = (lhas L 4 ∧ isI (lgt L 4) ∧ K 399 L (lgt L 4 :: st) h cs ss) := by
  rw [dL_law_397, ey_ok, nx_iload_0] <;> rfl
theorem qL_law_399 : ey F ini rt fin K0 K (decode cL_law 399) 399 L (st) h cs ss = (K 400 L (.int 1 :: st) h cs ss) := by
  rw [dL_law_399, ey_ok, nx_iconst_11] <;> rfl
theorem qL_law_400 : ey F ini rt fin K0 K (decode cL_law 400) 400 L (.int y :: .int x :: r) h cs ss = (K 401 L (.int (x + y) :: r) h cs ss) := by
  rw [dL_law_400, ey_ok, nx_iadd_16]
theorem qL_law_401 : ey F ini rt fin K0 K (decode cL_law 401) 401 L (.int i :: .ref a :: r) h cs ss = (isA (h.1 a) (fun k m => k = 0 ∧ vp_in i m) ∧ K 402 L (h.2 a i.toNatClampNeg :: r) h cs ss) := by
  rw [dL_law_401, ey_ok, nx_iaload_57]
theorem qL_law_402 : ey F ini rt fin K0 K (decode cL_law 402) 402 L (st) h cs ss = (lhas L 0 ∧ isRf (lgt L 0) ∧ K 403 L (lgt L 0 :: st) h cs ss) := by
  rw [dL_law_402, ey_ok, nx_aload_n_3] <;> rfl
theorem qL_law_403 : ey F ini rt fin K0 K (decode cL_law 403) 403 L (st) h cs ss = (lhas L 4 ∧ isI (lgt L 4) ∧ K 405 L (lgt L 4 :: st) h cs ss) := by
  rw [dL_law_403, ey_ok, nx_iload_0] <;> rfl
theorem qL_law_405 : ey F ini rt fin K0 K (decode cL_law 405) 405 L (st) h cs ss = (K 406 L (.int 2 :: st) h cs ss) := by
  rw [dL_law_405, ey_ok, nx_iconst_11] <;> rfl
theorem qL_law_406 : ey F ini rt fin K0 K (decode cL_law 406) 406 L (.int y :: .int x :: r) h cs ss = (K 407 L (.int (x + y) :: r) h cs ss) := by
  rw [dL_law_406, ey_ok, nx_iadd_16]
theorem qL_law_407 : ey F ini rt fin K0 K (decode cL_law 407) 407 L (.int i :: .ref a :: r) h cs ss = (isA (h.1 a) (fun k m => k = 0 ∧ vp_in i m) ∧ K 408 L (h.2 a i.toNatClampNeg :: r) h cs ss) := by
  rw [dL_law_407, ey_ok, nx_iaload_57]
theorem qL_law_408 : ey F ini rt fin K0 K (decode cL_law 408) 408 L (st) h cs ss = (K0 408 L st h cs ss) := by
  rw [dL_law_408, ey_ok, nx_invokevirtual_72]
theorem qL_law_411 : ey F ini rt fin K0 K (decode cL_law 411) 411 L (.int x :: r) h cs ss = (6 < L.length ∧ K 413 (L.set 6 (some (.int x))) r h cs ss) := by
  rw [dL_law_411, ey_ok, nx_istore_4] <;> rfl
theorem qL_law_413 : ey F ini rt fin K0 K (decode cL_law 413) 413 L (st) h cs ss = (lhas L 2 ∧ isRf (lgt L 2) ∧ K 414 L (lgt L 2 :: st) h cs ss) := by
  rw [dL_law_413, ey_ok, nx_aload_n_3] <;> rfl
theorem qL_law_414 : ey F ini rt fin K0 K (decode cL_law 414) 414 L (st) h cs ss = (K0 414 L st h cs ss) := by
  rw [dL_law_414, ey_ok, nx_invokevirtual_72]
theorem qL_law_417 : ey F ini rt fin K0 K (decode cL_law 417) 417 L (st) h cs ss = (lhas L 5 ∧ isI (lgt L 5) ∧ K 419 L (lgt L 5 :: st) h cs ss) := by
  rw [dL_law_417, ey_ok, nx_iload_0] <;> rfl
theorem qL_law_419 : ey F ini rt fin K0 K (decode cL_law 419) 419 L (.int y :: .int x :: r) h cs ss = (if x = y then K 424 L r h cs ss else K 422 L r h cs ss) := by
  rw [dL_law_419, ey_ok, nx_if_icmp_36]
  exact and_l (by unfold jok; decide)
theorem qL_law_422 : ey F ini rt fin K0 K (decode cL_law 422) 422 L (st) h cs ss = (K 423 L (.int 0 :: st) h cs ss) := by
  rw [dL_law_422, ey_ok, nx_iconst_11] <;> rfl
theorem qL_law_423 : ey F ini rt fin K0 K (decode cL_law 423) 423 L ([.int x]) h cs ss = (rokI rt x ∧ fin (some (.int x)) h cs ss) := by
  rw [dL_law_423, ey_ok, nx_ireturn_68]
theorem qL_law_424 : ey F ini rt fin K0 K (decode cL_law 424) 424 L (st) h cs ss = (lhas L 5 ∧ isI (lgt L 5) ∧ K 426 L (lgt L 5 :: st) h cs ss) := by
  rw [dL_law_424, ey_ok, nx_iload_0] <;> rfl
theorem qL_law_426 : ey F ini rt fin K0 K (decode cL_law 426) 426 L (.int x :: r) h cs ss = (if ¬ x = 0 then K 441 L r h cs ss else K 429 L r h cs ss) := by
  rw [dL_law_426, ey_ok, nx_ifond_31]
  exact and_l (by unfold jok; decide)
theorem qL_law_429 : ey F ini rt fin K0 K (decode cL_law 429) 429 L (st) h cs ss = (lhas L 3 ∧ isRf (lgt L 3) ∧ K 430 L (lgt L 3 :: st) h cs ss) := by
  rw [dL_law_429, ey_ok, nx_aload_n_3] <;> rfl
theorem qL_law_430 : ey F ini rt fin K0 K (decode cL_law 430) 430 L (st) h cs ss = (K 431 L (.int 0 :: st) h cs ss) := by
  rw [dL_law_430, ey_ok, nx_iconst_11] <;> rfl
theorem qL_law_431 : ey F ini rt fin K0 K (decode cL_law 431) 431 L (.int i :: .ref a :: r) h cs ss = (isA (h.1 a) (fun k m => k = 3 ∧ vp_in i m) ∧ K 432 L (h.2 a i.toNatClampNeg :: r) h cs ss) := by
  rw [dL_law_431, ey_ok, nx_laload_60]
theorem qL_law_432 : ey F ini rt fin K0 K (decode cL_law 432) 432 L (st) h cs ss = (lhas L 6 ∧ isI (lgt L 6) ∧ K 434 L (lgt L 6 :: st) h cs ss) := by
  rw [dL_law_432, ey_ok, nx_iload_0] <;> rfl
theorem qL_law_434 : ey F ini rt fin K0 K (decode cL_law 434) 434 L (.int x :: r) h cs ss = (K 435 L (.long x.toInt64 :: r) h cs ss) := by
  rw [dL_law_434, ey_ok, nx_i2l_24]
theorem qL_law_435 : ey F ini rt fin K0 K (decode cL_law 435) 435 L (.long ly :: .long lx :: r) h cs ss = (K 436 L (.int (lg_cmp lx ly) :: r) h cs ss) := by
  rw [dL_law_435, ey_ok, nx_lcmp_26]
theorem qL_law_436 : ey F ini rt fin K0 K (decode cL_law 436) 436 L (.int x :: r) h cs ss = (if x = 0 then K 441 L r h cs ss else K 439 L r h cs ss) := by
  rw [dL_law_436, ey_ok, nx_ifond_30]
  exact and_l (by unfold jok; decide)
theorem qL_law_439 : ey F ini rt fin K0 K (decode cL_law 439) 439 L (st) h cs ss = (K 440 L (.int 0 :: st) h cs ss) := by
  rw [dL_law_439, ey_ok, nx_iconst_11] <;> rfl
theorem qL_law_440 : ey F ini rt fin K0 K (decode cL_law 440) 440 L ([.int x]) h cs ss = (rokI rt x ∧ fin (some (.int x)) h cs ss) := by
  rw [dL_law_440, ey_ok, nx_ireturn_68]
theorem qL_law_441 : ey F ini rt fin K0 K (decode cL_law 441) 441 L (st) h cs ss = (K 1629 L st h cs ss) := by
  rw [dL_law_441, ey_ok, nx_goto_29]
  exact and_l (by unfold jok; decide)
theorem qL_law_444 : ey F ini rt fin K0 K (decode cL_law 444) 444 L (st) h cs ss = (lhas L 1 ∧ isRf (lgt L 1) ∧ K 445 L (lgt L 1 :: st) h cs ss) := by
  rw [dL_law_444, ey_ok, nx_aload_n_3] <;> rfl
theorem qL_law_445 : ey F ini rt fin K0 K (decode cL_law 445) 445 L (st) h cs ss = (lhas L 0 ∧ isRf (lgt L 0) ∧ K 446 L (lgt L 0 :: st) h cs ss) := by
  rw [dL_law_445, ey_ok, nx_aload_n_3] <;> rfl
theorem qL_law_446 : ey F ini rt fin K0 K (decode cL_law 446) 446 L (st) h cs ss = (lhas L 4 ∧ isI (lgt L 4) ∧ K 448 L (lgt L 4 :: st) h cs ss) := by
  rw [dL_law_446, ey_ok, nx_iload_0] <;> rfl
theorem qL_law_448 : ey F ini rt fin K0 K (decode cL_law 448) 448 L (st) h cs ss = (K 449 L (.int 1 :: st) h cs ss) := by
  rw [dL_law_448, ey_ok, nx_iconst_11] <;> rfl
theorem qL_law_449 : ey F ini rt fin K0 K (decode cL_law 449) 449 L (.int y :: .int x :: r) h cs ss = (K 450 L (.int (x + y) :: r) h cs ss) := by
  rw [dL_law_449, ey_ok, nx_iadd_16]
theorem qL_law_450 : ey F ini rt fin K0 K (decode cL_law 450) 450 L (.int i :: .ref a :: r) h cs ss = (isA (h.1 a) (fun k m => k = 0 ∧ vp_in i m) ∧ K 451 L (h.2 a i.toNatClampNeg :: r) h cs ss) := by
  rw [dL_law_450, ey_ok, nx_iaload_57]
theorem qL_law_451 : ey F ini rt fin K0 K (decode cL_law 451) 451 L (st) h cs ss = (lhas L 0 ∧ isRf (lgt L 0) ∧ K 452 L (lgt L 0 :: st) h cs ss) := by
  rw [dL_law_451, ey_ok, nx_aload_n_3] <;> rfl
theorem qL_law_452 : ey F ini rt fin K0 K (decode cL_law 452) 452 L (st) h cs ss = (lhas L 4 ∧ isI (lgt L 4) ∧ K 454 L (lgt L 4 :: st) h cs ss) := by
  rw [dL_law_452, ey_ok, nx_iload_0] <;> rfl
theorem qL_law_454 : ey F ini rt fin K0 K (decode cL_law 454) 454 L (st) h cs ss = (K 455 L (.int 2 :: st) h cs ss) := by
  rw [dL_law_454, ey_ok, nx_iconst_11] <;> rfl
theorem qL_law_455 : ey F ini rt fin K0 K (decode cL_law 455) 455 L (.int y :: .int x :: r) h cs ss = (K 456 L (.int (x + y) :: r) h cs ss) := by
  rw [dL_law_455, ey_ok, nx_iadd_16]
theorem qL_law_456 : ey F ini rt fin K0 K (decode cL_law 456) 456 L (.int i :: .ref a :: r) h cs ss = (isA (h.1 a) (fun k m => k = 0 ∧ vp_in i m) ∧ K 457 L (h.2 a i.toNatClampNeg :: r) h cs ss) := by
  rw [dL_law_456, ey_ok, nx_iaload_57]
theorem qL_law_457 : ey F ini rt fin K0 K (decode cL_law 457) 457 L (st) h cs ss = (lhas L 0 ∧ isRf (lgt L 0) ∧ K 458 L (lgt L 0 :: st) h cs ss) := by
  rw [dL_law_457, ey_ok, nx_aload_n_3] <;> rfl
theorem qL_law_458 : ey F ini rt fin K0 K (decode cL_law 458) 458 L (st) h cs ss = (lhas L 4 ∧ isI (lgt L 4) ∧ K 460 L (lgt L 4 :: st) h cs ss) := by
  rw [dL_law_458, ey_ok, nx_iload_0] <;> rfl
theorem qL_law_460 : ey F ini rt fin K0 K (decode cL_law 460) 460 L (st) h cs ss = (K 461 L (.int 3 :: st) h cs ss) := by
  rw [dL_law_460, ey_ok, nx_iconst_11] <;> rfl
theorem qL_law_461 : ey F ini rt fin K0 K (decode cL_law 461) 461 L (.int y :: .int x :: r) h cs ss = (K 462 L (.int (x + y) :: r) h cs ss) := by
  rw [dL_law_461, ey_ok, nx_iadd_16]
theorem qL_law_462 : ey F ini rt fin K0 K (decode cL_law 462) 462 L (.int i :: .ref a :: r) h cs ss = (isA (h.1 a) (fun k m => k = 0 ∧ vp_in i m) ∧ K 463 L (h.2 a i.toNatClampNeg :: r) h cs ss) := by
  rw [dL_law_462, ey_ok, nx_iaload_57]
theorem qL_law_463 : ey F ini rt fin K0 K (decode cL_law 463) 463 L (st) h cs ss = (lhas L 3 ∧ isRf (lgt L 3) ∧ K 464 L (lgt L 3 :: st) h cs ss) := by
  rw [dL_law_463, ey_ok, nx_aload_n_3] <;> rfl
theorem qL_law_464 : ey F ini rt fin K0 K (decode cL_law 464) 464 L (st) h cs ss = (K0 464 L st h cs ss) := by
  rw [dL_law_464, ey_ok, nx_invokestatic_73]
theorem qL_law_467 : ey F ini rt fin K0 K (decode cL_law 467) 467 L (.int x :: r) h cs ss = (5 < L.length ∧ K 469 (L.set 5 (some (.int x))) r h cs ss) := by
  rw [dL_law_467, ey_ok, nx_istore_4] <;> rfl
theorem qL_law_469 : ey F ini rt fin K0 K (decode cL_law 469) 469 L (st) h cs ss = (lhas L 2 ∧ isRf (lgt L 2) ∧ K 470 L (lgt L 2 :: st) h cs ss) := by
  rw [dL_law_469, ey_ok, nx_aload_n_3] <;> rfl
theorem qL_law_470 : ey F ini rt fin K0 K (decode cL_law 470) 470 L (st) h cs ss = (lhas L 0 ∧ isRf (lgt L 0) ∧ K 471 L (lgt L 0 :: st) h cs ss) := by
  rw [dL_law_470, ey_ok, nx_aload_n_3] <;> rfl
theorem qL_law_471 : ey F ini rt fin K0 K (decode cL_law 471) 471 L (st) h cs ss = (lhas L 4 ∧ isI (lgt L 4) ∧ K 473 L (lgt L 4 :: st) h cs ss) := by
  rw [dL_law_471, ey_ok, nx_iload_0] <;> rfl
theorem qL_law_473 : ey F ini rt fin K0 K (decode cL_law 473) 473 L (st) h cs ss = (K 474 L (.int 1 :: st) h cs ss) := by
  rw [dL_law_473, ey_ok, nx_iconst_11] <;> rfl
theorem qL_law_474 : ey F ini rt fin K0 K (decode cL_law 474) 474 L (.int y :: .int x :: r) h cs ss = (K 475 L (.int (x + y) :: r) h cs ss) := by
  rw [dL_law_474, ey_ok, nx_iadd_16]
theorem qL_law_475 : ey F ini rt fin K0 K (decode cL_law 475) 475 L (.int i :: .ref a :: r) h cs ss = (isA (h.1 a) (fun k m => k = 0 ∧ vp_in i m) ∧ K 476 L (h.2 a i.toNatClampNeg :: r) h cs ss) := by
  rw [dL_law_475, ey_ok, nx_iaload_57]
theorem qL_law_476 : ey F ini rt fin K0 K (decode cL_law 476) 476 L (st) h cs ss = (lhas L 0 ∧ isRf (lgt L 0) ∧ K 477 L (lgt L 0 :: st) h cs ss) := by
  rw [dL_law_476, ey_ok, nx_aload_n_3] <;> rfl
theorem qL_law_477 : ey F ini rt fin K0 K (decode cL_law 477) 477 L (st) h cs ss = (lhas L 4 ∧ isI (lgt L 4) ∧ K 479 L (lgt L 4 :: st) h cs ss) := by
  rw [dL_law_477, ey_ok, nx_iload_0] <;> rfl
theorem qL_law_479 : ey F ini rt fin K0 K (decode cL_law 479) 479 L (st) h cs ss = (K 480 L (.int 2 :: st) h cs ss) := by
  rw [dL_law_479, ey_ok, nx_iconst_11] <;> rfl
theorem qL_law_480 : ey F ini rt fin K0 K (decode cL_law 480) 480 L (.int y :: .int x :: r) h cs ss = (K 481 L (.int (x + y) :: r) h cs ss) := by
  rw [dL_law_480, ey_ok, nx_iadd_16]
theorem qL_law_481 : ey F ini rt fin K0 K (decode cL_law 481) 481 L (.int i :: .ref a :: r) h cs ss = (isA (h.1 a) (fun k m => k = 0 ∧ vp_in i m) ∧ K 482 L (h.2 a i.toNatClampNeg :: r) h cs ss) := by
  rw [dL_law_481, ey_ok, nx_iaload_57]
theorem qL_law_482 : ey F ini rt fin K0 K (decode cL_law 482) 482 L (st) h cs ss = (lhas L 0 ∧ isRf (lgt L 0) ∧ K 483 L (lgt L 0 :: st) h cs ss) := by
  rw [dL_law_482, ey_ok, nx_aload_n_3] <;> rfl
theorem qL_law_483 : ey F ini rt fin K0 K (decode cL_law 483) 483 L (st) h cs ss = (lhas L 4 ∧ isI (lgt L 4) ∧ K 485 L (lgt L 4 :: st) h cs ss) := by
  rw [dL_law_483, ey_ok, nx_iload_0] <;> rfl
theorem qL_law_485 : ey F ini rt fin K0 K (decode cL_law 485) 485 L (st) h cs ss = (K 486 L (.int 3 :: st) h cs ss) := by
  rw [dL_law_485, ey_ok, nx_iconst_11] <;> rfl
theorem qL_law_486 : ey F ini rt fin K0 K (decode cL_law 486) 486 L (.int y :: .int x :: r) h cs ss = (K 487 L (.int (x + y) :: r) h cs ss) := by
  rw [dL_law_486, ey_ok, nx_iadd_16]
theorem qL_law_487 : ey F ini rt fin K0 K (decode cL_law 487) 487 L (.int i :: .ref a :: r) h cs ss = (isA (h.1 a) (fun k m => k = 0 ∧ vp_in i m) ∧ K 488 L (h.2 a i.toNatClampNeg :: r) h cs ss) := by
  rw [dL_law_487, ey_ok, nx_iaload_57]
theorem qL_law_488 : ey F ini rt fin K0 K (decode cL_law 488) 488 L (st) h cs ss = (K0 488 L st h cs ss) := by
  rw [dL_law_488, ey_ok, nx_invokevirtual_72]
theorem qL_law_491 : ey F ini rt fin K0 K (decode cL_law 491) 491 L (.int x :: r) h cs ss = (6 < L.length ∧ K 493 (L.set 6 (some (.int x))) r h cs ss) := by
  rw [dL_law_491, ey_ok, nx_istore_4] <;> rfl
theorem qL_law_493 : ey F ini rt fin K0 K (decode cL_law 493) 493 L (st) h cs ss = (lhas L 2 ∧ isRf (lgt L 2) ∧ K 494 L (lgt L 2 :: st) h cs ss) := by
  rw [dL_law_493, ey_ok, nx_aload_n_3] <;> rfl
theorem qL_law_494 : ey F ini rt fin K0 K (decode cL_law 494) 494 L (st) h cs ss = (K0 494 L st h cs ss) := by
  rw [dL_law_494, ey_ok, nx_invokevirtual_72]
theorem qL_law_497 : ey F ini rt fin K0 K (decode cL_law 497) 497 L (st) h cs ss = (lhas L 5 ∧ isI (lgt L 5) ∧ K 499 L (lgt L 5 :: st) h cs ss) := by
  rw [dL_law_497, ey_ok, nx_iload_0] <;> rfl
theorem qL_law_499 : ey F ini rt fin K0 K (decode cL_law 499) 499 L (.int y :: .int x :: r) h cs ss = (if x = y then K 504 L r h cs ss else K 502 L r h cs ss) := by
  rw [dL_law_499, ey_ok, nx_if_icmp_36]
  exact and_l (by unfold jok; decide)
theorem qL_law_502 : ey F ini rt fin K0 K (decode cL_law 502) 502 L (st) h cs ss = (K 503 L (.int 0 :: st) h cs ss) := by
  rw [dL_law_502, ey_ok, nx_iconst_11] <;> rfl
theorem qL_law_503 : ey F ini rt fin K0 K (decode cL_law 503) 503 L ([.int x]) h cs ss = (rokI rt x ∧ fin (some (.int x)) h cs ss) := by
  rw [dL_law_503, ey_ok, nx_ireturn_68]
theorem qL_law_504 : ey F ini rt fin K0 K (decode cL_law 504) 504 L (st) h cs ss = (lhas L 5 ∧ isI (lgt L 5) ∧ K 506 L (lgt L 5 :: st) h cs ss) := by
  rw [dL_law_504, ey_ok, nx_iload_0] <;> rfl
theorem qL_law_506 : ey F ini rt fin K0 K (decode cL_law 506) 506 L (.int x :: r) h cs ss = (if ¬ x = 0 then K 521 L r h cs ss else K 509 L r h cs ss) := by
  rw [dL_law_506, ey_ok, nx_ifond_31]
  exact and_l (by unfold jok; decide)
theorem qL_law_509 : ey F ini rt fin K0 K (decode cL_law 509) 509 L (st) h cs ss = (lhas L 3 ∧ isRf (lgt L 3) ∧ K 510 L (lgt L 3 :: st) h cs ss) := by
  rw [dL_law_509, ey_ok, nx_aload_n_3] <;> rfl
theorem qL_law_510 : ey F ini rt fin K0 K (decode cL_law 510) 510 L (st) h cs ss = (K 511 L (.int 0 :: st) h cs ss) := by
  rw [dL_law_510, ey_ok, nx_iconst_11] <;> rfl
theorem qL_law_511 : ey F ini rt fin K0 K (decode cL_law 511) 511 L (.int i :: .ref a :: r) h cs ss = (isA (h.1 a) (fun k m => k = 3 ∧ vp_in i m) ∧ K 512 L (h.2 a i.toNatClampNeg :: r) h cs ss) := by
  rw [dL_law_511, ey_ok, nx_laload_60]
theorem qL_law_512 : ey F ini rt fin K0 K (decode cL_law 512) 512 L (st) h cs ss = (lhas L 6 ∧ isI (lgt L 6) ∧ K 514 L (lgt L 6 :: st) h cs ss) := by
  rw [dL_law_512, ey_ok, nx_iload_0] <;> rfl
theorem qL_law_514 : ey F ini rt fin K0 K (decode cL_law 514) 514 L (.int x :: r) h cs ss = (K 515 L (.long x.toInt64 :: r) h cs ss) := by
  rw [dL_law_514, ey_ok, nx_i2l_24]
theorem qL_law_515 : ey F ini rt fin K0 K (decode cL_law 515) 515 L (.long ly :: .long lx :: r) h cs ss = (K 516 L (.int (lg_cmp lx ly) :: r) h cs ss) := by
  rw [dL_law_515, ey_ok, nx_lcmp_26]
theorem qL_law_516 : ey F ini rt fin K0 K (decode cL_law 516) 516 L (.int x :: r) h cs ss = (if x = 0 then K 521 L r h cs ss else K 519 L r h cs ss) := by
  rw [dL_law_516, ey_ok, nx_ifond_30]
  exact and_l (by unfold jok; decide)
theorem qL_law_519 : ey F ini rt fin K0 K (decode cL_law 519) 519 L (st) h cs ss = (K 520 L (.int 0 :: st) h cs ss) := by
  rw [dL_law_519, ey_ok, nx_iconst_11] <;> rfl
theorem qL_law_520 : ey F ini rt fin K0 K (decode cL_law 520) 520 L ([.int x]) h cs ss = (rokI rt x ∧ fin (some (.int x)) h cs ss) := by
  rw [dL_law_520, ey_ok, nx_ireturn_68]
theorem qL_law_521 : ey F ini rt fin K0 K (decode cL_law 521) 521 L (st) h cs ss = (K 1629 L st h cs ss) := by
  rw [dL_law_521, ey_ok, nx_goto_29]
  exact and_l (by unfold jok; decide)
theorem qL_law_524 : ey F ini rt fin K0 K (decode cL_law 524) 524 L (st) h cs ss = (lhas L 1 ∧ isRf (lgt L 1) ∧ K 525 L (lgt L 1 :: st) h cs ss) := by
  rw [dL_law_524, ey_ok, nx_aload_n_3] <;> rfl
theorem qL_law_525 : ey F ini rt fin K0 K (decode cL_law 525) 525 L (st) h cs ss = (lhas L 0 ∧ isRf (lgt L 0) ∧ K 526 L (lgt L 0 :: st) h cs ss) := by
  rw [dL_law_525, ey_ok, nx_aload_n_3] <;> rfl
theorem qL_law_526 : ey F ini rt fin K0 K (decode cL_law 526) 526 L (st) h cs ss = (lhas L 4 ∧ isI (lgt L 4) ∧ K 528 L (lgt L 4 :: st) h cs ss) := by
  rw [dL_law_526, ey_ok, nx_iload_0] <;> rfl
theorem qL_law_528 : ey F ini rt fin K0 K (decode cL_law 528) 528 L (st) h cs ss = (K 529 L (.int 1 :: st) h cs ss) := by
  rw [dL_law_528, ey_ok, nx_iconst_11] <;> rfl
theorem qL_law_529 : ey F ini rt fin K0 K (decode cL_law 529) 529 L (.int y :: .int x :: r) h cs ss = (K 530 L (.int (x + y) :: r) h cs ss) := by
  rw [dL_law_529, ey_ok, nx_iadd_16]
theorem qL_law_530 : ey F ini rt fin K0 K (decode cL_law 530) 530 L (.int i :: .ref a :: r) h cs ss = (isA (h.1 a) (fun k m => k = 0 ∧ vp_in i m) ∧ K 531 L (h.2 a i.toNatClampNeg :: r) h cs ss) := by
  rw [dL_law_530, ey_ok, nx_iaload_57]
theorem qL_law_531 : ey F ini rt fin K0 K (decode cL_law 531) 531 L (st) h cs ss = (lhas L 3 ∧ isRf (lgt L 3) ∧ K 532 L (lgt L 3 :: st) h cs ss) := by
  rw [dL_law_531, ey_ok, nx_aload_n_3] <;> rfl
theorem qL_law_532 : ey F ini rt fin K0 K (decode cL_law 532) 532 L (st) h cs ss = (K0 532 L st h cs ss) := by
  rw [dL_law_532, ey_ok, nx_invokestatic_73]
theorem qL_law_535 : ey F ini rt fin K0 K (decode cL_law 535) 535 L (.int x :: r) h cs ss = (5 < L.length ∧ K 537 (L.set 5 (some (.int x))) r h cs ss) := by
  rw [dL_law_535, ey_ok, nx_istore_4] <;> rfl
theorem qL_law_537 : ey F ini rt fin K0 K (decode cL_law 537) 537 L (st) h cs ss = (lhas L 2 ∧ isRf (lgt L 2) ∧ K 538 L (lgt L 2 :: st) h cs ss) := by
  rw [dL_law_537, ey_ok, nx_aload_n_3] <;> rfl
theorem qL_law_538 : ey F ini rt fin K0 K (decode cL_law 538) 538 L (st) h cs ss = (lhas L 0 ∧ isRf (lgt L 0) ∧ K 539 L (lgt L 0 :: st) h cs ss) := by
  rw [dL_law_538, ey_ok, nx_aload_n_3] <;> rfl
theorem qL_law_539 : ey F ini rt fin K0 K (decode cL_law 539) 539 L (st) h cs ss = (lhas L 4 ∧ isI (lgt L 4) ∧ K 541 L (lgt L 4 :: st) h cs ss) := by
  rw [dL_law_539, ey_ok, nx_iload_0] <;> rfl
theorem qL_law_541 : ey F ini rt fin K0 K (decode cL_law 541) 541 L (st) h cs ss = (K 542 L (.int 1 :: st) h cs ss) := by
  rw [dL_law_541, ey_ok, nx_iconst_11] <;> rfl
theorem qL_law_542 : ey F ini rt fin K0 K (decode cL_law 542) 542 L (.int y :: .int x :: r) h cs ss = (K 543 L (.int (x + y) :: r) h cs ss) := by
  rw [dL_law_542, ey_ok, nx_iadd_16]
theorem qL_law_543 : ey F ini rt fin K0 K (decode cL_law 543) 543 L (.int i :: .ref a :: r) h cs ss = (isA (h.1 a) (fun k m => k = 0 ∧ vp_in i m) ∧ K 544 L (h.2 a i.toNatClampNeg :: r) h cs ss) := by
  rw [dL_law_543, ey_ok, nx_iaload_57]
theorem qL_law_544 : ey F ini rt fin K0 K (decode cL_law 544) 544 L (st) h cs ss = (K0 544 L st h cs ss) := by
  rw [dL_law_544, ey_ok, nx_invokevirtual_72]
theorem qL_law_547 : ey F ini rt fin K0 K (decode cL_law 547) 547 L (.int x :: r) h cs ss = (6 < L.length ∧ K 549 (L.set 6 (some (.int x))) r h cs ss) := by
  rw [dL_law_547, ey_ok, nx_istore_4] <;> rfl
theorem qL_law_549 : ey F ini rt fin K0 K (decode cL_law 549) 549 L (st) h cs ss = (lhas L 2 ∧ isRf (lgt L 2) ∧ K 550 L (lgt L 2 :: st) h cs ss) := by
  rw [dL_law_549, ey_ok, nx_aload_n_3] <;> rfl
theorem qL_law_550 : ey F ini rt fin K0 K (decode cL_law 550) 550 L (st) h cs ss = (K0 550 L st h cs ss) := by
  rw [dL_law_550, ey_ok, nx_invokevirtual_72]
theorem qL_law_553 : ey F ini rt fin K0 K (decode cL_law 553) 553 L (st) h cs ss = (lhas L 5 ∧ isI (lgt L 5) ∧ K 555 L (lgt L 5 :: st) h cs ss) := by
  rw [dL_law_553, ey_ok, nx_iload_0] <;> rfl
theorem qL_law_555 : ey F ini rt fin K0 K (decode cL_law 555) 555 L (.int y :: .int x :: r) h cs ss = (if x = y then K 560 L r h cs ss else K 558 L r h cs ss) := by
  rw [dL_law_555, ey_ok, nx_if_icmp_36]
  exact and_l (by unfold jok; decide)
theorem qL_law_558 : ey F ini rt fin K0 K (decode cL_law 558) 558 L (st) h cs ss = (K 559 L (.int 0 :: st) h cs ss) := by
  rw [dL_law_558, ey_ok, nx_iconst_11] <;> rfl
theorem qL_law_559 : ey F ini rt fin K0 K (decode cL_law 559) 559 L ([.int x]) h cs ss = (rokI rt x ∧ fin (some (.int x)) h cs ss) := by
  rw [dL_law_559, ey_ok, nx_ireturn_68]
theorem qL_law_560 : ey F ini rt fin K0 K (decode cL_law 560) 560 L (st) h cs ss = (lhas L 5 ∧ isI (lgt L 5) ∧ K 562 L (lgt L 5 :: st) h cs ss) := by
  rw [dL_law_560, ey_ok, nx_iload_0] <;> rfl
theorem qL_law_562 : ey F ini rt fin K0 K (decode cL_law 562) 562 L (.int x :: r) h cs ss = (if ¬ x = 0 then K 577 L r h cs ss else K 565 L r h cs ss) := by
  rw [dL_law_562, ey_ok, nx_ifond_31]
  exact and_l (by unfold jok; decide)
theorem qL_law_565 : ey F ini rt fin K0 K (decode cL_law 565) 565 L (st) h cs ss = (lhas L 3 ∧ isRf (lgt L 3) ∧ K 566 L (lgt L 3 :: st) h cs ss) := by
  rw [dL_law_565, ey_ok, nx_aload_n_3] <;> rfl
theorem qL_law_566 : ey F ini rt fin K0 K (decode cL_law 566) 566 L (st) h cs ss = (K 567 L (.int 0 :: st) h cs ss) := by
  rw [dL_law_566, ey_ok, nx_iconst_11] <;> rfl
theorem qL_law_567 : ey F ini rt fin K0 K (decode cL_law 567) 567 L (.int i :: .ref a :: r) h cs ss = (isA (h.1 a) (fun k m => k = 3 ∧ vp_in i m) ∧ K 568 L (h.2 a i.toNatClampNeg :: r) h cs ss) := by
  rw [dL_law_567, ey_ok, nx_laload_60]
theorem qL_law_568 : ey F ini rt fin K0 K (decode cL_law 568) 568 L (st) h cs ss = (lhas L 6 ∧ isI (lgt L 6) ∧ K 570 L (lgt L 6 :: st) h cs ss) := by
  rw [dL_law_568, ey_ok, nx_iload_0] <;> rfl
theorem qL_law_570 : ey F ini rt fin K0 K (decode cL_law 570) 570 L (.int x :: r) h cs ss = (K 571 L (.long x.toInt64 :: r) h cs ss) := by
  rw [dL_law_570, ey_ok, nx_i2l_24]
theorem qL_law_571 : ey F ini rt fin K0 K (decode cL_law 571) 571 L (.long ly :: .long lx :: r) h cs ss = (K 572 L (.int (lg_cmp lx ly) :: r) h cs ss) := by
  rw [dL_law_571, ey_ok, nx_lcmp_26]
theorem qL_law_572 : ey F ini rt fin K0 K (decode cL_law 572) 572 L (.int x :: r) h cs ss = (if x = 0 then K 577 L r h cs ss else K 575 L r h cs ss) := by
  rw [dL_law_572, ey_ok, nx_ifond_30]
  exact and_l (by unfold jok; decide)
theorem qL_law_575 : ey F ini rt fin K0 K (decode cL_law 575) 575 L (st) h cs ss = (K 576 L (.int 0 :: st) h cs ss) := by
  rw [dL_law_575, ey_ok, nx_iconst_11] <;> rfl
theorem qL_law_576 : ey F ini rt fin K0 K (decode cL_law 576) 576 L ([.int x]) h cs ss = (rokI rt x ∧ fin (some (.int x)) h cs ss) := by
  rw [dL_law_576, ey_ok, nx_ireturn_68]
theorem qL_law_577 : ey F ini rt fin K0 K (decode cL_law 577) 577 L (st) h cs ss = (K 1629 L st h cs ss) := by
  rw [dL_law_577, ey_ok, nx_goto_29]
  exact and_l (by unfold jok; decide)
theorem qL_law_580 : ey F ini rt fin K0 K (decode cL_law 580) 580 L (st) h cs ss = (lhas L 1 ∧ isRf (lgt L 1) ∧ K 581 L (lgt L 1 :: st) h cs ss) := by
  rw [dL_law_580, ey_ok, nx_aload_n_3] <;> rfl
theorem qL_law_581 : ey F ini rt fin K0 K (decode cL_law 581) 581 L (st) h cs ss = (lhas L 0 ∧ isRf (lgt L 0) ∧ K 582 L (lgt L 0 :: st) h cs ss) := by
  rw [dL_law_581, ey_ok, nx_aload_n_3] <;> rfl
theorem qL_law_582 : ey F ini rt fin K0 K (decode cL_law 582) 582 L (st) h cs ss = (lhas L 4 ∧ isI (lgt L 4) ∧ K 584 L (lgt L 4 :: st) h cs ss) := by
  rw [dL_law_582, ey_ok, nx_iload_0] <;> rfl
theorem qL_law_584 : ey F ini rt fin K0 K (decode cL_law 584) 584 L (st) h cs ss = (K 585 L (.int 1 :: st) h cs ss) := by
  rw [dL_law_584, ey_ok, nx_iconst_11] <;> rfl
theorem qL_law_585 : ey F ini rt fin K0 K (decode cL_law 585) 585 L (.int y :: .int x :: r) h cs ss = (K 586 L (.int (x + y) :: r) h cs ss) := by
  rw [dL_law_585, ey_ok, nx_iadd_16]
theorem qL_law_586 : ey F ini rt fin K0 K (decode cL_law 586) 586 L (.int i :: .ref a :: r) h cs ss = (isA (h.1 a) (fun k m => k = 0 ∧ vp_in i m) ∧ K 587 L (h.2 a i.toNatClampNeg :: r) h cs ss) := by
  rw [dL_law_586, ey_ok, nx_iaload_57]
theorem qL_law_587 : ey F ini rt fin K0 K (decode cL_law 587) 587 L (st) h cs ss = (lhas L 0 ∧ isRf (lgt L 0) ∧ K 588 L (lgt L 0 :: st) h cs ss) := by
  rw [dL_law_587, ey_ok, nx_aload_n_3] <;> rfl
theorem qL_law_588 : ey F ini rt fin K0 K (decode cL_law 588) 588 L (st) h cs ss = (lhas L 4 ∧ isI (lgt L 4) ∧ K 590 L (lgt L 4 :: st) h cs ss) := by
  rw [dL_law_588, ey_ok, nx_iload_0] <;> rfl
theorem qL_law_590 : ey F ini rt fin K0 K (decode cL_law 590) 590 L (st) h cs ss = (K 591 L (.int 2 :: st) h cs ss) := by
  rw [dL_law_590, ey_ok, nx_iconst_11] <;> rfl
theorem qL_law_591 : ey F ini rt fin K0 K (decode cL_law 591) 591 L (.int y :: .int x :: r) h cs ss = (K 592 L (.int (x + y) :: r) h cs ss) := by
  rw [dL_law_591, ey_ok, nx_iadd_16]
theorem qL_law_592 : ey F ini rt fin K0 K (decode cL_law 592) 592 L (.int i :: .ref a :: r) h cs ss = (isA (h.1 a) (fun k m => k = 0 ∧ vp_in i m) ∧ K 593 L (h.2 a i.toNatClampNeg :: r) h cs ss) := by
  rw [dL_law_592, ey_ok, nx_iaload_57]
theorem qL_law_593 : ey F ini rt fin K0 K (decode cL_law 593) 593 L (st) h cs ss = (lhas L 3 ∧ isRf (lgt L 3) ∧ K 594 L (lgt L 3 :: st) h cs ss) := by
  rw [dL_law_593, ey_ok, nx_aload_n_3] <;> rfl
theorem qL_law_594 : ey F ini rt fin K0 K (decode cL_law 594) 594 L (st) h cs ss = (K0 594 L st h cs ss) := by
  rw [dL_law_594, ey_ok, nx_invokestatic_73]
theorem qL_law_597 : ey F ini rt fin K0 K (decode cL_law 597) 597 L (.int x :: r) h cs ss = (5 < L.length ∧ K 599 (L.set 5 (some (.int x))) r h cs ss) := by
  rw [dL_law_597, ey_ok, nx_istore_4] <;> rfl
theorem qL_law_599 : ey F ini rt fin K0 K (decode cL_law 599) 599 L (st) h cs ss = (lhas L 2 ∧ isRf (lgt L 2) ∧ K 600 L (lgt L 2 :: st) h cs ss) := by
  rw [dL_law_599, ey_ok, nx_aload_n_3] <;> rfl
theorem qL_law_600 : ey F ini rt fin K0 K (decode cL_law 600) 600 L (st) h cs ss = (lhas L 0 ∧ isRf (lgt L 0) ∧ K 601 L (lgt L 0 :: st) h cs ss) := by
  rw [dL_law_600, ey_ok, nx_aload_n_3] <;> rfl
theorem qL_law_601 : ey F ini rt fin K0 K (decode cL_law 601) 601 L (st) h cs ss = (lhas L 4 ∧ isI (lgt L 4) ∧ K 603 L (lgt L 4 :: st) h cs ss) := by
  rw [dL_law_601, ey_ok, nx_iload_0] <;> rfl
theorem qL_law_603 : ey F ini rt fin K0 K (decode cL_law 603) 603 L (st) h cs ss = (K 604 L (.int 1 :: st) h cs ss) := by
  rw [dL_law_603, ey_ok, nx_iconst_11] <;> rfl
theorem qL_law_604 : ey F ini rt fin K0 K (decode cL_law 604) 604 L (.int y :: .int x :: r) h cs ss = (K 605 L (.int (x + y) :: r) h cs ss) := by
  rw [dL_law_604, ey_ok, nx_iadd_16]
theorem qL_law_605 : ey F ini rt fin K0 K (decode cL_law 605) 605 L (.int i :: .ref a :: r) h cs ss = (isA (h.1 a) (fun k m => k = 0 ∧ vp_in i m) ∧ K 606 L (h.2 a i.toNatClampNeg :: r) h cs ss) := by
  rw [dL_law_605, ey_ok, nx_iaload_57]
theorem qL_law_606 : ey F ini rt fin K0 K (decode cL_law 606) 606 L (st) h cs ss = (lhas L 0 ∧ isRf (lgt L 0) ∧ K 607 L (lgt L 0 :: st) h cs ss) := by
  rw [dL_law_606, ey_ok, nx_aload_n_3] <;> rfl
theorem qL_law_607 : ey F ini rt fin K0 K (decode cL_law 607) 607 L (st) h cs ss = (lhas L 4 ∧ isI (lgt L 4) ∧ K 609 L (lgt L 4 :: st) h cs ss) := by
  rw [dL_law_607, ey_ok, nx_iload_0] <;> rfl
theorem qL_law_609 : ey F ini rt fin K0 K (decode cL_law 609) 609 L (st) h cs ss = (K 610 L (.int 2 :: st) h cs ss) := by
  rw [dL_law_609, ey_ok, nx_iconst_11] <;> rfl
theorem qL_law_610 : ey F ini rt fin K0 K (decode cL_law 610) 610 L (.int y :: .int x :: r) h cs ss = (K 611 L (.int (x + y) :: r) h cs ss) := by
  rw [dL_law_610, ey_ok, nx_iadd_16]
theorem qL_law_611 : ey F ini rt fin K0 K (decode cL_law 611) 611 L (.int i :: .ref a :: r) h cs ss = (isA (h.1 a) (fun k m => k = 0 ∧ vp_in i m) ∧ K 612 L (h.2 a i.toNatClampNeg :: r) h cs ss) := by
  rw [dL_law_611, ey_ok, nx_iaload_57]
theorem qL_law_612 : ey F ini rt fin K0 K (decode cL_law 612) 612 L (st) h cs ss = (K0 612 L st h cs ss) := by
  rw [dL_law_612, ey_ok, nx_invokevirtual_72]
theorem qL_law_615 : ey F ini rt fin K0 K (decode cL_law 615) 615 L (.int x :: r) h cs ss = (6 < L.length ∧ K 617 (L.set 6 (some (.int x))) r h cs ss) := by
  rw [dL_law_615, ey_ok, nx_istore_4] <;> rfl
theorem qL_law_617 : ey F ini rt fin K0 K (decode cL_law 617) 617 L (st) h cs ss = (lhas L 2 ∧ isRf (lgt L 2) ∧ K 618 L (lgt L 2 :: st) h cs ss) := by
  rw [dL_law_617, ey_ok, nx_aload_n_3] <;> rfl
theorem qL_law_618 : ey F ini rt fin K0 K (decode cL_law 618) 618 L (st) h cs ss = (K0 618 L st h cs ss) := by
  rw [dL_law_618, ey_ok, nx_invokevirtual_72]
theorem qL_law_621 : ey F ini rt fin K0 K (decode cL_law 621) 621 L (st) h cs ss = (lhas L 5 ∧ isI (lgt L 5) ∧ K 623 L (lgt L 5 :: st) h cs ss) := by
  rw [dL_law_621, ey_ok, nx_iload_0] <;> rfl
theorem qL_law_623 : ey F ini rt fin K0 K (decode cL_law 623) 623 L (.int y :: .int x :: r) h cs ss = (if x = y then K 628 L r h cs ss else K 626 L r h cs ss) := by
  rw [dL_law_623, ey_ok, nx_if_icmp_36]
  exact and_l (by unfold jok; decide)
theorem qL_law_626 : ey F ini rt fin K0 K (decode cL_law 626) 626 L (st) h cs ss = (K 627 L (.int 0 :: st) h cs ss) := by
  rw [dL_law_626, ey_ok, nx_iconst_11] <;> rfl
theorem qL_law_627 : ey F ini rt fin K0 K (decode cL_law 627) 627 L ([.int x]) h cs ss = (rokI rt x ∧ fin (some (.int x)) h cs ss) := by
  rw [dL_law_627, ey_ok, nx_ireturn_68]
theorem qL_law_628 : ey F ini rt fin K0 K (decode cL_law 628) 628 L (st) h cs ss = (lhas L 5 ∧ isI (lgt L 5) ∧ K 630 L (lgt L 5 :: st) h cs ss) := by
  rw [dL_law_628, ey_ok, nx_iload_0] <;> rfl
theorem qL_law_630 : ey F ini rt fin K0 K (decode cL_law 630) 630 L (.int x :: r) h cs ss = (if ¬ x = 0 then K 645 L r h cs ss else K 633 L r h cs ss) := by
  rw [dL_law_630, ey_ok, nx_ifond_31]
  exact and_l (by unfold jok; decide)
theorem qL_law_633 : ey F ini rt fin K0 K (decode cL_law 633) 633 L (st) h cs ss = (lhas L 3 ∧ isRf (lgt L 3) ∧ K 634 L (lgt L 3 :: st) h cs ss) := by
  rw [dL_law_633, ey_ok, nx_aload_n_3] <;> rfl
theorem qL_law_634 : ey F ini rt fin K0 K (decode cL_law 634) 634 L (st) h cs ss = (K 635 L (.int 0 :: st) h cs ss) := by
  rw [dL_law_634, ey_ok, nx_iconst_11] <;> rfl
theorem qL_law_635 : ey F ini rt fin K0 K (decode cL_law 635) 635 L (.int i :: .ref a :: r) h cs ss = (isA (h.1 a) (fun k m => k = 3 ∧ vp_in i m) ∧ K 636 L (h.2 a i.toNatClampNeg :: r) h cs ss) := by
  rw [dL_law_635, ey_ok, nx_laload_60]
theorem qL_law_636 : ey F ini rt fin K0 K (decode cL_law 636) 636 L (st) h cs ss = (lhas L 6 ∧ isI (lgt L 6) ∧ K 638 L (lgt L 6 :: st) h cs ss) := by
  rw [dL_law_636, ey_ok, nx_iload_0] <;> rfl
theorem qL_law_638 : ey F ini rt fin K0 K (decode cL_law 638) 638 L (.int x :: r) h cs ss = (K 639 L (.long x.toInt64 :: r) h cs ss) := by
  rw [dL_law_638, ey_ok, nx_i2l_24]
theorem qL_law_639 : ey F ini rt fin K0 K (decode cL_law 639) 639 L (.long ly :: .long lx :: r) h cs ss = (K 640 L (.int (lg_cmp lx ly) :: r) h cs ss) := by
  rw [dL_law_639, ey_ok, nx_lcmp_26]
theorem qL_law_640 : ey F ini rt fin K0 K (decode cL_law 640) 640 L (.int x :: r) h cs ss = (if x = 0 then K 645 L r h cs ss else K 643 L r h cs ss) := by
  rw [dL_law_640, ey_ok, nx_ifond_30]
  exact and_l (by unfold jok; decide)
theorem qL_law_643 : ey F ini rt fin K0 K (decode cL_law 643) 643 L (st) h cs ss = (K 644 L (.int 0 :: st) h cs ss) := by
  rw [dL_law_643, ey_ok, nx_iconst_11] <;> rfl
theorem qL_law_644 : ey F ini rt fin K0 K (decode cL_law 644) 644 L ([.int x]) h cs ss = (rokI rt x ∧ fin (some (.int x)) h cs ss) := by
  rw [dL_law_644, ey_ok, nx_ireturn_68]
theorem qL_law_645 : ey F ini rt fin K0 K (decode cL_law 645) 645 L (st) h cs ss = (K 1629 L st h cs ss) := by
  rw [dL_law_645, ey_ok, nx_goto_29]
  exact and_l (by unfold jok; decide)
theorem qL_law_648 : ey F ini rt fin K0 K (decode cL_law 648) 648 L (st) h cs ss = (lhas L 1 ∧ isRf (lgt L 1) ∧ K 649 L (lgt L 1 :: st) h cs ss) := by
  rw [dL_law_648, ey_ok, nx_aload_n_3] <;> rfl
theorem qL_law_649 : ey F ini rt fin K0 K (decode cL_law 649) 649 L (st) h cs ss = (lhas L 0 ∧ isRf (lgt L 0) ∧ K 650 L (lgt L 0 :: st) h cs ss) := by
  rw [dL_law_649, ey_ok, nx_aload_n_3] <;> rfl
theorem qL_law_650 : ey F ini rt fin K0 K (decode cL_law 650) 650 L (st) h cs ss = (lhas L 4 ∧ isI (lgt L 4) ∧ K 652 L (lgt L 4 :: st) h cs ss) := by
  rw [dL_law_650, ey_ok, nx_iload_0] <;> rfl
theorem qL_law_652 : ey F ini rt fin K0 K (decode cL_law 652) 652 L (st) h cs ss = (K 653 L (.int 1 :: st) h cs ss) := by
  rw [dL_law_652, ey_ok, nx_iconst_11] <;> rfl
theorem qL_law_653 : ey F ini rt fin K0 K (decode cL_law 653) 653 L (.int y :: .int x :: r) h cs ss = (K 654 L (.int (x + y) :: r) h cs ss) := by
  rw [dL_law_653, ey_ok, nx_iadd_16]
theorem qL_law_654 : ey F ini rt fin K0 K (decode cL_law 654) 654 L (.int i :: .ref a :: r) h cs ss = (isA (h.1 a) (fun k m => k = 0 ∧ vp_in i m) ∧ K 655 L (h.2 a i.toNatClampNeg :: r) h cs ss) := by
  rw [dL_law_654, ey_ok, nx_iaload_57]
theorem qL_law_655 : ey F ini rt fin K0 K (decode cL_law 655) 655 L (st) h cs ss = (lhas L 3 ∧ isRf (lgt L 3) ∧ K 656 L (lgt L 3 :: st) h cs ss) := by
  rw [dL_law_655, ey_ok, nx_aload_n_3] <;> rfl
theorem qL_law_656 : ey F ini rt fin K0 K (decode cL_law 656) 656 L (st) h cs ss = (K0 656 L st h cs ss) := by
  rw [dL_law_656, ey_ok, nx_invokestatic_73]
theorem qL_law_659 : ey F ini rt fin K0 K (decode cL_law 659) 659 L (.int x :: r) h cs ss = (5 < L.length ∧ K 661 (L.set 5 (some (.int x))) r h cs ss) := by
  rw [dL_law_659, ey_ok, nx_istore_4] <;> rfl
theorem qL_law_661 : ey F ini rt fin K0 K (decode cL_law 661) 661 L (st) h cs ss = (lhas L 2 ∧ isRf (lgt L 2) ∧ K 662 L (lgt L 2 :: st) h cs ss) := by
  rw [dL_law_661, ey_ok, nx_aload_n_3] <;> rfl
theorem qL_law_662 : ey F ini rt fin K0 K (decode cL_law 662) 662 L (st) h cs ss = (lhas L 0 ∧ isRf (lgt L 0) ∧ K 663 L (lgt L 0 :: st) h cs ss) := by
  rw [dL_law_662, ey_ok, nx_aload_n_3] <;> rfl
theorem qL_law_663 : ey F ini rt fin K0 K (decode cL_law 663) 663 L (st) h cs ss = (lhas L 4 ∧ isI (lgt L 4) ∧ K 665 L (lgt L 4 :: st) h cs ss) := by
  rw [dL_law_663, ey_ok, nx_iload_0] <;> rfl
theorem qL_law_665 : ey F ini rt fin K0 K (decode cL_law 665) 665 L (st) h cs ss = (K 666 L (.int 1 :: st) h cs ss) := by
  rw [dL_law_665, ey_ok, nx_iconst_11] <;> rfl
theorem qL_law_666 : ey F ini rt fin K0 K (decode cL_law 666) 666 L (.int y :: .int x :: r) h cs ss = (K 667 L (.int (x + y) :: r) h cs ss) := by
  rw [dL_law_666, ey_ok, nx_iadd_16]
theorem qL_law_667 : ey F ini rt fin K0 K (decode cL_law 667) 667 L (.int i :: .ref a :: r) h cs ss = (isA (h.1 a) (fun k m => k = 0 ∧ vp_in i m) ∧ K 668 L (h.2 a i.toNatClampNeg :: r) h cs ss) := by
  rw [dL_law_667, ey_ok, nx_iaload_57]
theorem qL_law_668 : ey F ini rt fin K0 K (decode cL_law 668) 668 L (st) h cs ss = (K0 668 L st h cs ss) := by
  rw [dL_law_668, ey_ok, nx_invokevirtual_72]
theorem qL_law_671 : ey F ini rt fin K0 K (decode cL_law 671) 671 L (.int x :: r) h cs ss = (6 < L.length ∧ K 673 (L.set 6 (some (.int x))) r h cs ss) := by
  rw [dL_law_671, ey_ok, nx_istore_4] <;> rfl
theorem qL_law_673 : ey F ini rt fin K0 K (decode cL_law 673) 673 L (st) h cs ss = (lhas L 2 ∧ isRf (lgt L 2) ∧ K 674 L (lgt L 2 :: st) h cs ss) := by
  rw [dL_law_673, ey_ok, nx_aload_n_3] <;> rfl
theorem qL_law_674 : ey F ini rt fin K0 K (decode cL_law 674) 674 L (st) h cs ss = (K0 674 L st h cs ss) := by
  rw [dL_law_674, ey_ok, nx_invokevirtual_72]
theorem qL_law_677 : ey F ini rt fin K0 K (decode cL_law 677) 677 L (st) h cs ss = (lhas L 5 ∧ isI (lgt L 5) ∧ K 679 L (lgt L 5 :: st) h cs ss) := by
  rw [dL_law_677, ey_ok, nx_iload_0] <;> rfl
theorem qL_law_679 : ey F ini rt fin K0 K (decode cL_law 679) 679 L (.int y :: .int x :: r) h cs ss = (if x = y then K 684 L r h cs ss else K 682 L r h cs ss) := by
  rw [dL_law_679, ey_ok, nx_if_icmp_36]
  exact and_l (by unfold jok; decide)
theorem qL_law_682 : ey F ini rt fin K0 K (decode cL_law 682) 682 L (st) h cs ss = (K 683 L (.int 0 :: st) h cs ss) := by
  rw [dL_law_682, ey_ok, nx_iconst_11] <;> rfl
theorem qL_law_683 : ey F ini rt fin K0 K (decode cL_law 683) 683 L ([.int x]) h cs ss = (rokI rt x ∧ fin (some (.int x)) h cs ss) := by
  rw [dL_law_683, ey_ok, nx_ireturn_68]
theorem qL_law_684 : ey F ini rt fin K0 K (decode cL_law 684) 684 L (st) h cs ss = (lhas L 5 ∧ isI (lgt L 5) ∧ K 686 L (lgt L 5 :: st) h cs ss) := by
  rw [dL_law_684, ey_ok, nx_iload_0] <;> rfl
theorem qL_law_686 : ey F ini rt fin K0 K (decode cL_law 686) 686 L (.int x :: r) h cs ss = (if ¬ x = 0 then K 701 L r h cs ss else K 689 L r h cs ss) := by
  rw [dL_law_686, ey_ok, nx_ifond_31]
  exact and_l (by unfold jok; decide)
theorem qL_law_689 : ey F ini rt fin K0 K (decode cL_law 689) 689 L (st) h cs ss = (lhas L 3 ∧ isRf (lgt L 3) ∧ K 690 L (lgt L 3 :: st) h cs ss) := by
  rw [dL_law_689, ey_ok, nx_aload_n_3] <;> rfl
theorem qL_law_690 : ey F ini rt fin K0 K (decode cL_law 690) 690 L (st) h cs ss = (K 691 L (.int 0 :: st) h cs ss) := by
  rw [dL_law_690, ey_ok, nx_iconst_11] <;> rfl
theorem qL_law_691 : ey F ini rt fin K0 K (decode cL_law 691) 691 L (.int i :: .ref a :: r) h cs ss = (isA (h.1 a) (fun k m => k = 3 ∧ vp_in i m) ∧ K 692 L (h.2 a i.toNatClampNeg :: r) h cs ss) := by
  rw [dL_law_691, ey_ok, nx_laload_60]
theorem qL_law_692 : ey F ini rt fin K0 K (decode cL_law 692) 692 L (st) h cs ss = (lhas L 6 ∧ isI (lgt L 6) ∧ K 694 L (lgt L 6 :: st) h cs ss) := by
  rw [dL_law_692, ey_ok, nx_iload_0] <;> rfl
theorem qL_law_694 : ey F ini rt fin K0 K (decode cL_law 694) 694 L (.int x :: r) h cs ss = (K 695 L (.long x.toInt64 :: r) h cs ss) := by
  rw [dL_law_694, ey_ok, nx_i2l_24]
theorem qL_law_695 : ey F ini rt fin K0 K (decode cL_law 695) 695 L (.long ly :: .long lx :: r) h cs ss = (K 696 L (.int (lg_cmp lx ly) :: r) h cs ss) := by
  rw [dL_law_695, ey_ok, nx_lcmp_26]
theorem qL_law_696 : ey F ini rt fin K0 K (decode cL_law 696) 696 L (.int x :: r) h cs ss = (if x = 0 then K 701 L r h cs ss else K 699 L r h cs ss) := by
  rw [dL_law_696, ey_ok, nx_ifond_30]
  exact and_l (by unfold jok; decide)
theorem qL_law_699 : ey F ini rt fin K0 K (decode cL_law 699) 699 L (st) h cs ss = (K 700 L (.int 0 :: st) h cs ss) := by
  rw [dL_law_699, ey_ok, nx_iconst_11] <;> rfl
theorem qL_law_700 : ey F ini rt fin K0 K (decode cL_law 700) 700 L ([.int x]) h cs ss = (rokI rt x ∧ fin (some (.int x)) h cs ss) := by
  rw [dL_law_700, ey_ok, nx_ireturn_68]
theorem qL_law_701 : ey F ini rt fin K0 K (decode cL_law 701) 701 L (st) h cs ss = (K 1629 L st h cs ss) := by
  rw [dL_law_701, ey_ok, nx_goto_29]
  exact and_l (by unfold jok; decide)
theorem qL_law_704 : ey F ini rt fin K0 K (decode cL_law 704) 704 L (st) h cs ss = (lhas L 1 ∧ isRf (lgt L 1) ∧ K 705 L (lgt L 1 :: st) h cs ss) := by
  rw [dL_law_704, ey_ok, nx_aload_n_3] <;> rfl
theorem qL_law_705 : ey F ini rt fin K0 K (decode cL_law 705) 705 L (st) h cs ss = (lhas L 0 ∧ isRf (lgt L 0) ∧ K 706 L (lgt L 0 :: st) h cs ss) := by
  rw [dL_law_705, ey_ok, nx_aload_n_3] <;> rfl
theorem qL_law_706 : ey F ini rt fin K0 K (decode cL_law 706) 706 L (st) h cs ss = (lhas L 4 ∧ isI (lgt L 4) ∧ K 708 L (lgt L 4 :: st) h cs ss) := by
  rw [dL_law_706, ey_ok, nx_iload_0] <;> rfl
theorem qL_law_708 : ey F ini rt fin K0 K (decode cL_law 708) 708 L (st) h cs ss = (K 709 L (.int 1 :: st) h cs ss) := by
  rw [dL_law_708, ey_ok, nx_iconst_11] <;> rfl
theorem qL_law_709 : ey F ini rt fin K0 K (decode cL_law 709) 709 L (.int y :: .int x :: r) h cs ss = (K 710 L (.int (x + y) :: r) h cs ss) := by
  rw [dL_law_709, ey_ok, nx_iadd_16]
theorem qL_law_710 : ey F ini rt fin K0 K (decode cL_law 710) 710 L (.int i :: .ref a :: r) h cs ss = (isA (h.1 a) (fun k m => k = 0 ∧ vp_in i m) ∧ K 711 L (h.2 a i.toNatClampNeg :: r) h cs ss) := by
  rw [dL_law_710, ey_ok, nx_iaload_57]
theorem qL_law_711 : ey F ini rt fin K0 K (decode cL_law 711) 711 L (.int x :: r) h cs ss = (K 712 L (.int (x.toUInt32 % 65536).toInt32 :: r) h cs ss) := by
  rw [dL_law_711, ey_ok, nx_i2c_25]
theorem qL_law_712 : ey F ini rt fin K0 K (decode cL_law 712) 712 L (st) h cs ss = (lhas L 3 ∧ isRf (lgt L 3) ∧ K 713 L (lgt L 3 :: st) h cs ss) := by
  rw [dL_law_712, ey_ok, nx_aload_n_3] <;> rfl
theorem qL_law_713 : ey F ini rt fin K0 K (decode cL_law 713) 713 L (st) h cs ss = (K0 713 L st h cs ss) := by
  rw [dL_law_713, ey_ok, nx_invokestatic_73]
theorem qL_law_716 : ey F ini rt fin K0 K (decode cL_law 716) 716 L (.int x :: r) h cs ss = (5 < L.length ∧ K 718 (L.set 5 (some (.int x))) r h cs ss) := by
  rw [dL_law_716, ey_ok, nx_istore_4] <;> rfl
theorem qL_law_718 : ey F ini rt fin K0 K (decode cL_law 718) 718 L (st) h cs ss = (lhas L 2 ∧ isRf (lgt L 2) ∧ K 719 L (lgt L 2 :: st) h cs ss) := by
  rw [dL_law_718, ey_ok, nx_aload_n_3] <;> rfl
theorem qL_law_719 : ey F ini rt fin K0 K (decode cL_law 719) 719 L (st) h cs ss = (lhas L 0 ∧ isRf (lgt L 0) ∧ K 720 L (lgt L 0 :: st) h cs ss) := by
  rw [dL_law_719, ey_ok, nx_aload_n_3] <;> rfl
theorem qL_law_720 : ey F ini rt fin K0 K (decode cL_law 720) 720 L (st) h cs ss = (lhas L 4 ∧ isI (lgt L 4) ∧ K 722 L (lgt L 4 :: st) h cs ss) := by
  rw [dL_law_720, ey_ok, nx_iload_0] <;> rfl
theorem qL_law_722 : ey F ini rt fin K0 K (decode cL_law 722) 722 L (st) h cs ss = (K 723 L (.int 1 :: st) h cs ss) := by
  rw [dL_law_722, ey_ok, nx_iconst_11] <;> rfl
theorem qL_law_723 : ey F ini rt fin K0 K (decode cL_law 723) 723 L (.int y :: .int x :: r) h cs ss = (K 724 L (.int (x + y) :: r) h cs ss) := by
  rw [dL_law_723, ey_ok, nx_iadd_16]
theorem qL_law_724 : ey F ini rt fin K0 K (decode cL_law 724) 724 L (.int i :: .ref a :: r) h cs ss = (isA (h.1 a) (fun k m => k = 0 ∧ vp_in i m) ∧ K 725 L (h.2 a i.toNatClampNeg :: r) h cs ss) := by
  rw [dL_law_724, ey_ok, nx_iaload_57]
theorem qL_law_725 : ey F ini rt fin K0 K (decode cL_law 725) 725 L (.int x :: r) h cs ss = (K 726 L (.int (x.toUInt32 % 65536).toInt32 :: r) h cs ss) := by
  rw [dL_law_725, ey_ok, nx_i2c_25]
theorem qL_law_726 : ey F ini rt fin K0 K (decode cL_law 726) 726 L (st) h cs ss = (K0 726 L st h cs ss) := by
  rw [dL_law_726, ey_ok, nx_invokevirtual_72]
theorem qL_law_729 : ey F ini rt fin K0 K (decode cL_law 729) 729 L (.int x :: r) h cs ss = (6 < L.length ∧ K 731 (L.set 6 (some (.int x))) r h cs ss) := by
  rw [dL_law_729, ey_ok, nx_istore_4] <;> rfl
theorem qL_law_731 : ey F ini rt fin K0 K (decode cL_law 731) 731 L (st) h cs ss = (lhas L 2 ∧ isRf (lgt L 2) ∧ K 732 L (lgt L 2 :: st) h cs ss) := by
  rw [dL_law_731, ey_ok, nx_aload_n_3] <;> rfl
theorem qL_law_732 : ey F ini rt fin K0 K (decode cL_law 732) 732 L (st) h cs ss = (K0 732 L st h cs ss) := by
  rw [dL_law_732, ey_ok, nx_invokevirtual_72]
theorem qL_law_735 : ey F ini rt fin K0 K (decode cL_law 735) 735 L (st) h cs ss = (lhas L 5 ∧ isI (lgt L 5) ∧ K 737 L (lgt L 5 :: st) h cs ss) := by
  rw [dL_law_735, ey_ok, nx_iload_0] <;> rfl
theorem qL_law_737 : ey F ini rt fin K0 K (decode cL_law 737) 737 L (.int y :: .int x :: r) h cs ss = (if x = y then K 742 L r h cs ss else K 740 L r h cs ss) := by
  rw [dL_law_737, ey_ok, nx_if_icmp_36]
  exact and_l (by unfold jok; decide)
theorem qL_law_740 : ey F ini rt fin K0 K (decode cL_law 740) 740 L (st) h cs ss = (K 741 L (.int 0 :: st) h cs ss) := by
  rw [dL_law_740, ey_ok, nx_iconst_11] <;> rfl
theorem qL_law_741 : ey F ini rt fin K0 K (decode cL_law 741) 741 L ([.int x]) h cs ss = (rokI rt x ∧ fin (some (.int x)) h cs ss) := by
  rw [dL_law_741, ey_ok, nx_ireturn_68]
theorem qL_law_742 : ey F ini rt fin K0 K (decode cL_law 742) 742 L (st) h cs ss = (lhas L 5 ∧ isI (lgt L 5) ∧ K 744 L (lgt L 5 :: st) h cs ss) := by
  rw [dL_law_742, ey_ok, nx_iload_0] <;> rfl
theorem qL_law_744 : ey F ini rt fin K0 K (decode cL_law 744) 744 L (.int x :: r) h cs ss = (if ¬ x = 0 then K 759 L r h cs ss else K 747 L r h cs ss) := by
  rw [dL_law_744, ey_ok, nx_ifond_31]
  exact and_l (by unfold jok; decide)
theorem qL_law_747 : ey F ini rt fin K0 K (decode cL_law 747) 747 L (st) h cs ss = (lhas L 3 ∧ isRf (lgt L 3) ∧ K 748 L (lgt L 3 :: st) h cs ss) := by
  rw [dL_law_747, ey_ok, nx_aload_n_3] <;> rfl
theorem qL_law_748 : ey F ini rt fin K0 K (decode cL_law 748) 748 L (st) h cs ss = (K 749 L (.int 0 :: st) h cs ss) := by
  rw [dL_law_748, ey_ok, nx_iconst_11] <;> rfl
theorem qL_law_749 : ey F ini rt fin K0 K (decode cL_law 749) 749 L (.int i :: .ref a :: r) h cs ss = (isA (h.1 a) (fun k m => k = 3 ∧ vp_in i m) ∧ K 750 L (h.2 a i.toNatClampNeg :: r) h cs ss) := by
  rw [dL_law_749, ey_ok, nx_laload_60]
theorem qL_law_750 : ey F ini rt fin K0 K (decode cL_law 750) 750 L (st) h cs ss = (lhas L 6 ∧ isI (lgt L 6) ∧ K 752 L (lgt L 6 :: st) h cs ss) := by
  rw [dL_law_750, ey_ok, nx_iload_0] <;> rfl
theorem qL_law_752 : ey F ini rt fin K0 K (decode cL_law 752) 752 L (.int x :: r) h cs ss = (K 753 L (.long x.toInt64 :: r) h cs ss) := by
  rw [dL_law_752, ey_ok, nx_i2l_24]
theorem qL_law_753 : ey F ini rt fin K0 K (decode cL_law 753) 753 L (.long ly :: .long lx :: r) h cs ss = (K 754 L (.int (lg_cmp lx ly) :: r) h cs ss) := by
  rw [dL_law_753, ey_ok, nx_lcmp_26]
theorem qL_law_754 : ey F ini rt fin K0 K (decode cL_law 754) 754 L (.int x :: r) h cs ss = (if x = 0 then K 759 L r h cs ss else K 757 L r h cs ss) := by
  rw [dL_law_754, ey_ok, nx_ifond_30]
  exact and_l (by unfold jok; decide)
theorem qL_law_757 : ey F ini rt fin K0 K (decode cL_law 757) 757 L (st) h cs ss = (K 758 L (.int 0 :: st) h cs ss) := by
  rw [dL_law_757, ey_ok, nx_iconst_11] <;> rfl
theorem qL_law_758 : ey F ini rt fin K0 K (decode cL_law 758) 758 L ([.int x]) h cs ss = (rokI rt x ∧ fin (some (.int x)) h cs ss) := by
  rw [dL_law_758, ey_ok, nx_ireturn_68]
theorem qL_law_759 : ey F ini rt fin K0 K (decode cL_law 759) 759 L (st) h cs ss = (K 1629 L st h cs ss) := by
  rw [dL_law_759, ey_ok, nx_goto_29]
  exact and_l (by unfold jok; decide)
theorem qL_law_762 : ey F ini rt fin K0 K (decode cL_law 762) 762 L (st) h cs ss = (lhas L 1 ∧ isRf (lgt L 1) ∧ K 763 L (lgt L 1 :: st) h cs ss) := by
  rw [dL_law_762, ey_ok, nx_aload_n_3] <;> rfl
theorem qL_law_763 : ey F ini rt fin K0 K (decode cL_law 763) 763 L (st) h cs ss = (K0 763 L st h cs ss) := by
  rw [dL_law_763, ey_ok, nx_invokevirtual_72]
theorem qL_law_766 : ey F ini rt fin K0 K (decode cL_law 766) 766 L (st) h cs ss = (lhas L 2 ∧ isRf (lgt L 2) ∧ K 767 L (lgt L 2 :: st) h cs ss) := by
  rw [dL_law_766, ey_ok, nx_aload_n_3] <;> rfl
theorem qL_law_767 : ey F ini rt fin K0 K (decode cL_law 767) 767 L (st) h cs ss = (K0 767 L st h cs ss) := by
  rw [dL_law_767, ey_ok, nx_invokevirtual_72]
theorem qL_law_770 : ey F ini rt fin K0 K (decode cL_law 770) 770 L (.int y :: .int x :: r) h cs ss = (if x = y then K 1629 L r h cs ss else K 773 L r h cs ss) := by
  rw [dL_law_770, ey_ok, nx_if_icmp_36]
  exact and_l (by unfold jok; decide)
theorem qL_law_773 : ey F ini rt fin K0 K (decode cL_law 773) 773 L (st) h cs ss = (K 774 L (.int 0 :: st) h cs ss) := by
  rw [dL_law_773, ey_ok, nx_iconst_11] <;> rfl
theorem qL_law_774 : ey F ini rt fin K0 K (decode cL_law 774) 774 L ([.int x]) h cs ss = (rokI rt x ∧ fin (some (.int x)) h cs ss) := by
  rw [dL_law_774, ey_ok, nx_ireturn_68]
theorem qL_law_775 : ey F ini rt fin K0 K (decode cL_law 775) 775 L (st) h cs ss = (lhas L 1 ∧ isRf (lgt L 1) ∧ K 776 L (lgt L 1 :: st) h cs ss) := by
  rw [dL_law_775, ey_ok, nx_aload_n_3] <;> rfl
theorem qL_law_776 : ey F ini rt fin K0 K (decode cL_law 776) 776 L (st) h cs ss = (K0 776 L st h cs ss) := by
  rw [dL_law_776, ey_ok, nx_invokevirtual_72]
theorem qL_law_779 : ey F ini rt fin K0 K (decode cL_law 779) 779 L (st) h cs ss = (lhas L 2 ∧ isRf (lgt L 2) ∧ K 780 L (lgt L 2 :: st) h cs ss) := by
  rw [dL_law_779, ey_ok, nx_aload_n_3] <;> rfl
theorem qL_law_780 : ey F ini rt fin K0 K (decode cL_law 780) 780 L (st) h cs ss = (K0 780 L st h cs ss) := by
  rw [dL_law_780, ey_ok, nx_invokevirtual_72]
theorem qL_law_783 : ey F ini rt fin K0 K (decode cL_law 783) 783 L (.int y :: .int x :: r) h cs ss = (if x = y then K 1629 L r h cs ss else K 786 L r h cs ss) := by
  rw [dL_law_783, ey_ok, nx_if_icmp_36]
  exact and_l (by unfold jok; decide)
theorem qL_law_786 : ey F ini rt fin K0 K (decode cL_law 786) 786 L (st) h cs ss = (K 787 L (.int 0 :: st) h cs ss) := by
  rw [dL_law_786, ey_ok, nx_iconst_11] <;> rfl
theorem qL_law_787 : ey F ini rt fin K0 K (decode cL_law 787) 787 L ([.int x]) h cs ss = (rokI rt x ∧ fin (some (.int x)) h cs ss) := by
  rw [dL_law_787, ey_ok, nx_ireturn_68]
theorem qL_law_788 : ey F ini rt fin K0 K (decode cL_law 788) 788 L (st) h cs ss = (lhas L 1 ∧ isRf (lgt L 1) ∧ K 789 L (lgt L 1 :: st) h cs ss) := by
  rw [dL_law_788, ey_ok, nx_aload_n_3] <;> rfl
theorem qL_law_789 : ey F ini rt fin K0 K (decode cL_law 789) 789 L (st) h cs ss = (lhas L 3 ∧ isRf (lgt L 3) ∧ K 790 L (lgt L 3 :: st) h cs ss) := by
  rw [dL_law_789, ey_ok, nx_aload_n_3] <;> rfl
theorem qL_law_790 : ey F ini rt fin K0 K (decode cL_law 790) 790 L (st) h cs ss = (K0 790 L st h cs ss) := by
  rw [dL_law_790, ey_ok, nx_invokestatic_73]
theorem qL_law_793 : ey F ini rt fin K0 K (decode cL_law 793) 793 L (.int x :: r) h cs ss = (5 < L.length ∧ K 795 (L.set 5 (some (.int x))) r h cs ss) := by
  rw [dL_law_793, ey_ok, nx_istore_4] <;> rfl
theorem qL_law_795 : ey F ini rt fin K0 K (decode cL_law 795) 795 L (st) h cs ss = (lhas L 2 ∧ isRf (lgt L 2) ∧ K 796 L (lgt L 2 :: st) h cs ss) := by
  rw [dL_law_795, ey_ok, nx_aload_n_3] <;> rfl
theorem qL_law_796 : ey F ini rt fin K0 K (decode cL_law 796) 796 L (st) h cs ss = (K0 796 L st h cs ss) := by
  rw [dL_law_796, ey_ok, nx_invokevirtual_72]
theorem qL_law_799 : ey F ini rt fin K0 K (decode cL_law 799) 799 L (.int x :: r) h cs ss = (6 < L.length ∧ K 801 (L.set 6 (some (.int x))) r h cs ss) := by
  rw [dL_law_799, ey_ok, nx_istore_4] <;> rfl
theorem qL_law_801 : ey F ini rt fin K0 K (decode cL_law 801) 801 L (st) h cs ss = (lhas L 2 ∧ isRf (lgt L 2) ∧ K 802 L (lgt L 2 :: st) h cs ss) := by
  rw [dL_law_801, ey_ok, nx_aload_n_3] <;> rfl
theorem qL_law_802 : ey F ini rt fin K0 K (decode cL_law 802) 802 L (st) h cs ss = (K0 802 L st h cs ss) := by
  rw [dL_law_802, ey_ok, nx_invokevirtual_72]
theorem qL_law_805 : ey F ini rt fin K0 K (decode cL_law 805) 805 L (st) h cs ss = (lhas L 5 ∧ isI (lgt L 5) ∧ K 807 L (lgt L 5 :: st) h cs ss) := by
  rw [dL_law_805, ey_ok, nx_iload_0] <;> rfl
theorem qL_law_807 : ey F ini rt fin K0 K (decode cL_law 807) 807 L (.int y :: .int x :: r) h cs ss = (if x = y then K 812 L r h cs ss else K 810 L r h cs ss) := by
  rw [dL_law_807, ey_ok, nx_if_icmp_36]
  exact and_l (by unfold jok; decide)
theorem qL_law_810 : ey F ini rt fin K0 K (decode cL_law 810) 810 L (st) h cs ss = (K 811 L (.int 0 :: st) h cs ss) := by
  rw [dL_law_810, ey_ok, nx_iconst_11] <;> rfl
theorem qL_law_811 : ey F ini rt fin K0 K (decode cL_law 811) 811 L ([.int x]) h cs ss = (rokI rt x ∧ fin (some (.int x)) h cs ss) := by
  rw [dL_law_811, ey_ok, nx_ireturn_68]
theorem qL_law_812 : ey F ini rt fin K0 K (decode cL_law 812) 812 L (st) h cs ss = (lhas L 5 ∧ isI (lgt L 5) ∧ K 814 L (lgt L 5 :: st) h cs ss) := by
  rw [dL_law_812, ey_ok, nx_iload_0] <;> rfl
theorem qL_law_814 : ey F ini rt fin K0 K (decode cL_law 814) 814 L (.int x :: r) h cs ss = (if ¬ x = 0 then K 829 L r h cs ss else K 817 L r h cs ss) := by
  rw [dL_law_814, ey_ok, nx_ifond_31]
  exact and_l (by unfold jok; decide)
theorem qL_law_817 : ey F ini rt fin K0 K (decode cL_law 817) 817 L (st) h cs ss = (lhas L 3 ∧ isRf (lgt L 3) ∧ K 818 L (lgt L 3 :: st) h cs ss) := by
  rw [dL_law_817, ey_ok, nx_aload_n_3] <;> rfl
theorem qL_law_818 : ey F ini rt fin K0 K (decode cL_law 818) 818 L (st) h cs ss = (K 819 L (.int 0 :: st) h cs ss) := by
  rw [dL_law_818, ey_ok, nx_iconst_11] <;> rfl
theorem qL_law_819 : ey F ini rt fin K0 K (decode cL_law 819) 819 L (.int i :: .ref a :: r) h cs ss = (isA (h.1 a) (fun k m => k = 3 ∧ vp_in i m) ∧ K 820 L (h.2 a i.toNatClampNeg :: r) h cs ss) := by
  rw [dL_law_819, ey_ok, nx_laload_60]
theorem qL_law_820 : ey F ini rt fin K0 K (decode cL_law 820) 820 L (st) h cs ss = (lhas L 6 ∧ isI (lgt L 6) ∧ K 822 L (lgt L 6 :: st) h cs ss) := by
  rw [dL_law_820, ey_ok, nx_iload_0] <;> rfl
theorem qL_law_822 : ey F ini rt fin K0 K (decode cL_law 822) 822 L (.int x :: r) h cs ss = (K 823 L (.long x.toInt64 :: r) h cs ss) := by
  rw [dL_law_822, ey_ok, nx_i2l_24]
theorem qL_law_823 : ey F ini rt fin K0 K (decode cL_law 823) 823 L (.long ly :: .long lx :: r) h cs ss = (K 824 L (.int (lg_cmp lx ly) :: r) h cs ss) := by
  rw [dL_law_823, ey_ok, nx_lcmp_26]
theorem qL_law_824 : ey F ini rt fin K0 K (decode cL_law 824) 824 L (.int x :: r) h cs ss = (if x = 0 then K 829 L r h cs ss else K 827 L r h cs ss) := by
  rw [dL_law_824, ey_ok, nx_ifond_30]
  exact and_l (by unfold jok; decide)
theorem qL_law_827 : ey F ini rt fin K0 K (decode cL_law 827) 827 L (st) h cs ss = (K 828 L (.int 0 :: st) h cs ss) := by
  rw [dL_law_827, ey_ok, nx_iconst_11] <;> rfl
theorem qL_law_828 : ey F ini rt fin K0 K (decode cL_law 828) 828 L ([.int x]) h cs ss = (rokI rt x ∧ fin (some (.int x)) h cs ss) := by
  rw [dL_law_828, ey_ok, nx_ireturn_68]
theorem qL_law_829 : ey F ini rt fin K0 K (decode cL_law 829) 829 L (st) h cs ss = (K 1629 L st h cs ss) := by
  rw [dL_law_829, ey_ok, nx_goto_29]
  exact and_l (by unfold jok; decide)
theorem qL_law_832 : ey F ini rt fin K0 K (decode cL_law 832) 832 L (st) h cs ss = (lhas L 1 ∧ isRf (lgt L 1) ∧ K 833 L (lgt L 1 :: st) h cs ss) := by
  rw [dL_law_832, ey_ok, nx_aload_n_3] <;> rfl
theorem qL_law_833 : ey F ini rt fin K0 K (decode cL_law 833) 833 L (st) h cs ss = (lhas L 0 ∧ isRf (lgt L 0) ∧ K 834 L (lgt L 0 :: st) h cs ss) := by
  rw [dL_law_833, ey_ok, nx_aload_n_3] <;> rfl
theorem qL_law_834 : ey F ini rt fin K0 K (decode cL_law 834) 834 L (st) h cs ss = (lhas L 4 ∧ isI (lgt L 4) ∧ K 836 L (lgt L 4 :: st) h cs ss) := by
  rw [dL_law_834, ey_ok, nx_iload_0] <;> rfl
theorem qL_law_836 : ey F ini rt fin K0 K (decode cL_law 836) 836 L (st) h cs ss = (K 837 L (.int 1 :: st) h cs ss) := by
  rw [dL_law_836, ey_ok, nx_iconst_11] <;> rfl
theorem qL_law_837 : ey F ini rt fin K0 K (decode cL_law 837) 837 L (.int y :: .int x :: r) h cs ss = (K 838 L (.int (x + y) :: r) h cs ss) := by
  rw [dL_law_837, ey_ok, nx_iadd_16]
theorem qL_law_838 : ey F ini rt fin K0 K (decode cL_law 838) 838 L (.int i :: .ref a :: r) h cs ss = (isA (h.1 a) (fun k m => k = 0 ∧ vp_in i m) ∧ K 839 L (h.2 a i.toNatClampNeg :: r) h cs ss) := by
  rw [dL_law_838, ey_ok, nx_iaload_57]
theorem qL_law_839 : ey F ini rt fin K0 K (decode cL_law 839) 839 L (st) h cs ss = (lhas L 3 ∧ isRf (lgt L 3) ∧ K 840 L (lgt L 3 :: st) h cs ss) := by
  rw [dL_law_839, ey_ok, nx_aload_n_3] <;> rfl
theorem qL_law_840 : ey F ini rt fin K0 K (decode cL_law 840) 840 L (st) h cs ss = (K0 840 L st h cs ss) := by
  rw [dL_law_840, ey_ok, nx_invokestatic_73]
theorem qL_law_843 : ey F ini rt fin K0 K (decode cL_law 843) 843 L (.int x :: r) h cs ss = (5 < L.length ∧ K 845 (L.set 5 (some (.int x))) r h cs ss) := by
  rw [dL_law_843, ey_ok, nx_istore_4] <;> rfl
theorem qL_law_845 : ey F ini rt fin K0 K (decode cL_law 845) 845 L (st) h cs ss = (lhas L 2 ∧ isRf (lgt L 2) ∧ K 846 L (lgt L 2 :: st) h cs ss) := by
  rw [dL_law_845, ey_ok, nx_aload_n_3] <;> rfl
theorem qL_law_846 : ey F ini rt fin K0 K (decode cL_law 846) 846 L (st) h cs ss = (lhas L 0 ∧ isRf (lgt L 0) ∧ K 847 L (lgt L 0 :: st) h cs ss) := by
  rw [dL_law_846, ey_ok, nx_aload_n_3] <;> rfl
theorem qL_law_847 : ey F ini rt fin K0 K (decode cL_law 847) 847 L (st) h cs ss = (lhas L 4 ∧ isI (lgt L 4) ∧ K 849 L (lgt L 4 :: st) h cs ss) := by
  rw [dL_law_847, ey_ok, nx_iload_0] <;> rfl
theorem qL_law_849 : ey F ini rt fin K0 K (decode cL_law 849) 849 L (st) h cs ss = (K 850 L (.int 1 :: st) h cs ss) := by
  rw [dL_law_849, ey_ok, nx_iconst_11] <;> rfl
theorem qL_law_850 : ey F ini rt fin K0 K (decode cL_law 850) 850 L (.int y :: .int x :: r) h cs ss = (K 851 L (.int (x + y) :: r) h cs ss) := by
  rw [dL_law_850, ey_ok, nx_iadd_16]
theorem qL_law_851 : ey F ini rt fin K0 K (decode cL_law 851) 851 L (.int i :: .ref a :: r) h cs ss = (isA (h.1 a) (fun k m => k = 0 ∧ vp_in i m) ∧ K 852 L (h.2 a i.toNatClampNeg :: r) h cs ss) := by
  rw [dL_law_851, ey_ok, nx_iaload_57]
theorem qL_law_852 : ey F ini rt fin K0 K (decode cL_law 852) 852 L (st) h cs ss = (K0 852 L st h cs ss) := by
  rw [dL_law_852, ey_ok, nx_invokevirtual_72]
theorem qL_law_855 : ey F ini rt fin K0 K (decode cL_law 855) 855 L (.int x :: r) h cs ss = (6 < L.length ∧ K 857 (L.set 6 (some (.int x))) r h cs ss) := by
  rw [dL_law_855, ey_ok, nx_istore_4] <;> rfl
theorem qL_law_857 : ey F ini rt fin K0 K (decode cL_law 857) 857 L (st) h cs ss = (lhas L 2 ∧ isRf (lgt L 2) ∧ K 858 L (lgt L 2 :: st) h cs ss) := by
  rw [dL_law_857, ey_ok, nx_aload_n_3] <;> rfl
theorem qL_law_858 : ey F ini rt fin K0 K (decode cL_law 858) 858 L (st) h cs ss = (K0 858 L st h cs ss) := by
  rw [dL_law_858, ey_ok, nx_invokevirtual_72]
theorem qL_law_861 : ey F ini rt fin K0 K (decode cL_law 861) 861 L (st) h cs ss = (lhas L 5 ∧ isI (lgt L 5) ∧ K 863 L (lgt L 5 :: st) h cs ss) := by
  rw [dL_law_861, ey_ok, nx_iload_0] <;> rfl
theorem qL_law_863 : ey F ini rt fin K0 K (decode cL_law 863) 863 L (.int y :: .int x :: r) h cs ss = (if x = y then K 868 L r h cs ss else K 866 L r h cs ss) := by
  rw [dL_law_863, ey_ok, nx_if_icmp_36]
  exact and_l (by unfold jok; decide)
theorem qL_law_866 : ey F ini rt fin K0 K (decode cL_law 866) 866 L (st) h cs ss = (K 867 L (.int 0 :: st) h cs ss) := by
  rw [dL_law_866, ey_ok, nx_iconst_11] <;> rfl
theorem qL_law_867 : ey F ini rt fin K0 K (decode cL_law 867) 867 L ([.int x]) h cs ss = (rokI rt x ∧ fin (some (.int x)) h cs ss) := by
  rw [dL_law_867, ey_ok, nx_ireturn_68]
theorem qL_law_868 : ey F ini rt fin K0 K (decode cL_law 868) 868 L (st) h cs ss = (lhas L 5 ∧ isI (lgt L 5) ∧ K 870 L (lgt L 5 :: st) h cs ss) := by
  rw [dL_law_868, ey_ok, nx_iload_0] <;> rfl
theorem qL_law_870 : ey F ini rt fin K0 K (decode cL_law 870) 870 L (.int x :: r) h cs ss = (if ¬ x = 0 then K 885 L r h cs ss else K 873 L r h cs ss) := by
  rw [dL_law_870, ey_ok, nx_ifond_31]
  exact and_l (by unfold jok; decide)
theorem qL_law_873 : ey F ini rt fin K0 K (decode cL_law 873) 873 L (st) h cs ss = (lhas L 3 ∧ isRf (lgt L 3) ∧ K 874 L (lgt L 3 :: st) h cs ss) := by
  rw [dL_law_873, ey_ok, nx_aload_n_3] <;> rfl
theorem qL_law_874 : ey F ini rt fin K0 K (decode cL_law 874) 874 L (st) h cs ss = (K 875 L (.int 0 :: st) h cs ss) := by
  rw [dL_law_874, ey_ok, nx_iconst_11] <;> rfl
theorem qL_law_875 : ey F ini rt fin K0 K (decode cL_law 875) 875 L (.int i :: .ref a :: r) h cs ss = (isA (h.1 a) (fun k m => k = 3 ∧ vp_in i m) ∧ K 876 L (h.2 a i.toNatClampNeg :: r) h cs ss) := by
  rw [dL_law_875, ey_ok, nx_laload_60]
theorem qL_law_876 : ey F ini rt fin K0 K (decode cL_law 876) 876 L (st) h cs ss = (lhas L 6 ∧ isI (lgt L 6) ∧ K 878 L (lgt L 6 :: st) h cs ss) := by
  rw [dL_law_876, ey_ok, nx_iload_0] <;> rfl
theorem qL_law_878 : ey F ini rt fin K0 K (decode cL_law 878) 878 L (.int x :: r) h cs ss = (K 879 L (.long x.toInt64 :: r) h cs ss) := by
  rw [dL_law_878, ey_ok, nx_i2l_24]
theorem qL_law_879 : ey F ini rt fin K0 K (decode cL_law 879) 879 L (.long ly :: .long lx :: r) h cs ss = (K 880 L (.int (lg_cmp lx ly) :: r) h cs ss) := by
  rw [dL_law_879, ey_ok, nx_lcmp_26]
theorem qL_law_880 : ey F ini rt fin K0 K (decode cL_law 880) 880 L (.int x :: r) h cs ss = (if x = 0 then K 885 L r h cs ss else K 883 L r h cs ss) := by
  rw [dL_law_880, ey_ok, nx_ifond_30]
  exact and_l (by unfold jok; decide)
theorem qL_law_883 : ey F ini rt fin K0 K (decode cL_law 883) 883 L (st) h cs ss = (K 884 L (.int 0 :: st) h cs ss) := by
  rw [dL_law_883, ey_ok, nx_iconst_11] <;> rfl
theorem qL_law_884 : ey F ini rt fin K0 K (decode cL_law 884) 884 L ([.int x]) h cs ss = (rokI rt x ∧ fin (some (.int x)) h cs ss) := by
  rw [dL_law_884, ey_ok, nx_ireturn_68]
theorem qL_law_885 : ey F ini rt fin K0 K (decode cL_law 885) 885 L (st) h cs ss = (K 1629 L st h cs ss) := by
  rw [dL_law_885, ey_ok, nx_goto_29]
  exact and_l (by unfold jok; decide)
theorem qL_law_888 : ey F ini rt fin K0 K (decode cL_law 888) 888 L (st) h cs ss = (lhas L 1 ∧ isRf (lgt L 1) ∧ K 889 L (lgt L 1 :: st) h cs ss) := by
  rw [dL_law_888, ey_ok, nx_aload_n_3] <;> rfl
theorem qL_law_889 : ey F ini rt fin K0 K (decode cL_law 889) 889 L (st) h cs ss = (lhas L 0 ∧ isRf (lgt L 0) ∧ K 890 L (lgt L 0 :: st) h cs ss) := by
  rw [dL_law_889, ey_ok, nx_aload_n_3] <;> rfl
theorem qL_law_890 : ey F ini rt fin K0 K (decode cL_law 890) 890 L (st) h cs ss = (lhas L 4 ∧ isI (lgt L 4) ∧ K 892 L (lgt L 4 :: st) h cs ss) := by
  rw [dL_law_890, ey_ok, nx_iload_0] <;> rfl
theorem qL_law_892 : ey F ini rt fin K0 K (decode cL_law 892) 892 L (st) h cs ss = (K 893 L (.int 1 :: st) h cs ss) := by
  rw [dL_law_892, ey_ok, nx_iconst_11] <;> rfl
theorem qL_law_893 : ey F ini rt fin K0 K (decode cL_law 893) 893 L (.int y :: .int x :: r) h cs ss = (K 894 L (.int (x + y) :: r) h cs ss) := by
  rw [dL_law_893, ey_ok, nx_iadd_16]
theorem qL_law_894 : ey F ini rt fin K0 K (decode cL_law 894) 894 L (.int i :: .ref a :: r) h cs ss = (isA (h.1 a) (fun k m => k = 0 ∧ vp_in i m) ∧ K 895 L (h.2 a i.toNatClampNeg :: r) h cs ss) := by
  rw [dL_law_894, ey_ok, nx_iaload_57]
theorem qL_law_895 : ey F ini rt fin K0 K (decode cL_law 895) 895 L (st) h cs ss = (lhas L 0 ∧ isRf (lgt L 0) ∧ K 896 L (lgt L 0 :: st) h cs ss) := by
  rw [dL_law_895, ey_ok, nx_aload_n_3] <;> rfl
theorem qL_law_896 : ey F ini rt fin K0 K (decode cL_law 896) 896 L (st) h cs ss = (lhas L 4 ∧ isI (lgt L 4) ∧ K 898 L (lgt L 4 :: st) h cs ss) := by
  rw [dL_law_896, ey_ok, nx_iload_0] <;> rfl
theorem qL_law_898 : ey F ini rt fin K0 K (decode cL_law 898) 898 L (st) h cs ss = (K 899 L (.int 2 :: st) h cs ss) := by
  rw [dL_law_898, ey_ok, nx_iconst_11] <;> rfl
theorem qL_law_899 : ey F ini rt fin K0 K (decode cL_law 899) 899 L (.int y :: .int x :: r) h cs ss = (K 900 L (.int (x + y) :: r) h cs ss) := by
  rw [dL_law_899, ey_ok, nx_iadd_16]
theorem qL_law_900 : ey F ini rt fin K0 K (decode cL_law 900) 900 L (.int i :: .ref a :: r) h cs ss = (isA (h.1 a) (fun k m => k = 0 ∧ vp_in i m) ∧ K 901 L (h.2 a i.toNatClampNeg :: r) h cs ss) := by
  rw [dL_law_900, ey_ok, nx_iaload_57]
theorem qL_law_901 : ey F ini rt fin K0 K (decode cL_law 901) 901 L (st) h cs ss = (lhas L 3 ∧ isRf (lgt L 3) ∧ K 902 L (lgt L 3 :: st) h cs ss) := by
  rw [dL_law_901, ey_ok, nx_aload_n_3] <;> rfl
theorem qL_law_902 : ey F ini rt fin K0 K (decode cL_law 902) 902 L (st) h cs ss = (K0 902 L st h cs ss) := by
  rw [dL_law_902, ey_ok, nx_invokestatic_73]
theorem qL_law_905 : ey F ini rt fin K0 K (decode cL_law 905) 905 L (.int x :: r) h cs ss = (5 < L.length ∧ K 907 (L.set 5 (some (.int x))) r h cs ss) := by
  rw [dL_law_905, ey_ok, nx_istore_4] <;> rfl
theorem qL_law_907 : ey F ini rt fin K0 K (decode cL_law 907) 907 L (st) h cs ss = (lhas L 2 ∧ isRf (lgt L 2) ∧ K 908 L (lgt L 2 :: st) h cs ss) := by
  rw [dL_law_907, ey_ok, nx_aload_n_3] <;> rfl
theorem qL_law_908 : ey F ini rt fin K0 K (decode cL_law 908) 908 L (st) h cs ss = (lhas L 0 ∧ isRf (lgt L 0) ∧ K 909 L (lgt L 0 :: st) h cs ss) := by
  rw [dL_law_908, ey_ok, nx_aload_n_3] <;> rfl
theorem qL_law_909 : ey F ini rt fin K0 K (decode cL_law 909) 909 L (st) h cs ss = (lhas L 4 ∧ isI (lgt L 4) ∧ K 911 L (lgt L 4 :: st) h cs ss) := by
  rw [dL_law_909, ey_ok, nx_iload_0] <;> rfl
theorem qL_law_911 : ey F ini rt fin K0 K (decode cL_law 911) 911 L (st) h cs ss = (K 912 L (.int 1 :: st) h cs ss) := by
  rw [dL_law_911, ey_ok, nx_iconst_11] <;> rfl
theorem qL_law_912 : ey F ini rt fin K0 K (decode cL_law 912) 912 L (.int y :: .int x :: r) h cs ss = (K 913 L (.int (x + y) :: r) h cs ss) := by
  rw [dL_law_912, ey_ok, nx_iadd_16]
theorem qL_law_913 : ey F ini rt fin K0 K (decode cL_law 913) 913 L (.int i :: .ref a :: r) h cs ss = (isA (h.1 a) (fun k m => k = 0 ∧ vp_in i m) ∧ K 914 L (h.2 a i.toNatClampNeg :: r) h cs ss) := by
  rw [dL_law_913, ey_ok, nx_iaload_57]
theorem qL_law_914 : ey F ini rt fin K0 K (decode cL_law 914) 914 L (st) h cs ss = (lhas L 0 ∧ isRf (lgt L 0) ∧ K 915 L (lgt L 0 :: st) h cs ss) := by
  rw [dL_law_914, ey_ok, nx_aload_n_3] <;> rfl
theorem qL_law_915 : ey F ini rt fin K0 K (decode cL_law 915) 915 L (st) h cs ss = (lhas L 4 ∧ isI (lgt L 4) ∧ K 917 L (lgt L 4 :: st) h cs ss) := by
  rw [dL_law_915, ey_ok, nx_iload_0] <;> rfl
theorem qL_law_917 : ey F ini rt fin K0 K (decode cL_law 917) 917 L (st) h cs ss = (K 918 L (.int 2 :: st) h cs ss) := by
  rw [dL_law_917, ey_ok, nx_iconst_11] <;> rfl
theorem qL_law_918 : ey F ini rt fin K0 K (decode cL_law 918) 918 L (.int y :: .int x :: r) h cs ss = (K 919 L (.int (x + y) :: r) h cs ss) := by
  rw [dL_law_918, ey_ok, nx_iadd_16]
theorem qL_law_919 : ey F ini rt fin K0 K (decode cL_law 919) 919 L (.int i :: .ref a :: r) h cs ss = (isA (h.1 a) (fun k m => k = 0 ∧ vp_in i m) ∧ K 920 L (h.2 a i.toNatClampNeg :: r) h cs ss) := by
  rw [dL_law_919, ey_ok, nx_iaload_57]
theorem qL_law_920 : ey F ini rt fin K0 K (decode cL_law 920) 920 L (st) h cs ss = (K0 920 L st h cs ss) := by
  rw [dL_law_920, ey_ok, nx_invokevirtual_72]
theorem qL_law_923 : ey F ini rt fin K0 K (decode cL_law 923) 923 L (.int x :: r) h cs ss = (6 < L.length ∧ K 925 (L.set 6 (some (.int x))) r h cs ss) := by
  rw [dL_law_923, ey_ok, nx_istore_4] <;> rfl
theorem qL_law_925 : ey F ini rt fin K0 K (decode cL_law 925) 925 L (st) h cs ss = (lhas L 2 ∧ isRf (lgt L 2) ∧ K 926 L (lgt L 2 :: st) h cs ss) := by
  rw [dL_law_925, ey_ok, nx_aload_n_3] <;> rfl
theorem qL_law_926 : ey F ini rt fin K0 K (decode cL_law 926) 926 L (st) h cs ss = (K0 926 L st h cs ss) := by
  rw [dL_law_926, ey_ok, nx_invokevirtual_72]
theorem qL_law_929 : ey F ini rt fin K0 K (decode cL_law 929) 929 L (st) h cs ss = (lhas L 5 ∧ isI (lgt L 5) ∧ K 931 L (lgt L 5 :: st) h cs ss) := by
  rw [dL_law_929, ey_ok, nx_iload_0] <;> rfl
theorem qL_law_931 : ey F ini rt fin K0 K (decode cL_law 931) 931 L (.int y :: .int x :: r) h cs ss = (if x = y then K 936 L r h cs ss else K 934 L r h cs ss) := by
  rw [dL_law_931, ey_ok, nx_if_icmp_36]
  exact and_l (by unfold jok; decide)
theorem qL_law_934 : ey F ini rt fin K0 K (decode cL_law 934) 934 L (st) h cs ss = (K 935 L (.int 0 :: st) h cs ss) := by
  rw [dL_law_934, ey_ok, nx_iconst_11] <;> rfl
theorem qL_law_935 : ey F ini rt fin K0 K (decode cL_law 935) 935 L ([.int x]) h cs ss = (rokI rt x ∧ fin (some (.int x)) h cs ss) := by
  rw [dL_law_935, ey_ok, nx_ireturn_68]
theorem qL_law_936 : ey F ini rt fin K0 K (decode cL_law 936) 936 L (st) h cs ss = (lhas L 5 ∧ isI (lgt L 5) ∧ K 938 L (lgt L 5 :: st) h cs ss) := by
  rw [dL_law_936, ey_ok, nx_iload_0] <;> rfl
theorem qL_law_938 : ey F ini rt fin K0 K (decode cL_law 938) 938 L (.int x :: r) h cs ss = (if ¬ x = 0 then K 960 L r h cs ss else K 941 L r h cs ss) := by
  rw [dL_law_938, ey_ok, nx_ifond_31]
  exact and_l (by unfold jok; decide)
theorem qL_law_941 : ey F ini rt fin K0 K (decode cL_law 941) 941 L (st) h cs ss = (lhas L 3 ∧ isRf (lgt L 3) ∧ K 942 L (lgt L 3 :: st) h cs ss) := by
  rw [dL_law_941, ey_ok, nx_aload_n_3] <;> rfl
theorem qL_law_942 : ey F ini rt fin K0 K (decode cL_law 942) 942 L (st) h cs ss = (K 943 L (.int 0 :: st) h cs ss) := by
  rw [dL_law_942, ey_ok, nx_iconst_11] <;> rfl
theorem qL_law_943 : ey F ini rt fin K0 K (decode cL_law 943) 943 L (.int i :: .ref a :: r) h cs ss = (isA (h.1 a) (fun k m => k = 3 ∧ vp_in i m) ∧ K 944 L (h.2 a i.toNatClampNeg :: r) h cs ss) := by
  rw [dL_law_943, ey_ok, nx_laload_60]
theorem qL_law_944 : ey F ini rt fin K0 K (decode cL_law 944) 944 L (st) h cs ss = (lhas L 6 ∧ isI (lgt L 6) ∧ K 946 L (lgt L 6 :: st) h cs ss) := by
  rw [dL_law_944, ey_ok, nx_iload_0] <;> rfl
theorem qL_law_946 : ey F ini rt fin K0 K (decode cL_law 946) 946 L (.int x :: r) h cs ss = (if x = 0 then K 953 L r h cs ss else K 949 L r h cs ss) := by
  rw [dL_law_946, ey_ok, nx_ifond_30]
  exact and_l (by unfold jok; decide)
theorem qL_law_949 : ey F ini rt fin K0 K (decode cL_law 949) 949 L (st) h cs ss = (K 950 L (.long 1 :: st) h cs ss) := by
  rw [dL_law_949, ey_ok, nx_lconst_14] <;> rfl
theorem qL_law_950 : ey F ini rt fin K0 K (decode cL_law 950) 950 L (st) h cs ss = (K 954 L st h cs ss) := by
  rw [dL_law_950, ey_ok, nx_goto_29]
  exact and_l (by unfold jok; decide)
theorem qL_law_953 : ey F ini rt fin K0 K (decode cL_law 953) 953 L (st) h cs ss = (K 954 L (.long 0 :: st) h cs ss) := by
  rw [dL_law_953, ey_ok, nx_lconst_14] <;> rfl
theorem qL_law_954 : ey F ini rt fin K0 K (decode cL_law 954) 954 L (.long ly :: .long lx :: r) h cs ss = (K 955 L (.int (lg_cmp lx ly) :: r) h cs ss) := by
  rw [dL_law_954, ey_ok, nx_lcmp_26]
theorem qL_law_955 : ey F ini rt fin K0 K (decode cL_law 955) 955 L (.int x :: r) h cs ss = (if x = 0 then K 960 L r h cs ss else K 958 L r h cs ss) := by
  rw [dL_law_955, ey_ok, nx_ifond_30]
  exact and_l (by unfold jok; decide)
theorem qL_law_958 : ey F ini rt fin K0 K (decode cL_law 958) 958 L (st) h cs ss = (K 959 L (.int 0 :: st) h cs ss) := by
  rw [dL_law_958, ey_ok, nx_iconst_11] <;> rfl
theorem qL_law_959 : ey F ini rt fin K0 K (decode cL_law 959) 959 L ([.int x]) h cs ss = (rokI rt x ∧ fin (some (.int x)) h cs ss) := by
  rw [dL_law_959, ey_ok, nx_ireturn_68]
theorem qL_law_960 : ey F ini rt fin K0 K (decode cL_law 960) 960 L (st) h cs ss = (K 1629 L st h cs ss) := by
  rw [dL_law_960, ey_ok, nx_goto_29]
  exact and_l (by unfold jok; decide)
theorem qL_law_963 : ey F ini rt fin K0 K (decode cL_law 963) 963 L (st) h cs ss = (lhas L 1 ∧ isRf (lgt L 1) ∧ K 964 L (lgt L 1 :: st) h cs ss) := by
  rw [dL_law_963, ey_ok, nx_aload_n_3] <;> rfl
theorem qL_law_964 : ey F ini rt fin K0 K (decode cL_law 964) 964 L (st) h cs ss = (lhas L 0 ∧ isRf (lgt L 0) ∧ K 965 L (lgt L 0 :: st) h cs ss) := by
  rw [dL_law_964, ey_ok, nx_aload_n_3] <;> rfl
theorem qL_law_965 : ey F ini rt fin K0 K (decode cL_law 965) 965 L (st) h cs ss = (lhas L 4 ∧ isI (lgt L 4) ∧ K 967 L (lgt L 4 :: st) h cs ss) := by
  rw [dL_law_965, ey_ok, nx_iload_0] <;> rfl
theorem qL_law_967 : ey F ini rt fin K0 K (decode cL_law 967) 967 L (st) h cs ss = (K 968 L (.int 1 :: st) h cs ss) := by
  rw [dL_law_967, ey_ok, nx_iconst_11] <;> rfl
theorem qL_law_968 : ey F ini rt fin K0 K (decode cL_law 968) 968 L (.int y :: .int x :: r) h cs ss = (K 969 L (.int (x + y) :: r) h cs ss) := by
  rw [dL_law_968, ey_ok, nx_iadd_16]
theorem qL_law_969 : ey F ini rt fin K0 K (decode cL_law 969) 969 L (.int i :: .ref a :: r) h cs ss = (isA (h.1 a) (fun k m => k = 0 ∧ vp_in i m) ∧ K 970 L (h.2 a i.toNatClampNeg :: r) h cs ss) := by
  rw [dL_law_969, ey_ok, nx_iaload_57]
theorem qL_law_970 : ey F ini rt fin K0 K (decode cL_law 970) 970 L (st) h cs ss = (lhas L 0 ∧ isRf (lgt L 0) ∧ K 971 L (lgt L 0 :: st) h cs ss) := by
  rw [dL_law_970, ey_ok, nx_aload_n_3] <;> rfl
theorem qL_law_971 : ey F ini rt fin K0 K (decode cL_law 971) 971 L (st) h cs ss = (lhas L 4 ∧ isI (lgt L 4) ∧ K 973 L (lgt L 4 :: st) h cs ss) := by
  rw [dL_law_971, ey_ok, nx_iload_0] <;> rfl
theorem qL_law_973 : ey F ini rt fin K0 K (decode cL_law 973) 973 L (st) h cs ss = (K 974 L (.int 2 :: st) h cs ss) := by
  rw [dL_law_973, ey_ok, nx_iconst_11] <;> rfl
theorem qL_law_974 : ey F ini rt fin K0 K (decode cL_law 974) 974 L (.int y :: .int x :: r) h cs ss = (K 975 L (.int (x + y) :: r) h cs ss) := by
  rw [dL_law_974, ey_ok, nx_iadd_16]
theorem qL_law_975 : ey F ini rt fin K0 K (decode cL_law 975) 975 L (.int i :: .ref a :: r) h cs ss = (isA (h.1 a) (fun k m => k = 0 ∧ vp_in i m) ∧ K 976 L (h.2 a i.toNatClampNeg :: r) h cs ss) := by
  rw [dL_law_975, ey_ok, nx_iaload_57]
theorem qL_law_976 : ey F ini rt fin K0 K (decode cL_law 976) 976 L (st) h cs ss = (lhas L 3 ∧ isRf (lgt L 3) ∧ K 977 L (lgt L 3 :: st) h cs ss) := by
  rw [dL_law_976, ey_ok, nx_aload_n_3] <;> rfl
theorem qL_law_977 : ey F ini rt fin K0 K (decode cL_law 977) 977 L (st) h cs ss = (K0 977 L st h cs ss) := by
  rw [dL_law_977, ey_ok, nx_invokestatic_73]
theorem qL_law_980 : ey F ini rt fin K0 K (decode cL_law 980) 980 L (.int x :: r) h cs ss = (5 < L.length ∧ K 982 (L.set 5 (some (.int x))) r h cs ss) := by
  rw [dL_law_980, ey_ok, nx_istore_4] <;> rfl
theorem qL_law_982 : ey F ini rt fin K0 K (decode cL_law 982) 982 L (st) h cs ss = (lhas L 2 ∧ isRf (lgt L 2) ∧ K 983 L (lgt L 2 :: st) h cs ss) := by
  rw [dL_law_982, ey_ok, nx_aload_n_3] <;> rfl
theorem qL_law_983 : ey F ini rt fin K0 K (decode cL_law 983) 983 L (st) h cs ss = (lhas L 0 ∧ isRf (lgt L 0) ∧ K 984 L (lgt L 0 :: st) h cs ss) := by
  rw [dL_law_983, ey_ok, nx_aload_n_3] <;> rfl
theorem qL_law_984 : ey F ini rt fin K0 K (decode cL_law 984) 984 L (st) h cs ss = (lhas L 4 ∧ isI (lgt L 4) ∧ K 986 L (lgt L 4 :: st) h cs ss) := by
  rw [dL_law_984, ey_ok, nx_iload_0] <;> rfl
theorem qL_law_986 : ey F ini rt fin K0 K (decode cL_law 986) 986 L (st) h cs ss = (K 987 L (.int 1 :: st) h cs ss) := by
  rw [dL_law_986, ey_ok, nx_iconst_11] <;> rfl
theorem qL_law_987 : ey F ini rt fin K0 K (decode cL_law 987) 987 L (.int y :: .int x :: r) h cs ss = (K 988 L (.int (x + y) :: r) h cs ss) := by
  rw [dL_law_987, ey_ok, nx_iadd_16]
theorem qL_law_988 : ey F ini rt fin K0 K (decode cL_law 988) 988 L (.int i :: .ref a :: r) h cs ss = (isA (h.1 a) (fun k m => k = 0 ∧ vp_in i m) ∧ K 989 L (h.2 a i.toNatClampNeg :: r) h cs ss) := by
  rw [dL_law_988, ey_ok, nx_iaload_57]
theorem qL_law_989 : ey F ini rt fin K0 K (decode cL_law 989) 989 L (st) h cs ss = (lhas L 0 ∧ isRf (lgt L 0) ∧ K 990 L (lgt L 0 :: st) h cs ss) := by
  rw [dL_law_989, ey_ok, nx_aload_n_3] <;> rfl
theorem qL_law_990 : ey F ini rt fin K0 K (decode cL_law 990) 990 L (st) h cs ss = (lhas L 4 ∧ isI (lgt L 4) ∧ K 992 L (lgt L 4 :: st) h cs ss) := by
  rw [dL_law_990, ey_ok, nx_iload_0] <;> rfl
theorem qL_law_992 : ey F ini rt fin K0 K (decode cL_law 992) 992 L (st) h cs ss = (K 993 L (.int 2 :: st) h cs ss) := by
  rw [dL_law_992, ey_ok, nx_iconst_11] <;> rfl
theorem qL_law_993 : ey F ini rt fin K0 K (decode cL_law 993) 993 L (.int y :: .int x :: r) h cs ss = (K 994 L (.int (x + y) :: r) h cs ss) := by
  rw [dL_law_993, ey_ok, nx_iadd_16]
theorem qL_law_994 : ey F ini rt fin K0 K (decode cL_law 994) 994 L (.int i :: .ref a :: r) h cs ss = (isA (h.1 a) (fun k m => k = 0 ∧ vp_in i m) ∧ K 995 L (h.2 a i.toNatClampNeg :: r) h cs ss) := by
  rw [dL_law_994, ey_ok, nx_iaload_57]
theorem qL_law_995 : ey F ini rt fin K0 K (decode cL_law 995) 995 L (st) h cs ss = (K0 995 L st h cs ss) := by
  rw [dL_law_995, ey_ok, nx_invokevirtual_72]
theorem qL_law_998 : ey F ini rt fin K0 K (decode cL_law 998) 998 L (.int x :: r) h cs ss = (6 < L.length ∧ K 1000 (L.set 6 (some (.int x))) r h cs ss) := by
  rw [dL_law_998, ey_ok, nx_istore_4] <;> rfl
theorem qL_law_1000 : ey F ini rt fin K0 K (decode cL_law 1000) 1000 L (st) h cs ss = (lhas L 2 ∧ isRf (lgt L 2) ∧ K 1001 L (lgt L 2 :: st) h cs ss) := by
  rw [dL_law_1000, ey_ok, nx_aload_n_3] <;> rfl
theorem qL_law_1001 : ey F ini rt fin K0 K (decode cL_law 1001) 1001 L (st) h cs ss = (K0 1001 L st h cs ss) := by
  rw [dL_law_1001, ey_ok, nx_invokevirtual_72]
theorem qL_law_1004 : ey F ini rt fin K0 K (decode cL_law 1004) 1004 L (st) h cs ss = (lhas L 5 ∧ isI (lgt L 5) ∧ K 1006 L (lgt L 5 :: st) h cs ss) := by
  rw [dL_law_1004, ey_ok, nx_iload_0] <;> rfl
theorem qL_law_1006 : ey F ini rt fin K0 K (decode cL_law 1006) 1006 L (.int y :: .int x :: r) h cs ss = (if x = y then K 1011 L r h cs ss else K 1009 L r h cs ss) := by
  rw [dL_law_1006, ey_ok, nx_if_icmp_36]
  exact and_l (by unfold jok; decide)
theorem qL_law_1009 : ey F ini rt fin K0 K (decode cL_law 1009) 1009 L (st) h cs ss = (K 1010 L (.int 0 :: st) h cs ss) := by
  rw [dL_law_1009, ey_ok, nx_iconst_11] <;> rfl
theorem qL_law_1010 : ey F ini rt fin K0 K (decode cL_law 1010) 1010 L ([.int x]) h cs ss = (rokI rt x ∧ fin (some (.int x)) h cs ss) := by
  rw [dL_law_1010, ey_ok, nx_ireturn_68]
theorem qL_law_1011 : ey F ini rt fin K0 K (decode cL_law 1011) 1011 L (st) h cs ss = (lhas L 5 ∧ isI (lgt L 5) ∧ K 1013 L (lgt L 5 :: st) h cs ss) := by
  rw [dL_law_1011, ey_ok, nx_iload_0] <;> rfl
theorem qL_law_1013 : ey F ini rt fin K0 K (decode cL_law 1013) 1013 L (.int x :: r) h cs ss = (if ¬ x = 0 then K 1028 L r h cs ss else K 1016 L r h cs ss) := by
  rw [dL_law_1013, ey_ok, nx_ifond_31]
  exact and_l (by unfold jok; decide)
theorem qL_law_1016 : ey F ini rt fin K0 K (decode cL_law 1016) 1016 L (st) h cs ss = (lhas L 3 ∧ isRf (lgt L 3) ∧ K 1017 L (lgt L 3 :: st) h cs ss) := by
  rw [dL_law_1016, ey_ok, nx_aload_n_3] <;> rfl
theorem qL_law_1017 : ey F ini rt fin K0 K (decode cL_law 1017) 1017 L (st) h cs ss = (K 1018 L (.int 0 :: st) h cs ss) := by
  rw [dL_law_1017, ey_ok, nx_iconst_11] <;> rfl
theorem qL_law_1018 : ey F ini rt fin K0 K (decode cL_law 1018) 1018 L (.int i :: .ref a :: r) h cs ss = (isA (h.1 a) (fun k m => k = 3 ∧ vp_in i m) ∧ K 1019 L (h.2 a i.toNatClampNeg :: r) h cs ss) := by
  rw [dL_law_1018, ey_ok, nx_laload_60]
theorem qL_law_1019 : ey F ini rt fin K0 K (decode cL_law 1019) 1019 L (st) h cs ss = (lhas L 6 ∧ isI (lgt L 6) ∧ K 1021 L (lgt L 6 :: st) h cs ss) := by
  rw [dL_law_1019, ey_ok, nx_iload_0] <;> rfl
theorem qL_law_1021 : ey F ini rt fin K0 K (decode cL_law 1021) 1021 L (.int x :: r) h cs ss = (K 1022 L (.long x.toInt64 :: r) h cs ss) := by
  rw [dL_law_1021, ey_ok, nx_i2l_24]
theorem qL_law_1022 : ey F ini rt fin K0 K (decode cL_law 1022) 1022 L (.long ly :: .long lx :: r) h cs ss = (K 1023 L (.int (lg_cmp lx ly) :: r) h cs ss) := by
  rw [dL_law_1022, ey_ok, nx_lcmp_26]
theorem qL_law_1023 : ey F ini rt fin K0 K (decode cL_law 1023) 1023 L (.int x :: r) h cs ss = (if x = 0 then K 1028 L r h cs ss else K 1026 L r h cs ss) := by
  rw [dL_law_1023, ey_ok, nx_ifond_30]
  exact and_l (by unfold jok; decide)
theorem qL_law_1026 : ey F ini rt fin K0 K (decode cL_law 1026) 1026 L (st) h cs ss = (K 1027 L (.int 0 :: st) h cs ss) := by
  rw [dL_law_1026, ey_ok, nx_iconst_11] <;> rfl
theorem qL_law_1027 : ey F ini rt fin K0 K (decode cL_law 1027) 1027 L ([.int x]) h cs ss = (rokI rt x ∧ fin (some (.int x)) h cs ss) := by
  rw [dL_law_1027, ey_ok, nx_ireturn_68]
theorem qL_law_1028 : ey F ini rt fin K0 K (decode cL_law 1028) 1028 L (st) h cs ss = (K 1629 L st h cs ss) := by
  rw [dL_law_1028, ey_ok, nx_goto_29]
  exact and_l (by unfold jok; decide)
theorem qL_law_1031 : ey F ini rt fin K0 K (decode cL_law 1031) 1031 L (st) h cs ss = (lhas L 1 ∧ isRf (lgt L 1) ∧ K 1032 L (lgt L 1 :: st) h cs ss) := by
  rw [dL_law_1031, ey_ok, nx_aload_n_3] <;> rfl
theorem qL_law_1032 : ey F ini rt fin K0 K (decode cL_law 1032) 1032 L (st) h cs ss = (K0 1032 L st h cs ss) := by
  rw [dL_law_1032, ey_ok, nx_invokevirtual_72]
theorem qL_law_1035 : ey F ini rt fin K0 K (decode cL_law 1035) 1035 L (st) h cs ss = (lhas L 2 ∧ isRf (lgt L 2) ∧ K 1036 L (lgt L 2 :: st) h cs ss) := by
  rw [dL_law_1035, ey_ok, nx_aload_n_3] <;> rfl
theorem qL_law_1036 : ey F ini rt fin K0 K (decode cL_law 1036) 1036 L (st) h cs ss = (K0 1036 L st h cs ss) := by
  rw [dL_law_1036, ey_ok, nx_invokevirtual_72]
theorem qL_law_1039 : ey F ini rt fin K0 K (decode cL_law 1039) 1039 L (.int y :: .int x :: r) h cs ss = (if x = y then K 1629 L r h cs ss else K 1042 L r h cs ss) := by
  rw [dL_law_1039, ey_ok, nx_if_icmp_36]
  exact and_l (by unfold jok; decide)
theorem qL_law_1042 : ey F ini rt fin K0 K (decode cL_law 1042) 1042 L (st) h cs ss = (K 1043 L (.int 0 :: st) h cs ss) := by
  rw [dL_law_1042, ey_ok, nx_iconst_11] <;> rfl
theorem qL_law_1043 : ey F ini rt fin K0 K (decode cL_law 1043) 1043 L ([.int x]) h cs ss = (rokI rt x ∧ fin (some (.int x)) h cs ss) := by
  rw [dL_law_1043, ey_ok, nx_ireturn_68]
theorem qL_law_1044 : ey F ini rt fin K0 K (decode cL_law 1044) 1044 L (st) h cs ss = (lhas L 1 ∧ isRf (lgt L 1) ∧ K 1045 L (lgt L 1 :: st) h cs ss) := by
  rw [dL_law_1044, ey_ok, nx_aload_n_3] <;> rfl
theorem qL_law_1045 : ey F ini rt fin K0 K (decode cL_law 1045) 1045 L (st) h cs ss = (lhas L 0 ∧ isRf (lgt L 0) ∧ K 1046 L (lgt L 0 :: st) h cs ss) := by
  rw [dL_law_1045, ey_ok, nx_aload_n_3] <;> rfl
theorem qL_law_1046 : ey F ini rt fin K0 K (decode cL_law 1046) 1046 L (st) h cs ss = (lhas L 4 ∧ isI (lgt L 4) ∧ K 1048 L (lgt L 4 :: st) h cs ss) := by
  rw [dL_law_1046, ey_ok, nx_iload_0] <;> rfl
theorem qL_law_1048 : ey F ini rt fin K0 K (decode cL_law 1048) 1048 L (st) h cs ss = (K 1049 L (.int 1 :: st) h cs ss) := by
  rw [dL_law_1048, ey_ok, nx_iconst_11] <;> rfl
theorem qL_law_1049 : ey F ini rt fin K0 K (decode cL_law 1049) 1049 L (.int y :: .int x :: r) h cs ss = (K 1050 L (.int (x + y) :: r) h cs ss) := by
  rw [dL_law_1049, ey_ok, nx_iadd_16]
theorem qL_law_1050 : ey F ini rt fin K0 K (decode cL_law 1050) 1050 L (.int i :: .ref a :: r) h cs ss = (isA (h.1 a) (fun k m => k = 0 ∧ vp_in i m) ∧ K 1051 L (h.2 a i.toNatClampNeg :: r) h cs ss) := by
  rw [dL_law_1050, ey_ok, nx_iaload_57]
theorem qL_law_1051 : ey F ini rt fin K0 K (decode cL_law 1051) 1051 L (st) h cs ss = (lhas L 3 ∧ isRf (lgt L 3) ∧ K 1052 L (lgt L 3 :: st) h cs ss) := by
  rw [dL_law_1051, ey_ok, nx_aload_n_3] <;> rfl
theorem qL_law_1052 : ey F ini rt fin K0 K (decode cL_law 1052) 1052 L (st) h cs ss = (K0 1052 L st h cs ss) := by
  rw [dL_law_1052, ey_ok, nx_invokestatic_73]
theorem qL_law_1055 : ey F ini rt fin K0 K (decode cL_law 1055) 1055 L (.int x :: r) h cs ss = (5 < L.length ∧ K 1057 (L.set 5 (some (.int x))) r h cs ss) := by
  rw [dL_law_1055, ey_ok, nx_istore_4] <;> rfl
theorem qL_law_1057 : ey F ini rt fin K0 K (decode cL_law 1057) 1057 L (st) h cs ss = (lhas L 2 ∧ isRf (lgt L 2) ∧ K 1058 L (lgt L 2 :: st) h cs ss) := by
  rw [dL_law_1057, ey_ok, nx_aload_n_3] <;> rfl
theorem qL_law_1058 : ey F ini rt fin K0 K (decode cL_law 1058) 1058 L (st) h cs ss = (lhas L 0 ∧ isRf (lgt L 0) ∧ K 1059 L (lgt L 0 :: st) h cs ss) := by
  rw [dL_law_1058, ey_ok, nx_aload_n_3] <;> rfl
theorem qL_law_1059 : ey F ini rt fin K0 K (decode cL_law 1059) 1059 L (st) h cs ss = (lhas L 4 ∧ isI (lgt L 4) ∧ K 1061 L (lgt L 4 :: st) h cs ss) := by
  rw [dL_law_1059, ey_ok, nx_iload_0] <;> rfl
theorem qL_law_1061 : ey F ini rt fin K0 K (decode cL_law 1061) 1061 L (st) h cs ss = (K 1062 L (.int 1 :: st) h cs ss) := by
  rw [dL_law_1061, ey_ok, nx_iconst_11] <;> rfl
theorem qL_law_1062 : ey F ini rt fin K0 K (decode cL_law 1062) 1062 L (.int y :: .int x :: r) h cs ss = (K 1063 L (.int (x + y) :: r) h cs ss) := by
  rw [dL_law_1062, ey_ok, nx_iadd_16]
theorem qL_law_1063 : ey F ini rt fin K0 K (decode cL_law 1063) 1063 L (.int i :: .ref a :: r) h cs ss = (isA (h.1 a) (fun k m => k = 0 ∧ vp_in i m) ∧ K 1064 L (h.2 a i.toNatClampNeg :: r) h cs ss) := by
  rw [dL_law_1063, ey_ok, nx_iaload_57]
theorem qL_law_1064 : ey F ini rt fin K0 K (decode cL_law 1064) 1064 L (st) h cs ss = (K0 1064 L st h cs ss) := by
  rw [dL_law_1064, ey_ok, nx_invokevirtual_72]
theorem qL_law_1067 : ey F ini rt fin K0 K (decode cL_law 1067) 1067 L (.int x :: r) h cs ss = (6 < L.length ∧ K 1069 (L.set 6 (some (.int x))) r h cs ss) := by
  rw [dL_law_1067, ey_ok, nx_istore_4] <;> rfl
theorem qL_law_1069 : ey F ini rt fin K0 K (decode cL_law 1069) 1069 L (st) h cs ss = (lhas L 2 ∧ isRf (lgt L 2) ∧ K 1070 L (lgt L 2 :: st) h cs ss) := by
  rw [dL_law_1069, ey_ok, nx_aload_n_3] <;> rfl
theorem qL_law_1070 : ey F ini rt fin K0 K (decode cL_law 1070) 1070 L (st) h cs ss = (K0 1070 L st h cs ss) := by
  rw [dL_law_1070, ey_ok, nx_invokevirtual_72]
theorem qL_law_1073 : ey F ini rt fin K0 K (decode cL_law 1073) 1073 L (st) h cs ss = (lhas L 5 ∧ isI (lgt L 5) ∧ K 1075 L (lgt L 5 :: st) h cs ss) := by
  rw [dL_law_1073, ey_ok, nx_iload_0] <;> rfl
theorem qL_law_1075 : ey F ini rt fin K0 K (decode cL_law 1075) 1075 L (.int y :: .int x :: r) h cs ss = (if x = y then K 1080 L r h cs ss else K 1078 L r h cs ss) := by
  rw [dL_law_1075, ey_ok, nx_if_icmp_36]
  exact and_l (by unfold jok; decide)
theorem qL_law_1078 : ey F ini rt fin K0 K (decode cL_law 1078) 1078 L (st) h cs ss = (K 1079 L (.int 0 :: st) h cs ss) := by
  rw [dL_law_1078, ey_ok, nx_iconst_11] <;> rfl
theorem qL_law_1079 : ey F ini rt fin K0 K (decode cL_law 1079) 1079 L ([.int x]) h cs ss = (rokI rt x ∧ fin (some (.int x)) h cs ss) := by
  rw [dL_law_1079, ey_ok, nx_ireturn_68]
theorem qL_law_1080 : ey F ini rt fin K0 K (decode cL_law 1080) 1080 L (st) h cs ss = (lhas L 5 ∧ isI (lgt L 5) ∧ K 1082 L (lgt L 5 :: st) h cs ss) := by
  rw [dL_law_1080, ey_ok, nx_iload_0] <;> rfl
theorem qL_law_1082 : ey F ini rt fin K0 K (decode cL_law 1082) 1082 L (.int x :: r) h cs ss = (if ¬ x = 0 then K 1097 L r h cs ss else K 1085 L r h cs ss) := by
  rw [dL_law_1082, ey_ok, nx_ifond_31]
  exact and_l (by unfold jok; decide)
theorem qL_law_1085 : ey F ini rt fin K0 K (decode cL_law 1085) 1085 L (st) h cs ss = (lhas L 3 ∧ isRf (lgt L 3) ∧ K 1086 L (lgt L 3 :: st) h cs ss) := by
  rw [dL_law_1085, ey_ok, nx_aload_n_3] <;> rfl
theorem qL_law_1086 : ey F ini rt fin K0 K (decode cL_law 1086) 1086 L (st) h cs ss = (K 1087 L (.int 0 :: st) h cs ss) := by
  rw [dL_law_1086, ey_ok, nx_iconst_11] <;> rfl
theorem qL_law_1087 : ey F ini rt fin K0 K (decode cL_law 1087) 1087 L (.int i :: .ref a :: r) h cs ss = (isA (h.1 a) (fun k m => k = 3 ∧ vp_in i m) ∧ K 1088 L (h.2 a i.toNatClampNeg :: r) h cs ss) := by
  rw [dL_law_1087, ey_ok, nx_laload_60]
theorem qL_law_1088 : ey F ini rt fin K0 K (decode cL_law 1088) 1088 L (st) h cs ss = (lhas L 6 ∧ isI (lgt L 6) ∧ K 1090 L (lgt L 6 :: st) h cs ss) := by
  rw [dL_law_1088, ey_ok, nx_iload_0] <;> rfl
theorem qL_law_1090 : ey F ini rt fin K0 K (decode cL_law 1090) 1090 L (.int x :: r) h cs ss = (K 1091 L (.long x.toInt64 :: r) h cs ss) := by
  rw [dL_law_1090, ey_ok, nx_i2l_24]
theorem qL_law_1091 : ey F ini rt fin K0 K (decode cL_law 1091) 1091 L (.long ly :: .long lx :: r) h cs ss = (K 1092 L (.int (lg_cmp lx ly) :: r) h cs ss) := by
  rw [dL_law_1091, ey_ok, nx_lcmp_26]
theorem qL_law_1092 : ey F ini rt fin K0 K (decode cL_law 1092) 1092 L (.int x :: r) h cs ss = (if x = 0 then K 1097 L r h cs ss else K 1095 L r h cs ss) := by
  rw [dL_law_1092, ey_ok, nx_ifond_30]
  exact and_l (by unfold jok; decide)
theorem qL_law_1095 : ey F ini rt fin K0 K (decode cL_law 1095) 1095 L (st) h cs ss = (K 1096 L (.int 0 :: st) h cs ss) := by
  rw [dL_law_1095, ey_ok, nx_iconst_11] <;> rfl
theorem qL_law_1096 : ey F ini rt fin K0 K (decode cL_law 1096) 1096 L ([.int x]) h cs ss = (rokI rt x ∧ fin (some (.int x)) h cs ss) := by
  rw [dL_law_1096, ey_ok, nx_ireturn_68]
theorem qL_law_1097 : ey F ini rt fin K0 K (decode cL_law 1097) 1097 L (st) h cs ss = (K 1629 L st h cs ss) := by
  rw [dL_law_1097, ey_ok, nx_goto_29]
  exact and_l (by unfold jok; decide)
theorem qL_law_1100 : ey F ini rt fin K0 K (decode cL_law 1100) 1100 L (st) h cs ss = (lhas L 1 ∧ isRf (lgt L 1) ∧ K 1101 L (lgt L 1 :: st) h cs ss) := by
  rw [dL_law_1100, ey_ok, nx_aload_n_3] <;> rfl
theorem qL_law_1101 : ey F ini rt fin K0 K (decode cL_law 1101) 1101 L (st) h cs ss = (lhas L 0 ∧ isRf (lgt L 0) ∧ K 1102 L (lgt L 0 :: st) h cs ss) := by
  rw [dL_law_1101, ey_ok, nx_aload_n_3] <;> rfl
theorem qL_law_1102 : ey F ini rt fin K0 K (decode cL_law 1102) 1102 L (st) h cs ss = (lhas L 4 ∧ isI (lgt L 4) ∧ K 1104 L (lgt L 4 :: st) h cs ss) := by
  rw [dL_law_1102, ey_ok, nx_iload_0] <;> rfl
theorem qL_law_1104 : ey F ini rt fin K0 K (decode cL_law 1104) 1104 L (st) h cs ss = (K 1105 L (.int 1 :: st) h cs ss) := by
  rw [dL_law_1104, ey_ok, nx_iconst_11] <;> rfl
theorem qL_law_1105 : ey F ini rt fin K0 K (decode cL_law 1105) 1105 L (.int y :: .int x :: r) h cs ss = (K 1106 L (.int (x + y) :: r) h cs ss) := by
  rw [dL_law_1105, ey_ok, nx_iadd_16]
theorem qL_law_1106 : ey F ini rt fin K0 K (decode cL_law 1106) 1106 L (.int i :: .ref a :: r) h cs ss = (isA (h.1 a) (fun k m => k = 0 ∧ vp_in i m) ∧ K 1107 L (h.2 a i.toNatClampNeg :: r) h cs ss) := by
  rw [dL_law_1106, ey_ok, nx_iaload_57]
theorem qL_law_1107 : ey F ini rt fin K0 K (decode cL_law 1107) 1107 L (st) h cs ss = (lhas L 3 ∧ isRf (lgt L 3) ∧ K 1108 L (lgt L 3 :: st) h cs ss) := by
  rw [dL_law_1107, ey_ok, nx_aload_n_3] <;> rfl
theorem qL_law_1108 : ey F ini rt fin K0 K (decode cL_law 1108) 1108 L (st) h cs ss = (K0 1108 L st h cs ss) := by
  rw [dL_law_1108, ey_ok, nx_invokestatic_73]
theorem qL_law_1111 : ey F ini rt fin K0 K (decode cL_law 1111) 1111 L (.int x :: r) h cs ss = (5 < L.length ∧ K 1113 (L.set 5 (some (.int x))) r h cs ss) := by
  rw [dL_law_1111, ey_ok, nx_istore_4] <;> rfl
theorem qL_law_1113 : ey F ini rt fin K0 K (decode cL_law 1113) 1113 L (st) h cs ss = (lhas L 2 ∧ isRf (lgt L 2) ∧ K 1114 L (lgt L 2 :: st) h cs ss) := by
  rw [dL_law_1113, ey_ok, nx_aload_n_3] <;> rfl
theorem qL_law_1114 : ey F ini rt fin K0 K (decode cL_law 1114) 1114 L (st) h cs ss = (lhas L 0 ∧ isRf (lgt L 0) ∧ K 1115 L (lgt L 0 :: st) h cs ss) := by
  rw [dL_law_1114, ey_ok, nx_aload_n_3] <;> rfl
theorem qL_law_1115 : ey F ini rt fin K0 K (decode cL_law 1115) 1115 L (st) h cs ss = (lhas L 4 ∧ isI (lgt L 4) ∧ K 1117 L (lgt L 4 :: st) h cs ss) := by
  rw [dL_law_1115, ey_ok, nx_iload_0] <;> rfl
theorem qL_law_1117 : ey F ini rt fin K0 K (decode cL_law 1117) 1117 L (st) h cs ss = (K 1118 L (.int 1 :: st) h cs ss) := by
  rw [dL_law_1117, ey_ok, nx_iconst_11] <;> rfl
theorem qL_law_1118 : ey F ini rt fin K0 K (decode cL_law 1118) 1118 L (.int y :: .int x :: r) h cs ss = (K 1119 L (.int (x + y) :: r) h cs ss) := by
  rw [dL_law_1118, ey_ok, nx_iadd_16]
theorem qL_law_1119 : ey F ini rt fin K0 K (decode cL_law 1119) 1119 L (.int i :: .ref a :: r) h cs ss = (isA (h.1 a) (fun k m => k = 0 ∧ vp_in i m) ∧ K 1120 L (h.2 a i.toNatClampNeg :: r) h cs ss) := by
  rw [dL_law_1119, ey_ok, nx_iaload_57]
theorem qL_law_1120 : ey F ini rt fin K0 K (decode cL_law 1120) 1120 L (st) h cs ss = (K0 1120 L st h cs ss) := by
  rw [dL_law_1120, ey_ok, nx_invokevirtual_72]
theorem qL_law_1123 : ey F ini rt fin K0 K (decode cL_law 1123) 1123 L (.int x :: r) h cs ss = (6 < L.length ∧ K 1125 (L.set 6 (some (.int x))) r h cs ss) := by
  rw [dL_law_1123, ey_ok, nx_istore_4] <;> rfl
theorem qL_law_1125 : ey F ini rt fin K0 K (decode cL_law 1125) 1125 L (st) h cs ss = (lhas L 2 ∧ isRf (lgt L 2) ∧ K 1126 L (lgt L 2 :: st) h cs ss) := by
  rw [dL_law_1125, ey_ok, nx_aload_n_3] <;> rfl
theorem qL_law_1126 : ey F ini rt fin K0 K (decode cL_law 1126) 1126 L (st) h cs ss = (K0 1126 L st h cs ss) := by
  rw [dL_law_1126, ey_ok, nx_invokevirtual_72]
theorem qL_law_1129 : ey F ini rt fin K0 K (decode cL_law 1129) 1129 L (st) h cs ss = (lhas L 5 ∧ isI (lgt L 5) ∧ K 1131 L (lgt L 5 :: st) h cs ss) := by
  rw [dL_law_1129, ey_ok, nx_iload_0] <;> rfl
theorem qL_law_1131 : ey F ini rt fin K0 K (decode cL_law 1131) 1131 L (.int y :: .int x :: r) h cs ss = (if x = y then K 1136 L r h cs ss else K 1134 L r h cs ss) := by
  rw [dL_law_1131, ey_ok, nx_if_icmp_36]
  exact and_l (by unfold jok; decide)
theorem qL_law_1134 : ey F ini rt fin K0 K (decode cL_law 1134) 1134 L (st) h cs ss = (K 1135 L (.int 0 :: st) h cs ss) := by
  rw [dL_law_1134, ey_ok, nx_iconst_11] <;> rfl
theorem qL_law_1135 : ey F ini rt fin K0 K (decode cL_law 1135) 1135 L ([.int x]) h cs ss = (rokI rt x ∧ fin (some (.int x)) h cs ss) := by
  rw [dL_law_1135, ey_ok, nx_ireturn_68]
theorem qL_law_1136 : ey F ini rt fin K0 K (decode cL_law 1136) 1136 L (st) h cs ss = (lhas L 5 ∧ isI (lgt L 5) ∧ K 1138 L (lgt L 5 :: st) h cs ss) := by
  rw [dL_law_1136, ey_ok, nx_iload_0] <;> rfl
theorem qL_law_1138 : ey F ini rt fin K0 K (decode cL_law 1138) 1138 L (.int x :: r) h cs ss = (if ¬ x = 0 then K 1153 L r h cs ss else K 1141 L r h cs ss) := by
  rw [dL_law_1138, ey_ok, nx_ifond_31]
  exact and_l (by unfold jok; decide)
theorem qL_law_1141 : ey F ini rt fin K0 K (decode cL_law 1141) 1141 L (st) h cs ss = (lhas L 3 ∧ isRf (lgt L 3) ∧ K 1142 L (lgt L 3 :: st) h cs ss) := by
  rw [dL_law_1141, ey_ok, nx_aload_n_3] <;> rfl
theorem qL_law_1142 : ey F ini rt fin K0 K (decode cL_law 1142) 1142 L (st) h cs ss = (K 1143 L (.int 0 :: st) h cs ss) := by
  rw [dL_law_1142, ey_ok, nx_iconst_11] <;> rfl
theorem qL_law_1143 : ey F ini rt fin K0 K (decode cL_law 1143) 1143 L (.int i :: .ref a :: r) h cs ss = (isA (h.1 a) (fun k m => k = 3 ∧ vp_in i m) ∧ K 1144 L (h.2 a i.toNatClampNeg :: r) h cs ss) := by
  rw [dL_law_1143, ey_ok, nx_laload_60]
theorem qL_law_1144 : ey F ini rt fin K0 K (decode cL_law 1144) 1144 L (st) h cs ss = (lhas L 6 ∧ isI (lgt L 6) ∧ K 1146 L (lgt L 6 :: st) h cs ss) := by
  rw [dL_law_1144, ey_ok, nx_iload_0] <;> rfl
theorem qL_law_1146 : ey F ini rt fin K0 K (decode cL_law 1146) 1146 L (.int x :: r) h cs ss = (K 1147 L (.long x.toInt64 :: r) h cs ss) := by
  rw [dL_law_1146, ey_ok, nx_i2l_24]
theorem qL_law_1147 : ey F ini rt fin K0 K (decode cL_law 1147) 1147 L (.long ly :: .long lx :: r) h cs ss = (K 1148 L (.int (lg_cmp lx ly) :: r) h cs ss) := by
  rw [dL_law_1147, ey_ok, nx_lcmp_26]
theorem qL_law_1148 : ey F ini rt fin K0 K (decode cL_law 1148) 1148 L (.int x :: r) h cs ss = (if x = 0 then K 1153 L r h cs ss else K 1151 L r h cs ss) := by
  rw [dL_law_1148, ey_ok, nx_ifond_30]
  exact and_l (by unfold jok; decide)
theorem qL_law_1151 : ey F ini rt fin K0 K (decode cL_law 1151) 1151 L (st) h cs ss = (K 1152 L (.int 0 :: st) h cs ss) := by
  rw [dL_law_1151, ey_ok, nx_iconst_11] <;> rfl
theorem qL_law_1152 : ey F ini rt fin K0 K (decode cL_law 1152) 1152 L ([.int x]) h cs ss = (rokI rt x ∧ fin (some (.int x)) h cs ss) := by
  rw [dL_law_1152, ey_ok, nx_ireturn_68]
theorem qL_law_1153 : ey F ini rt fin K0 K (decode cL_law 1153) 1153 L (st) h cs ss = (K 1629 L st h cs ss) := by
  rw [dL_law_1153, ey_ok, nx_goto_29]
  exact and_l (by unfold jok; decide)
theorem qL_law_1156 : ey F ini rt fin K0 K (decode cL_law 1156) 1156 L (st) h cs ss = (lhas L 1 ∧ isRf (lgt L 1) ∧ K 1157 L (lgt L 1 :: st) h cs ss) := by
  rw [dL_law_1156, ey_ok, nx_aload_n_3] <;> rfl
theorem qL_law_1157 : ey F ini rt fin K0 K (decode cL_law 1157) 1157 L (st) h cs ss = (lhas L 0 ∧ isRf (lgt L 0) ∧ K 1158 L (lgt L 0 :: st) h cs ss) := by
  rw [dL_law_1157, ey_ok, nx_aload_n_3] <;> rfl
theorem qL_law_1158 : ey F ini rt fin K0 K (decode cL_law 1158) 1158 L (st) h cs ss = (lhas L 4 ∧ isI (lgt L 4) ∧ K 1160 L (lgt L 4 :: st) h cs ss) := by
  rw [dL_law_1158, ey_ok, nx_iload_0] <;> rfl
theorem qL_law_1160 : ey F ini rt fin K0 K (decode cL_law 1160) 1160 L (st) h cs ss = (K 1161 L (.int 1 :: st) h cs ss) := by
  rw [dL_law_1160, ey_ok, nx_iconst_11] <;> rfl
theorem qL_law_1161 : ey F ini rt fin K0 K (decode cL_law 1161) 1161 L (.int y :: .int x :: r) h cs ss = (K 1162 L (.int (x + y) :: r) h cs ss) := by
  rw [dL_law_1161, ey_ok, nx_iadd_16]
theorem qL_law_1162 : ey F ini rt fin K0 K (decode cL_law 1162) 1162 L (.int i :: .ref a :: r) h cs ss = (isA (h.1 a) (fun k m => k = 0 ∧ vp_in i m) ∧ K 1163 L (h.2 a i.toNatClampNeg :: r) h cs ss) := by
  rw [dL_law_1162, ey_ok, nx_iaload_57]
theorem qL_law_1163 : ey F ini rt fin K0 K (decode cL_law 1163) 1163 L (st) h cs ss = (lhas L 3 ∧ isRf (lgt L 3) ∧ K 1164 L (lgt L 3 :: st) h cs ss) := by
  rw [dL_law_1163, ey_ok, nx_aload_n_3] <;> rfl
theorem qL_law_1164 : ey F ini rt fin K0 K (decode cL_law 1164) 1164 L (st) h cs ss = (K0 1164 L st h cs ss) := by
  rw [dL_law_1164, ey_ok, nx_invokestatic_73]
theorem qL_law_1167 : ey F ini rt fin K0 K (decode cL_law 1167) 1167 L (.int x :: r) h cs ss = (5 < L.length ∧ K 1169 (L.set 5 (some (.int x))) r h cs ss) := by
  rw [dL_law_1167, ey_ok, nx_istore_4] <;> rfl
theorem qL_law_1169 : ey F ini rt fin K0 K (decode cL_law 1169) 1169 L (st) h cs ss = (lhas L 2 ∧ isRf (lgt L 2) ∧ K 1170 L (lgt L 2 :: st) h cs ss) := by
  rw [dL_law_1169, ey_ok, nx_aload_n_3] <;> rfl
theorem qL_law_1170 : ey F ini rt fin K0 K (decode cL_law 1170) 1170 L (st) h cs ss = (lhas L 0 ∧ isRf (lgt L 0) ∧ K 1171 L (lgt L 0 :: st) h cs ss) := by
  rw [dL_law_1170, ey_ok, nx_aload_n_3] <;> rfl
theorem qL_law_1171 : ey F ini rt fin K0 K (decode cL_law 1171) 1171 L (st) h cs ss = (lhas L 4 ∧ isI (lgt L 4) ∧ K 1173 L (lgt L 4 :: st) h cs ss) := by
  rw [dL_law_1171, ey_ok, nx_iload_0] <;> rfl
theorem qL_law_1173 : ey F ini rt fin K0 K (decode cL_law 1173) 1173 L (st) h cs ss = (K 1174 L (.int 1 :: st) h cs ss) := by
  rw [dL_law_1173, ey_ok, nx_iconst_11] <;> rfl
theorem qL_law_1174 : ey F ini rt fin K0 K (decode cL_law 1174) 1174 L (.int y :: .int x :: r) h cs ss = (K 1175 L (.int (x + y) :: r) h cs ss) := by
  rw [dL_law_1174, ey_ok, nx_iadd_16]
theorem qL_law_1175 : ey F ini rt fin K0 K (decode cL_law 1175) 1175 L (.int i :: .ref a :: r) h cs ss = (isA (h.1 a) (fun k m => k = 0 ∧ vp_in i m) ∧ K 1176 L (h.2 a i.toNatClampNeg :: r) h cs ss) := by
  rw [dL_law_1175, ey_ok, nx_iaload_57]
theorem qL_law_1176 : ey F ini rt fin K0 K (decode cL_law 1176) 1176 L (st) h cs ss = (K0 1176 L st h cs ss) := by
  rw [dL_law_1176, ey_ok, nx_invokevirtual_72]
theorem qL_law_1179 : ey F ini rt fin K0 K (decode cL_law 1179) 1179 L (.int x :: r) h cs ss = (6 < L.length ∧ K 1181 (L.set 6 (some (.int x))) r h cs ss) := by
  rw [dL_law_1179, ey_ok, nx_istore_4] <;> rfl
theorem qL_law_1181 : ey F ini rt fin K0 K (decode cL_law 1181) 1181 L (st) h cs ss = (lhas L 2 ∧ isRf (lgt L 2) ∧ K 1182 L (lgt L 2 :: st) h cs ss) := by
  rw [dL_law_1181, ey_ok, nx_aload_n_3] <;> rfl
theorem qL_law_1182 : ey F ini rt fin K0 K (decode cL_law 1182) 1182 L (st) h cs ss = (K0 1182 L st h cs ss) := by
  rw [dL_law_1182, ey_ok, nx_invokevirtual_72]
theorem qL_law_1185 : ey F ini rt fin K0 K (decode cL_law 1185) 1185 L (st) h cs ss = (lhas L 5 ∧ isI (lgt L 5) ∧ K 1187 L (lgt L 5 :: st) h cs ss) := by
  rw [dL_law_1185, ey_ok, nx_iload_0] <;> rfl
theorem qL_law_1187 : ey F ini rt fin K0 K (decode cL_law 1187) 1187 L (.int y :: .int x :: r) h cs ss = (if x = y then K 1192 L r h cs ss else K 1190 L r h cs ss) := by
  rw [dL_law_1187, ey_ok, nx_if_icmp_36]
  exact and_l (by unfold jok; decide)
theorem qL_law_1190 : ey F ini rt fin K0 K (decode cL_law 1190) 1190 L (st) h cs ss = (K 1191 L (.int 0 :: st) h cs ss) := by
  rw [dL_law_1190, ey_ok, nx_iconst_11] <;> rfl
theorem qL_law_1191 : ey F ini rt fin K0 K (decode cL_law 1191) 1191 L ([.int x]) h cs ss = (rokI rt x ∧ fin (some (.int x)) h cs ss) := by
  rw [dL_law_1191, ey_ok, nx_ireturn_68]
theorem qL_law_1192 : ey F ini rt fin K0 K (decode cL_law 1192) 1192 L (st) h cs ss = (lhas L 5 ∧ isI (lgt L 5) ∧ K 1194 L (lgt L 5 :: st) h cs ss) := by
  rw [dL_law_1192, ey_ok, nx_iload_0] <;> rfl
theorem qL_law_1194 : ey F ini rt fin K0 K (decode cL_law 1194) 1194 L (.int x :: r) h cs ss = (if ¬ x = 0 then K 1209 L r h cs ss else K 1197 L r h cs ss) := by
  rw [dL_law_1194, ey_ok, nx_ifond_31]
  exact and_l (by unfold jok; decide)
theorem qL_law_1197 : ey F ini rt fin K0 K (decode cL_law 1197) 1197 L (st) h cs ss = (lhas L 3 ∧ isRf (lgt L 3) ∧ K 1198 L (lgt L 3 :: st) h cs ss) := by
  rw [dL_law_1197, ey_ok, nx_aload_n_3] <;> rfl
theorem qL_law_1198 : ey F ini rt fin K0 K (decode cL_law 1198) 1198 L (st) h cs ss = (K 1199 L (.int 0 :: st) h cs ss) := by
  rw [dL_law_1198, ey_ok, nx_iconst_11] <;> rfl
theorem qL_law_1199 : ey F ini rt fin K0 K (decode cL_law 1199) 1199 L (.int i :: .ref a :: r) h cs ss = (isA (h.1 a) (fun k m => k = 3 ∧ vp_in i m) ∧ K 1200 L (h.2 a i.toNatClampNeg :: r) h cs ss) := by
  rw [dL_law_1199, ey_ok, nx_laload_60]
theorem qL_law_1200 : ey F ini rt fin K0 K (decode cL_law 1200) 1200 L (st) h cs ss = (lhas L 6 ∧ isI (lgt L 6) ∧ K 1202 L (lgt L 6 :: st) h cs ss) := by
  rw [dL_law_1200, ey_ok, nx_iload_0] <;> rfl
theorem qL_law_1202 : ey F ini rt fin K0 K (decode cL_law 1202) 1202 L (.int x :: r) h cs ss = (K 1203 L (.long x.toInt64 :: r) h cs ss) := by
  rw [dL_law_1202, ey_ok, nx_i2l_24]
theorem qL_law_1203 : ey F ini rt fin K0 K (decode cL_law 1203) 1203 L (.long ly :: .long lx :: r) h cs ss = (K 1204 L (.int (lg_cmp lx ly) :: r) h cs ss) := by
  rw [dL_law_1203, ey_ok, nx_lcmp_26]
theorem qL_law_1204 : ey F ini rt fin K0 K (decode cL_law 1204) 1204 L (.int x :: r) h cs ss = (if x = 0 then K 1209 L r h cs ss else K 1207 L r h cs ss) := by
  rw [dL_law_1204, ey_ok, nx_ifond_30]
  exact and_l (by unfold jok; decide)
theorem qL_law_1207 : ey F ini rt fin K0 K (decode cL_law 1207) 1207 L (st) h cs ss = (K 1208 L (.int 0 :: st) h cs ss) := by
  rw [dL_law_1207, ey_ok, nx_iconst_11] <;> rfl
theorem qL_law_1208 : ey F ini rt fin K0 K (decode cL_law 1208) 1208 L ([.int x]) h cs ss = (rokI rt x ∧ fin (some (.int x)) h cs ss) := by
  rw [dL_law_1208, ey_ok, nx_ireturn_68]
theorem qL_law_1209 : ey F ini rt fin K0 K (decode cL_law 1209) 1209 L (st) h cs ss = (K 1629 L st h cs ss) := by
  rw [dL_law_1209, ey_ok, nx_goto_29]
  exact and_l (by unfold jok; decide)
theorem qL_law_1212 : ey F ini rt fin K0 K (decode cL_law 1212) 1212 L (st) h cs ss = (lhas L 1 ∧ isRf (lgt L 1) ∧ K 1213 L (lgt L 1 :: st) h cs ss) := by
  rw [dL_law_1212, ey_ok, nx_aload_n_3] <;> rfl
theorem qL_law_1213 : ey F ini rt fin K0 K (decode cL_law 1213) 1213 L (st) h cs ss = (lhas L 0 ∧ isRf (lgt L 0) ∧ K 1214 L (lgt L 0 :: st) h cs ss) := by
  rw [dL_law_1213, ey_ok, nx_aload_n_3] <;> rfl
theorem qL_law_1214 : ey F ini rt fin K0 K (decode cL_law 1214) 1214 L (st) h cs ss = (lhas L 4 ∧ isI (lgt L 4) ∧ K 1216 L (lgt L 4 :: st) h cs ss) := by
  rw [dL_law_1214, ey_ok, nx_iload_0] <;> rfl
theorem qL_law_1216 : ey F ini rt fin K0 K (decode cL_law 1216) 1216 L (st) h cs ss = (K 1217 L (.int 1 :: st) h cs ss) := by
  rw [dL_law_1216, ey_ok, nx_iconst_11] <;> rfl
theorem qL_law_1217 : ey F ini rt fin K0 K (decode cL_law 1217) 1217 L (.int y :: .int x :: r) h cs ss = (K 1218 L (.int (x + y) :: r) h cs ss) := by
  rw [dL_law_1217, ey_ok, nx_iadd_16]
theorem qL_law_1218 : ey F ini rt fin K0 K (decode cL_law 1218) 1218 L (.int i :: .ref a :: r) h cs ss = (isA (h.1 a) (fun k m => k = 0 ∧ vp_in i m) ∧ K 1219 L (h.2 a i.toNatClampNeg :: r) h cs ss) := by
  rw [dL_law_1218, ey_ok, nx_iaload_57]
theorem qL_law_1219 : ey F ini rt fin K0 K (decode cL_law 1219) 1219 L (st) h cs ss = (lhas L 3 ∧ isRf (lgt L 3) ∧ K 1220 L (lgt L 3 :: st) h cs ss) := by
  rw [dL_law_1219, ey_ok, nx_aload_n_3] <;> rfl
theorem qL_law_1220 : ey F ini rt fin K0 K (decode cL_law 1220) 1220 L (st) h cs ss = (K0 1220 L st h cs ss) := by
  rw [dL_law_1220, ey_ok, nx_invokestatic_73]
theorem qL_law_1223 : ey F ini rt fin K0 K (decode cL_law 1223) 1223 L (.int x :: r) h cs ss = (5 < L.length ∧ K 1225 (L.set 5 (some (.int x))) r h cs ss) := by
  rw [dL_law_1223, ey_ok, nx_istore_4] <;> rfl
theorem qL_law_1225 : ey F ini rt fin K0 K (decode cL_law 1225) 1225 L (st) h cs ss = (lhas L 2 ∧ isRf (lgt L 2) ∧ K 1226 L (lgt L 2 :: st) h cs ss) := by
  rw [dL_law_1225, ey_ok, nx_aload_n_3] <;> rfl
theorem qL_law_1226 : ey F ini rt fin K0 K (decode cL_law 1226) 1226 L (st) h cs ss = (lhas L 0 ∧ isRf (lgt L 0) ∧ K 1227 L (lgt L 0 :: st) h cs ss) := by
  rw [dL_law_1226, ey_ok, nx_aload_n_3] <;> rfl
theorem qL_law_1227 : ey F ini rt fin K0 K (decode cL_law 1227) 1227 L (st) h cs ss = (lhas L 4 ∧ isI (lgt L 4) ∧ K 1229 L (lgt L 4 :: st) h cs ss) := by
  rw [dL_law_1227, ey_ok, nx_iload_0] <;> rfl
theorem qL_law_1229 : ey F ini rt fin K0 K (decode cL_law 1229) 1229 L (st) h cs ss = (K 1230 L (.int 1 :: st) h cs ss) := by
  rw [dL_law_1229, ey_ok, nx_iconst_11] <;> rfl
theorem qL_law_1230 : ey F ini rt fin K0 K (decode cL_law 1230) 1230 L (.int y :: .int x :: r) h cs ss = (K 1231 L (.int (x + y) :: r) h cs ss) := by
  rw [dL_law_1230, ey_ok, nx_iadd_16]
theorem qL_law_1231 : ey F ini rt fin K0 K (decode cL_law 1231) 1231 L (.int i :: .ref a :: r) h cs ss = (isA (h.1 a) (fun k m => k = 0 ∧ vp_in i m) ∧ K 1232 L (h.2 a i.toNatClampNeg :: r) h cs ss) := by
  rw [dL_law_1231, ey_ok, nx_iaload_57]
theorem qL_law_1232 : ey F ini rt fin K0 K (decode cL_law 1232) 1232 L (st) h cs ss = (K0 1232 L st h cs ss) := by
  rw [dL_law_1232, ey_ok, nx_invokevirtual_72]
theorem qL_law_1235 : ey F ini rt fin K0 K (decode cL_law 1235) 1235 L (.int x :: r) h cs ss = (6 < L.length ∧ K 1237 (L.set 6 (some (.int x))) r h cs ss) := by
  rw [dL_law_1235, ey_ok, nx_istore_4] <;> rfl
theorem qL_law_1237 : ey F ini rt fin K0 K (decode cL_law 1237) 1237 L (st) h cs ss = (lhas L 2 ∧ isRf (lgt L 2) ∧ K 1238 L (lgt L 2 :: st) h cs ss) := by
  rw [dL_law_1237, ey_ok, nx_aload_n_3] <;> rfl
theorem qL_law_1238 : ey F ini rt fin K0 K (decode cL_law 1238) 1238 L (st) h cs ss = (K0 1238 L st h cs ss) := by
  rw [dL_law_1238, ey_ok, nx_invokevirtual_72]
theorem qL_law_1241 : ey F ini rt fin K0 K (decode cL_law 1241) 1241 L (st) h cs ss = (lhas L 5 ∧ isI (lgt L 5) ∧ K 1243 L (lgt L 5 :: st) h cs ss) := by
  rw [dL_law_1241, ey_ok, nx_iload_0] <;> rfl
theorem qL_law_1243 : ey F ini rt fin K0 K (decode cL_law 1243) 1243 L (.int y :: .int x :: r) h cs ss = (if x = y then K 1248 L r h cs ss else K 1246 L r h cs ss) := by
  rw [dL_law_1243, ey_ok, nx_if_icmp_36]
  exact and_l (by unfold jok; decide)
theorem qL_law_1246 : ey F ini rt fin K0 K (decode cL_law 1246) 1246 L (st) h cs ss = (K 1247 L (.int 0 :: st) h cs ss) := by
  rw [dL_law_1246, ey_ok, nx_iconst_11] <;> rfl
theorem qL_law_1247 : ey F ini rt fin K0 K (decode cL_law 1247) 1247 L ([.int x]) h cs ss = (rokI rt x ∧ fin (some (.int x)) h cs ss) := by
  rw [dL_law_1247, ey_ok, nx_ireturn_68]
theorem qL_law_1248 : ey F ini rt fin K0 K (decode cL_law 1248) 1248 L (st) h cs ss = (lhas L 5 ∧ isI (lgt L 5) ∧ K 1250 L (lgt L 5 :: st) h cs ss) := by
  rw [dL_law_1248, ey_ok, nx_iload_0] <;> rfl
theorem qL_law_1250 : ey F ini rt fin K0 K (decode cL_law 1250) 1250 L (.int x :: r) h cs ss = (if ¬ x = 0 then K 1265 L r h cs ss else K 1253 L r h cs ss) := by
  rw [dL_law_1250, ey_ok, nx_ifond_31]
  exact and_l (by unfold jok; decide)
theorem qL_law_1253 : ey F ini rt fin K0 K (decode cL_law 1253) 1253 L (st) h cs ss = (lhas L 3 ∧ isRf (lgt L 3) ∧ K 1254 L (lgt L 3 :: st) h cs ss) := by
  rw [dL_law_1253, ey_ok, nx_aload_n_3] <;> rfl
theorem qL_law_1254 : ey F ini rt fin K0 K (decode cL_law 1254) 1254 L (st) h cs ss = (K 1255 L (.int 0 :: st) h cs ss) := by
  rw [dL_law_1254, ey_ok, nx_iconst_11] <;> rfl
theorem qL_law_1255 : ey F ini rt fin K0 K (decode cL_law 1255) 1255 L (.int i :: .ref a :: r) h cs ss = (isA (h.1 a) (fun k m => k = 3 ∧ vp_in i m) ∧ K 1256 L (h.2 a i.toNatClampNeg :: r) h cs ss) := by
  rw [dL_law_1255, ey_ok, nx_laload_60]
theorem qL_law_1256 : ey F ini rt fin K0 K (decode cL_law 1256) 1256 L (st) h cs ss = (lhas L 6 ∧ isI (lgt L 6) ∧ K 1258 L (lgt L 6 :: st) h cs ss) := by
  rw [dL_law_1256, ey_ok, nx_iload_0] <;> rfl
theorem qL_law_1258 : ey F ini rt fin K0 K (decode cL_law 1258) 1258 L (.int x :: r) h cs ss = (K 1259 L (.long x.toInt64 :: r) h cs ss) := by
  rw [dL_law_1258, ey_ok, nx_i2l_24]
theorem qL_law_1259 : ey F ini rt fin K0 K (decode cL_law 1259) 1259 L (.long ly :: .long lx :: r) h cs ss = (K 1260 L (.int (lg_cmp lx ly) :: r) h cs ss) := by
  rw [dL_law_1259, ey_ok, nx_lcmp_26]
theorem qL_law_1260 : ey F ini rt fin K0 K (decode cL_law 1260) 1260 L (.int x :: r) h cs ss = (if x = 0 then K 1265 L r h cs ss else K 1263 L r h cs ss) := by
  rw [dL_law_1260, ey_ok, nx_ifond_30]
  exact and_l (by unfold jok; decide)
theorem qL_law_1263 : ey F ini rt fin K0 K (decode cL_law 1263) 1263 L (st) h cs ss = (K 1264 L (.int 0 :: st) h cs ss) := by
  rw [dL_law_1263, ey_ok, nx_iconst_11] <;> rfl
theorem qL_law_1264 : ey F ini rt fin K0 K (decode cL_law 1264) 1264 L ([.int x]) h cs ss = (rokI rt x ∧ fin (some (.int x)) h cs ss) := by
  rw [dL_law_1264, ey_ok, nx_ireturn_68]
theorem qL_law_1265 : ey F ini rt fin K0 K (decode cL_law 1265) 1265 L (st) h cs ss = (K 1629 L st h cs ss) := by
  rw [dL_law_1265, ey_ok, nx_goto_29]
  exact and_l (by unfold jok; decide)
theorem qL_law_1268 : ey F ini rt fin K0 K (decode cL_law 1268) 1268 L (st) h cs ss = (lhas L 1 ∧ isRf (lgt L 1) ∧ K 1269 L (lgt L 1 :: st) h cs ss) := by
  rw [dL_law_1268, ey_ok, nx_aload_n_3] <;> rfl
theorem qL_law_1269 : ey F ini rt fin K0 K (decode cL_law 1269) 1269 L (st) h cs ss = (lhas L 0 ∧ isRf (lgt L 0) ∧ K 1270 L (lgt L 0 :: st) h cs ss) := by
  rw [dL_law_1269, ey_ok, nx_aload_n_3] <;> rfl
theorem qL_law_1270 : ey F ini rt fin K0 K (decode cL_law 1270) 1270 L (st) h cs ss = (lhas L 4 ∧ isI (lgt L 4) ∧ K 1272 L (lgt L 4 :: st) h cs ss) := by
  rw [dL_law_1270, ey_ok, nx_iload_0] <;> rfl
theorem qL_law_1272 : ey F ini rt fin K0 K (decode cL_law 1272) 1272 L (st) h cs ss = (K 1273 L (.int 1 :: st) h cs ss) := by
  rw [dL_law_1272, ey_ok, nx_iconst_11] <;> rfl
theorem qL_law_1273 : ey F ini rt fin K0 K (decode cL_law 1273) 1273 L (.int y :: .int x :: r) h cs ss = (K 1274 L (.int (x + y) :: r) h cs ss) := by
  rw [dL_law_1273, ey_ok, nx_iadd_16]
theorem qL_law_1274 : ey F ini rt fin K0 K (decode cL_law 1274) 1274 L (.int i :: .ref a :: r) h cs ss = (isA (h.1 a) (fun k m => k = 0 ∧ vp_in i m) ∧ K 1275 L (h.2 a i.toNatClampNeg :: r) h cs ss) := by
  rw [dL_law_1274, ey_ok, nx_iaload_57]
theorem qL_law_1275 : ey F ini rt fin K0 K (decode cL_law 1275) 1275 L (st) h cs ss = (lhas L 3 ∧ isRf (lgt L 3) ∧ K 1276 L (lgt L 3 :: st) h cs ss) := by
  rw [dL_law_1275, ey_ok, nx_aload_n_3] <;> rfl
theorem qL_law_1276 : ey F ini rt fin K0 K (decode cL_law 1276) 1276 L (st) h cs ss = (K0 1276 L st h cs ss) := by
  rw [dL_law_1276, ey_ok, nx_invokestatic_73]
theorem qL_law_1279 : ey F ini rt fin K0 K (decode cL_law 1279) 1279 L (.int x :: r) h cs ss = (5 < L.length ∧ K 1281 (L.set 5 (some (.int x))) r h cs ss) := by
  rw [dL_law_1279, ey_ok, nx_istore_4] <;> rfl
theorem qL_law_1281 : ey F ini rt fin K0 K (decode cL_law 1281) 1281 L (st) h cs ss = (lhas L 2 ∧ isRf (lgt L 2) ∧ K 1282 L (lgt L 2 :: st) h cs ss) := by
  rw [dL_law_1281, ey_ok, nx_aload_n_3] <;> rfl
theorem qL_law_1282 : ey F ini rt fin K0 K (decode cL_law 1282) 1282 L (st) h cs ss = (lhas L 0 ∧ isRf (lgt L 0) ∧ K 1283 L (lgt L 0 :: st) h cs ss) := by
  rw [dL_law_1282, ey_ok, nx_aload_n_3] <;> rfl
theorem qL_law_1283 : ey F ini rt fin K0 K (decode cL_law 1283) 1283 L (st) h cs ss = (lhas L 4 ∧ isI (lgt L 4) ∧ K 1285 L (lgt L 4 :: st) h cs ss) := by
  rw [dL_law_1283, ey_ok, nx_iload_0] <;> rfl
theorem qL_law_1285 : ey F ini rt fin K0 K (decode cL_law 1285) 1285 L (st) h cs ss = (K 1286 L (.int 1 :: st) h cs ss) := by
  rw [dL_law_1285, ey_ok, nx_iconst_11] <;> rfl
theorem qL_law_1286 : ey F ini rt fin K0 K (decode cL_law 1286) 1286 L (.int y :: .int x :: r) h cs ss = (K 1287 L (.int (x + y) :: r) h cs ss) := by
  rw [dL_law_1286, ey_ok, nx_iadd_16]
theorem qL_law_1287 : ey F ini rt fin K0 K (decode cL_law 1287) 1287 L (.int i :: .ref a :: r) h cs ss = (isA (h.1 a) (fun k m => k = 0 ∧ vp_in i m) ∧ K 1288 L (h.2 a i.toNatClampNeg :: r) h cs ss) := by
  rw [dL_law_1287, ey_ok, nx_iaload_57]
theorem qL_law_1288 : ey F ini rt fin K0 K (decode cL_law 1288) 1288 L (st) h cs ss = (K0 1288 L st h cs ss) := by
  rw [dL_law_1288, ey_ok, nx_invokevirtual_72]
theorem qL_law_1291 : ey F ini rt fin K0 K (decode cL_law 1291) 1291 L (.int x :: r) h cs ss = (6 < L.length ∧ K 1293 (L.set 6 (some (.int x))) r h cs ss) := by
  rw [dL_law_1291, ey_ok, nx_istore_4] <;> rfl
theorem qL_law_1293 : ey F ini rt fin K0 K (decode cL_law 1293) 1293 L (st) h cs ss = (lhas L 2 ∧ isRf (lgt L 2) ∧ K 1294 L (lgt L 2 :: st) h cs ss) := by
  rw [dL_law_1293, ey_ok, nx_aload_n_3] <;> rfl
theorem qL_law_1294 : ey F ini rt fin K0 K (decode cL_law 1294) 1294 L (st) h cs ss = (K0 1294 L st h cs ss) := by
  rw [dL_law_1294, ey_ok, nx_invokevirtual_72]
theorem qL_law_1297 : ey F ini rt fin K0 K (decode cL_law 1297) 1297 L (st) h cs ss = (lhas L 5 ∧ isI (lgt L 5) ∧ K 1299 L (lgt L 5 :: st) h cs ss) := by
  rw [dL_law_1297, ey_ok, nx_iload_0] <;> rfl
theorem qL_law_1299 : ey F ini rt fin K0 K (decode cL_law 1299) 1299 L (.int y :: .int x :: r) h cs ss = (if x = y then K 1304 L r h cs ss else K 1302 L r h cs ss) := by
  rw [dL_law_1299, ey_ok, nx_if_icmp_36]
  exact and_l (by unfold jok; decide)
theorem qL_law_1302 : ey F ini rt fin K0 K (decode cL_law 1302) 1302 L (st) h cs ss = (K 1303 L (.int 0 :: st) h cs ss) := by
  rw [dL_law_1302, ey_ok, nx_iconst_11] <;> rfl
theorem qL_law_1303 : ey F ini rt fin K0 K (decode cL_law 1303) 1303 L ([.int x]) h cs ss = (rokI rt x ∧ fin (some (.int x)) h cs ss) := by
  rw [dL_law_1303, ey_ok, nx_ireturn_68]
theorem qL_law_1304 : ey F ini rt fin K0 K (decode cL_law 1304) 1304 L (st) h cs ss = (lhas L 5 ∧ isI (lgt L 5) ∧ K 1306 L (lgt L 5 :: st) h cs ss) := by
  rw [dL_law_1304, ey_ok, nx_iload_0] <;> rfl
theorem qL_law_1306 : ey F ini rt fin K0 K (decode cL_law 1306) 1306 L (.int x :: r) h cs ss = (if ¬ x = 0 then K 1321 L r h cs ss else K 1309 L r h cs ss) := by
  rw [dL_law_1306, ey_ok, nx_ifond_31]
  exact and_l (by unfold jok; decide)
theorem qL_law_1309 : ey F ini rt fin K0 K (decode cL_law 1309) 1309 L (st) h cs ss = (lhas L 3 ∧ isRf (lgt L 3) ∧ K 1310 L (lgt L 3 :: st) h cs ss) := by
  rw [dL_law_1309, ey_ok, nx_aload_n_3] <;> rfl
theorem qL_law_1310 : ey F ini rt fin K0 K (decode cL_law 1310) 1310 L (st) h cs ss = (K 1311 L (.int 0 :: st) h cs ss) := by
  rw [dL_law_1310, ey_ok, nx_iconst_11] <;> rfl
theorem qL_law_1311 : ey F ini rt fin K0 K (decode cL_law 1311) 1311 L (.int i :: .ref a :: r) h cs ss = (isA (h.1 a) (fun k m => k = 3 ∧ vp_in i m) ∧ K 1312 L (h.2 a i.toNatClampNeg :: r) h cs ss) := by
  rw [dL_law_1311, ey_ok, nx_laload_60]
theorem qL_law_1312 : ey F ini rt fin K0 K (decode cL_law 1312) 1312 L (st) h cs ss = (lhas L 6 ∧ isI (lgt L 6) ∧ K 1314 L (lgt L 6 :: st) h cs ss) := by
  rw [dL_law_1312, ey_ok, nx_iload_0] <;> rfl
theorem qL_law_1314 : ey F ini rt fin K0 K (decode cL_law 1314) 1314 L (.int x :: r) h cs ss = (K 1315 L (.long x.toInt64 :: r) h cs ss) := by
  rw [dL_law_1314, ey_ok, nx_i2l_24]
theorem qL_law_1315 : ey F ini rt fin K0 K (decode cL_law 1315) 1315 L (.long ly :: .long lx :: r) h cs ss = (K 1316 L (.int (lg_cmp lx ly) :: r) h cs ss) := by
  rw [dL_law_1315, ey_ok, nx_lcmp_26]
theorem qL_law_1316 : ey F ini rt fin K0 K (decode cL_law 1316) 1316 L (.int x :: r) h cs ss = (if x = 0 then K 1321 L r h cs ss else K 1319 L r h cs ss) := by
  rw [dL_law_1316, ey_ok, nx_ifond_30]
  exact and_l (by unfold jok; decide)
theorem qL_law_1319 : ey F ini rt fin K0 K (decode cL_law 1319) 1319 L (st) h cs ss = (K 1320 L (.int 0 :: st) h cs ss) := by
  rw [dL_law_1319, ey_ok, nx_iconst_11] <;> rfl
theorem qL_law_1320 : ey F ini rt fin K0 K (decode cL_law 1320) 1320 L ([.int x]) h cs ss = (rokI rt x ∧ fin (some (.int x)) h cs ss) := by
  rw [dL_law_1320, ey_ok, nx_ireturn_68]
theorem qL_law_1321 : ey F ini rt fin K0 K (decode cL_law 1321) 1321 L (st) h cs ss = (K 1629 L st h cs ss) := by
  rw [dL_law_1321, ey_ok, nx_goto_29]
  exact and_l (by unfold jok; decide)
theorem qL_law_1324 : ey F ini rt fin K0 K (decode cL_law 1324) 1324 L (st) h cs ss = (lhas L 1 ∧ isRf (lgt L 1) ∧ K 1325 L (lgt L 1 :: st) h cs ss) := by
  rw [dL_law_1324, ey_ok, nx_aload_n_3] <;> rfl
theorem qL_law_1325 : ey F ini rt fin K0 K (decode cL_law 1325) 1325 L (st) h cs ss = (lhas L 0 ∧ isRf (lgt L 0) ∧ K 1326 L (lgt L 0 :: st) h cs ss) := by
  rw [dL_law_1325, ey_ok, nx_aload_n_3] <;> rfl
theorem qL_law_1326 : ey F ini rt fin K0 K (decode cL_law 1326) 1326 L (st) h cs ss = (lhas L 4 ∧ isI (lgt L 4) ∧ K 1328 L (lgt L 4 :: st) h cs ss) := by
  rw [dL_law_1326, ey_ok, nx_iload_0] <;> rfl
theorem qL_law_1328 : ey F ini rt fin K0 K (decode cL_law 1328) 1328 L (st) h cs ss = (K 1329 L (.int 1 :: st) h cs ss) := by
  rw [dL_law_1328, ey_ok, nx_iconst_11] <;> rfl
theorem qL_law_1329 : ey F ini rt fin K0 K (decode cL_law 1329) 1329 L (.int y :: .int x :: r) h cs ss = (K 1330 L (.int (x + y) :: r) h cs ss) := by
  rw [dL_law_1329, ey_ok, nx_iadd_16]
theorem qL_law_1330 : ey F ini rt fin K0 K (decode cL_law 1330) 1330 L (.int i :: .ref a :: r) h cs ss = (isA (h.1 a) (fun k m => k = 0 ∧ vp_in i m) ∧ K 1331 L (h.2 a i.toNatClampNeg :: r) h cs ss) := by
  rw [dL_law_1330, ey_ok, nx_iaload_57]
theorem qL_law_1331 : ey F ini rt fin K0 K (decode cL_law 1331) 1331 L (st) h cs ss = (lhas L 3 ∧ isRf (lgt L 3) ∧ K 1332 L (lgt L 3 :: st) h cs ss) := by
  rw [dL_law_1331, ey_ok, nx_aload_n_3] <;> rfl
theorem qL_law_1332 : ey F ini rt fin K0 K (decode cL_law 1332) 1332 L (st) h cs ss = (K0 1332 L st h cs ss) := by
  rw [dL_law_1332, ey_ok, nx_invokestatic_73]
theorem qL_law_1335 : ey F ini rt fin K0 K (decode cL_law 1335) 1335 L (.int x :: r) h cs ss = (5 < L.length ∧ K 1337 (L.set 5 (some (.int x))) r h cs ss) := by
  rw [dL_law_1335, ey_ok, nx_istore_4] <;> rfl
theorem qL_law_1337 : ey F ini rt fin K0 K (decode cL_law 1337) 1337 L (st) h cs ss = (lhas L 2 ∧ isRf (lgt L 2) ∧ K 1338 L (lgt L 2 :: st) h cs ss) := by
  rw [dL_law_1337, ey_ok, nx_aload_n_3] <;> rfl
theorem qL_law_1338 : ey F ini rt fin K0 K (decode cL_law 1338) 1338 L (st) h cs ss = (lhas L 0 ∧ isRf (lgt L 0) ∧ K 1339 L (lgt L 0 :: st) h cs ss) := by
  rw [dL_law_1338, ey_ok, nx_aload_n_3] <;> rfl
theorem qL_law_1339 : ey F ini rt fin K0 K (decode cL_law 1339) 1339 L (st) h cs ss = (lhas L 4 ∧ isI (lgt L 4) ∧ K 1341 L (lgt L 4 :: st) h cs ss) := by
  rw [dL_law_1339, ey_ok, nx_iload_0] <;> rfl
theorem qL_law_1341 : ey F ini rt fin K0 K (decode cL_law 1341) 1341 L (st) h cs ss = (K 1342 L (.int 1 :: st) h cs ss) := by
  rw [dL_law_1341, ey_ok, nx_iconst_11] <;> rfl
theorem qL_law_1342 : ey F ini rt fin K0 K (decode cL_law 1342) 1342 L (.int y :: .int x :: r) h cs ss = (K 1343 L (.int (x + y) :: r) h cs ss) := by
  rw [dL_law_1342, ey_ok, nx_iadd_16]
theorem qL_law_1343 : ey F ini rt fin K0 K (decode cL_law 1343) 1343 L (.int i :: .ref a :: r) h cs ss = (isA (h.1 a) (fun k m => k = 0 ∧ vp_in i m) ∧ K 1344 L (h.2 a i.toNatClampNeg :: r) h cs ss) := by
  rw [dL_law_1343, ey_ok, nx_iaload_57]
theorem qL_law_1344 : ey F ini rt fin K0 K (decode cL_law 1344) 1344 L (st) h cs ss = (K0 1344 L st h cs ss) := by
  rw [dL_law_1344, ey_ok, nx_invokevirtual_72]
theorem qL_law_1347 : ey F ini rt fin K0 K (decode cL_law 1347) 1347 L (.int x :: r) h cs ss = (6 < L.length ∧ K 1349 (L.set 6 (some (.int x))) r h cs ss) := by
  rw [dL_law_1347, ey_ok, nx_istore_4] <;> rfl
theorem qL_law_1349 : ey F ini rt fin K0 K (decode cL_law 1349) 1349 L (st) h cs ss = (lhas L 2 ∧ isRf (lgt L 2) ∧ K 1350 L (lgt L 2 :: st) h cs ss) := by
  rw [dL_law_1349, ey_ok, nx_aload_n_3] <;> rfl
theorem qL_law_1350 : ey F ini rt fin K0 K (decode cL_law 1350) 1350 L (st) h cs ss = (K0 1350 L st h cs ss) := by
  rw [dL_law_1350, ey_ok, nx_invokevirtual_72]
theorem qL_law_1353 : ey F ini rt fin K0 K (decode cL_law 1353) 1353 L (st) h cs ss = (lhas L 5 ∧ isI (lgt L 5) ∧ K 1355 L (lgt L 5 :: st) h cs ss) := by
  rw [dL_law_1353, ey_ok, nx_iload_0] <;> rfl
theorem qL_law_1355 : ey F ini rt fin K0 K (decode cL_law 1355) 1355 L (.int y :: .int x :: r) h cs ss = (if x = y then K 1360 L r h cs ss else K 1358 L r h cs ss) := by
  rw [dL_law_1355, ey_ok, nx_if_icmp_36]
  exact and_l (by unfold jok; decide)
theorem qL_law_1358 : ey F ini rt fin K0 K (decode cL_law 1358) 1358 L (st) h cs ss = (K 1359 L (.int 0 :: st) h cs ss) := by
  rw [dL_law_1358, ey_ok, nx_iconst_11] <;> rfl
theorem qL_law_1359 : ey F ini rt fin K0 K (decode cL_law 1359) 1359 L ([.int x]) h cs ss = (rokI rt x ∧ fin (some (.int x)) h cs ss) := by
  rw [dL_law_1359, ey_ok, nx_ireturn_68]
theorem qL_law_1360 : ey F ini rt fin K0 K (decode cL_law 1360) 1360 L (st) h cs ss = (lhas L 5 ∧ isI (lgt L 5) ∧ K 1362 L (lgt L 5 :: st) h cs ss) := by
  rw [dL_law_1360, ey_ok, nx_iload_0] <;> rfl
theorem qL_law_1362 : ey F ini rt fin K0 K (decode cL_law 1362) 1362 L (.int x :: r) h cs ss = (if ¬ x = 0 then K 1377 L r h cs ss else K 1365 L r h cs ss) := by
  rw [dL_law_1362, ey_ok, nx_ifond_31]
  exact and_l (by unfold jok; decide)
theorem qL_law_1365 : ey F ini rt fin K0 K (decode cL_law 1365) 1365 L (st) h cs ss = (lhas L 3 ∧ isRf (lgt L 3) ∧ K 1366 L (lgt L 3 :: st) h cs ss) := by
  rw [dL_law_1365, ey_ok, nx_aload_n_3] <;> rfl
theorem qL_law_1366 : ey F ini rt fin K0 K (decode cL_law 1366) 1366 L (st) h cs ss = (K 1367 L (.int 0 :: st) h cs ss) := by
  rw [dL_law_1366, ey_ok, nx_iconst_11] <;> rfl
theorem qL_law_1367 : ey F ini rt fin K0 K (decode cL_law 1367) 1367 L (.int i :: .ref a :: r) h cs ss = (isA (h.1 a) (fun k m => k = 3 ∧ vp_in i m) ∧ K 1368 L (h.2 a i.toNatClampNeg :: r) h cs ss) := by
  rw [dL_law_1367, ey_ok, nx_laload_60]
theorem qL_law_1368 : ey F ini rt fin K0 K (decode cL_law 1368) 1368 L (st) h cs ss = (lhas L 6 ∧ isI (lgt L 6) ∧ K 1370 L (lgt L 6 :: st) h cs ss) := by
  rw [dL_law_1368, ey_ok, nx_iload_0] <;> rfl
theorem qL_law_1370 : ey F ini rt fin K0 K (decode cL_law 1370) 1370 L (.int x :: r) h cs ss = (K 1371 L (.long x.toInt64 :: r) h cs ss) := by
  rw [dL_law_1370, ey_ok, nx_i2l_24]
theorem qL_law_1371 : ey F ini rt fin K0 K (decode cL_law 1371) 1371 L (.long ly :: .long lx :: r) h cs ss = (K 1372 L (.int (lg_cmp lx ly) :: r) h cs ss) := by
  rw [dL_law_1371, ey_ok, nx_lcmp_26]
theorem qL_law_1372 : ey F ini rt fin K0 K (decode cL_law 1372) 1372 L (.int x :: r) h cs ss = (if x = 0 then K 1377 L r h cs ss else K 1375 L r h cs ss) := by
  rw [dL_law_1372, ey_ok, nx_ifond_30]
  exact and_l (by unfold jok; decide)
theorem qL_law_1375 : ey F ini rt fin K0 K (decode cL_law 1375) 1375 L (st) h cs ss = (K 1376 L (.int 0 :: st) h cs ss) := by
  rw [dL_law_1375, ey_ok, nx_iconst_11] <;> rfl
theorem qL_law_1376 : ey F ini rt fin K0 K (decode cL_law 1376) 1376 L ([.int x]) h cs ss = (rokI rt x ∧ fin (some (.int x)) h cs ss) := by
  rw [dL_law_1376, ey_ok, nx_ireturn_68]
theorem qL_law_1377 : ey F ini rt fin K0 K (decode cL_law 1377) 1377 L (st) h cs ss = (K 1629 L st h cs ss) := by
  rw [dL_law_1377, ey_ok, nx_goto_29]
  exact and_l (by unfold jok; decide)
theorem qL_law_1380 : ey F ini rt fin K0 K (decode cL_law 1380) 1380 L (st) h cs ss = (lhas L 1 ∧ isRf (lgt L 1) ∧ K 1381 L (lgt L 1 :: st) h cs ss) := by
  rw [dL_law_1380, ey_ok, nx_aload_n_3] <;> rfl
theorem qL_law_1381 : ey F ini rt fin K0 K (decode cL_law 1381) 1381 L (st) h cs ss = (lhas L 0 ∧ isRf (lgt L 0) ∧ K 1382 L (lgt L 0 :: st) h cs ss) := by
  rw [dL_law_1381, ey_ok, nx_aload_n_3] <;> rfl
theorem qL_law_1382 : ey F ini rt fin K0 K (decode cL_law 1382) 1382 L (st) h cs ss = (lhas L 4 ∧ isI (lgt L 4) ∧ K 1384 L (lgt L 4 :: st) h cs ss) := by
  rw [dL_law_1382, ey_ok, nx_iload_0] <;> rfl
theorem qL_law_1384 : ey F ini rt fin K0 K (decode cL_law 1384) 1384 L (st) h cs ss = (K 1385 L (.int 1 :: st) h cs ss) := by
  rw [dL_law_1384, ey_ok, nx_iconst_11] <;> rfl
theorem qL_law_1385 : ey F ini rt fin K0 K (decode cL_law 1385) 1385 L (.int y :: .int x :: r) h cs ss = (K 1386 L (.int (x + y) :: r) h cs ss) := by
  rw [dL_law_1385, ey_ok, nx_iadd_16]
theorem qL_law_1386 : ey F ini rt fin K0 K (decode cL_law 1386) 1386 L (.int i :: .ref a :: r) h cs ss = (isA (h.1 a) (fun k m => k = 0 ∧ vp_in i m) ∧ K 1387 L (h.2 a i.toNatClampNeg :: r) h cs ss) := by
  rw [dL_law_1386, ey_ok, nx_iaload_57]
theorem qL_law_1387 : ey F ini rt fin K0 K (decode cL_law 1387) 1387 L (st) h cs ss = (lhas L 0 ∧ isRf (lgt L 0) ∧ K 1388 L (lgt L 0 :: st) h cs ss) := by
  rw [dL_law_1387, ey_ok, nx_aload_n_3] <;> rfl
theorem qL_law_1388 : ey F ini rt fin K0 K (decode cL_law 1388) 1388 L (st) h cs ss = (lhas L 4 ∧ isI (lgt L 4) ∧ K 1390 L (lgt L 4 :: st) h cs ss) := by
  rw [dL_law_1388, ey_ok, nx_iload_0] <;> rfl
theorem qL_law_1390 : ey F ini rt fin K0 K (decode cL_law 1390) 1390 L (st) h cs ss = (K 1391 L (.int 2 :: st) h cs ss) := by
  rw [dL_law_1390, ey_ok, nx_iconst_11] <;> rfl
theorem qL_law_1391 : ey F ini rt fin K0 K (decode cL_law 1391) 1391 L (.int y :: .int x :: r) h cs ss = (K 1392 L (.int (x + y) :: r) h cs ss) := by
  rw [dL_law_1391, ey_ok, nx_iadd_16]
theorem qL_law_1392 : ey F ini rt fin K0 K (decode cL_law 1392) 1392 L (.int i :: .ref a :: r) h cs ss = (isA (h.1 a) (fun k m => k = 0 ∧ vp_in i m) ∧ K 1393 L (h.2 a i.toNatClampNeg :: r) h cs ss) := by
  rw [dL_law_1392, ey_ok, nx_iaload_57]
theorem qL_law_1393 : ey F ini rt fin K0 K (decode cL_law 1393) 1393 L (st) h cs ss = (lhas L 3 ∧ isRf (lgt L 3) ∧ K 1394 L (lgt L 3 :: st) h cs ss) := by
  rw [dL_law_1393, ey_ok, nx_aload_n_3] <;> rfl
theorem qL_law_1394 : ey F ini rt fin K0 K (decode cL_law 1394) 1394 L (st) h cs ss = (K0 1394 L st h cs ss) := by
  rw [dL_law_1394, ey_ok, nx_invokestatic_73]
theorem qL_law_1397 : ey F ini rt fin K0 K (decode cL_law 1397) 1397 L (.int x :: r) h cs ss = (5 < L.length ∧ K 1399 (L.set 5 (some (.int x))) r h cs ss) := by
  rw [dL_law_1397, ey_ok, nx_istore_4] <;> rfl
theorem qL_law_1399 : ey F ini rt fin K0 K (decode cL_law 1399) 1399 L (st) h cs ss = (lhas L 2 ∧ isRf (lgt L 2) ∧ K 1400 L (lgt L 2 :: st) h cs ss) := by
  rw [dL_law_1399, ey_ok, nx_aload_n_3] <;> rfl
theorem qL_law_1400 : ey F ini rt fin K0 K (decode cL_law 1400) 1400 L (st) h cs ss = (lhas L 0 ∧ isRf (lgt L 0) ∧ K 1401 L (lgt L 0 :: st) h cs ss) := by
  rw [dL_law_1400, ey_ok, nx_aload_n_3] <;> rfl
theorem qL_law_1401 : ey F ini rt fin K0 K (decode cL_law 1401) 1401 L (st) h cs ss = (lhas L 4 ∧ isI (lgt L 4) ∧ K 1403 L (lgt L 4 :: st) h cs ss) := by
  rw [dL_law_1401, ey_ok, nx_iload_0] <;> rfl
theorem qL_law_1403 : ey F ini rt fin K0 K (decode cL_law 1403) 1403 L (st) h cs ss = (K 1404 L (.int 1 :: st) h cs ss) := by
  rw [dL_law_1403, ey_ok, nx_iconst_11] <;> rfl
theorem qL_law_1404 : ey F ini rt fin K0 K (decode cL_law 1404) 1404 L (.int y :: .int x :: r) h cs ss = (K 1405 L (.int (x + y) :: r) h cs ss) := by
  rw [dL_law_1404, ey_ok, nx_iadd_16]
theorem qL_law_1405 : ey F ini rt fin K0 K (decode cL_law 1405) 1405 L (.int i :: .ref a :: r) h cs ss = (isA (h.1 a) (fun k m => k = 0 ∧ vp_in i m) ∧ K 1406 L (h.2 a i.toNatClampNeg :: r) h cs ss) := by
  rw [dL_law_1405, ey_ok, nx_iaload_57]
theorem qL_law_1406 : ey F ini rt fin K0 K (decode cL_law 1406) 1406 L (st) h cs ss = (lhas L 0 ∧ isRf (lgt L 0) ∧ K 1407 L (lgt L 0 :: st) h cs ss) := by
  rw [dL_law_1406, ey_ok, nx_aload_n_3] <;> rfl
theorem qL_law_1407 : ey F ini rt fin K0 K (decode cL_law 1407) 1407 L (st) h cs ss = (lhas L 4 ∧ isI (lgt L 4) ∧ K 1409 L (lgt L 4 :: st) h cs ss) := by
  rw [dL_law_1407, ey_ok, nx_iload_0] <;> rfl
theorem qL_law_1409 : ey F ini rt fin K0 K (decode cL_law 1409) 1409 L (st) h cs ss = (K 1410 L (.int 2 :: st) h cs ss) := by
  rw [dL_law_1409, ey_ok, nx_iconst_11] <;> rfl
theorem qL_law_1410 : ey F ini rt fin K0 K (decode cL_law 1410) 1410 L (.int y :: .int x :: r) h cs ss = (K 1411 L (.int (x + y) :: r) h cs ss) := by
  rw [dL_law_1410, ey_ok, nx_iadd_16]
theorem qL_law_1411 : ey F ini rt fin K0 K (decode cL_law 1411) 1411 L (.int i :: .ref a :: r) h cs ss = (isA (h.1 a) (fun k m => k = 0 ∧ vp_in i m) ∧ K 1412 L (h.2 a i.toNatClampNeg :: r) h cs ss) := by
  rw [dL_law_1411, ey_ok, nx_iaload_57]
theorem qL_law_1412 : ey F ini rt fin K0 K (decode cL_law 1412) 1412 L (st) h cs ss = (K0 1412 L st h cs ss) := by
  rw [dL_law_1412, ey_ok, nx_invokevirtual_72]
theorem qL_law_1415 : ey F ini rt fin K0 K (decode cL_law 1415) 1415 L (.int x :: r) h cs ss = (6 < L.length ∧ K 1417 (L.set 6 (some (.int x))) r h cs ss) := by
  rw [dL_law_1415, ey_ok, nx_istore_4] <;> rfl
theorem qL_law_1417 : ey F ini rt fin K0 K (decode cL_law 1417) 1417 L (st) h cs ss = (lhas L 2 ∧ isRf (lgt L 2) ∧ K 1418 L (lgt L 2 :: st) h cs ss) := by
  rw [dL_law_1417, ey_ok, nx_aload_n_3] <;> rfl
theorem qL_law_1418 : ey F ini rt fin K0 K (decode cL_law 1418) 1418 L (st) h cs ss = (K0 1418 L st h cs ss) := by
  rw [dL_law_1418, ey_ok, nx_invokevirtual_72]
theorem qL_law_1421 : ey F ini rt fin K0 K (decode cL_law 1421) 1421 L (st) h cs ss = (lhas L 5 ∧ isI (lgt L 5) ∧ K 1423 L (lgt L 5 :: st) h cs ss) := by
  rw [dL_law_1421, ey_ok, nx_iload_0] <;> rfl
theorem qL_law_1423 : ey F ini rt fin K0 K (decode cL_law 1423) 1423 L (.int y :: .int x :: r) h cs ss = (if x = y then K 1428 L r h cs ss else K 1426 L r h cs ss) := by
  rw [dL_law_1423, ey_ok, nx_if_icmp_36]
  exact and_l (by unfold jok; decide)
theorem qL_law_1426 : ey F ini rt fin K0 K (decode cL_law 1426) 1426 L (st) h cs ss = (K 1427 L (.int 0 :: st) h cs ss) := by
  rw [dL_law_1426, ey_ok, nx_iconst_11] <;> rfl
theorem qL_law_1427 : ey F ini rt fin K0 K (decode cL_law 1427) 1427 L ([.int x]) h cs ss = (rokI rt x ∧ fin (some (.int x)) h cs ss) := by
  rw [dL_law_1427, ey_ok, nx_ireturn_68]
theorem qL_law_1428 : ey F ini rt fin K0 K (decode cL_law 1428) 1428 L (st) h cs ss = (lhas L 5 ∧ isI (lgt L 5) ∧ K 1430 L (lgt L 5 :: st) h cs ss) := by
  rw [dL_law_1428, ey_ok, nx_iload_0] <;> rfl
theorem qL_law_1430 : ey F ini rt fin K0 K (decode cL_law 1430) 1430 L (.int x :: r) h cs ss = (if ¬ x = 0 then K 1445 L r h cs ss else K 1433 L r h cs ss) := by
  rw [dL_law_1430, ey_ok, nx_ifond_31]
  exact and_l (by unfold jok; decide)
theorem qL_law_1433 : ey F ini rt fin K0 K (decode cL_law 1433) 1433 L (st) h cs ss = (lhas L 3 ∧ isRf (lgt L 3) ∧ K 1434 L (lgt L 3 :: st) h cs ss) := by
  rw [dL_law_1433, ey_ok, nx_aload_n_3] <;> rfl
theorem qL_law_1434 : ey F ini rt fin K0 K (decode cL_law 1434) 1434 L (st) h cs ss = (K 1435 L (.int 0 :: st) h cs ss) := by
  rw [dL_law_1434, ey_ok, nx_iconst_11] <;> rfl
theorem qL_law_1435 : ey F ini rt fin K0 K (decode cL_law 1435) 1435 L (.int i :: .ref a :: r) h cs ss = (isA (h.1 a) (fun k m => k = 3 ∧ vp_in i m) ∧ K 1436 L (h.2 a i.toNatClampNeg :: r) h cs ss) := by
  rw [dL_law_1435, ey_ok, nx_laload_60]
theorem qL_law_1436 : ey F ini rt fin K0 K (decode cL_law 1436) 1436 L (st) h cs ss = (lhas L 6 ∧ isI (lgt L 6) ∧ K 1438 L (lgt L 6 :: st) h cs ss) := by
  rw [dL_law_1436, ey_ok, nx_iload_0] <;> rfl
theorem qL_law_1438 : ey F ini rt fin K0 K (decode cL_law 1438) 1438 L (.int x :: r) h cs ss = (K 1439 L (.long x.toInt64 :: r) h cs ss) := by
  rw [dL_law_1438, ey_ok, nx_i2l_24]
theorem qL_law_1439 : ey F ini rt fin K0 K (decode cL_law 1439) 1439 L (.long ly :: .long lx :: r) h cs ss = (K 1440 L (.int (lg_cmp lx ly) :: r) h cs ss) := by
  rw [dL_law_1439, ey_ok, nx_lcmp_26]
theorem qL_law_1440 : ey F ini rt fin K0 K (decode cL_law 1440) 1440 L (.int x :: r) h cs ss = (if x = 0 then K 1445 L r h cs ss else K 1443 L r h cs ss) := by
  rw [dL_law_1440, ey_ok, nx_ifond_30]
  exact and_l (by unfold jok; decide)
theorem qL_law_1443 : ey F ini rt fin K0 K (decode cL_law 1443) 1443 L (st) h cs ss = (K 1444 L (.int 0 :: st) h cs ss) := by
  rw [dL_law_1443, ey_ok, nx_iconst_11] <;> rfl
theorem qL_law_1444 : ey F ini rt fin K0 K (decode cL_law 1444) 1444 L ([.int x]) h cs ss = (rokI rt x ∧ fin (some (.int x)) h cs ss) := by
  rw [dL_law_1444, ey_ok, nx_ireturn_68]
theorem qL_law_1445 : ey F ini rt fin K0 K (decode cL_law 1445) 1445 L (st) h cs ss = (K 1629 L st h cs ss) := by
  rw [dL_law_1445, ey_ok, nx_goto_29]
  exact and_l (by unfold jok; decide)
theorem qL_law_1448 : ey F ini rt fin K0 K (decode cL_law 1448) 1448 L (st) h cs ss = (lhas L 1 ∧ isRf (lgt L 1) ∧ K 1449 L (lgt L 1 :: st) h cs ss) := by
  rw [dL_law_1448, ey_ok, nx_aload_n_3] <;> rfl
theorem qL_law_1449 : ey F ini rt fin K0 K (decode cL_law 1449) 1449 L (st) h cs ss = (lhas L 0 ∧ isRf (lgt L 0) ∧ K 1450 L (lgt L 0 :: st) h cs ss) := by
  rw [dL_law_1449, ey_ok, nx_aload_n_3] <;> rfl
theorem qL_law_1450 : ey F ini rt fin K0 K (decode cL_law 1450) 1450 L (st) h cs ss = (lhas L 4 ∧ isI (lgt L 4) ∧ K 1452 L (lgt L 4 :: st) h cs ss) := by
  rw [dL_law_1450, ey_ok, nx_iload_0] <;> rfl
theorem qL_law_1452 : ey F ini rt fin K0 K (decode cL_law 1452) 1452 L (st) h cs ss = (K 1453 L (.int 1 :: st) h cs ss) := by
  rw [dL_law_1452, ey_ok, nx_iconst_11] <;> rfl
theorem qL_law_1453 : ey F ini rt fin K0 K (decode cL_law 1453) 1453 L (.int y :: .int x :: r) h cs ss = (K 1454 L (.int (x + y) :: r) h cs ss) := by
  rw [dL_law_1453, ey_ok, nx_iadd_16]
theorem qL_law_1454 : ey F ini rt fin K0 K (decode cL_law 1454) 1454 L (.int i :: .ref a :: r) h cs ss = (isA (h.1 a) (fun k m => k = 0 ∧ vp_in i m) ∧ K 1455 L (h.2 a i.toNatClampNeg :: r) h cs ss) := by
  rw [dL_law_1454, ey_ok, nx_iaload_57]
theorem qL_law_1455 : ey F ini rt fin K0 K (decode cL_law 1455) 1455 L (st) h cs ss = (lhas L 3 ∧ isRf (lgt L 3) ∧ K 1456 L (lgt L 3 :: st) h cs ss) := by
  rw [dL_law_1455, ey_ok, nx_aload_n_3] <;> rfl
theorem qL_law_1456 : ey F ini rt fin K0 K (decode cL_law 1456) 1456 L (st) h cs ss = (K0 1456 L st h cs ss) := by
  rw [dL_law_1456, ey_ok, nx_invokestatic_73]
theorem qL_law_1459 : ey F ini rt fin K0 K (decode cL_law 1459) 1459 L (.int x :: r) h cs ss = (5 < L.length ∧ K 1461 (L.set 5 (some (.int x))) r h cs ss) := by
  rw [dL_law_1459, ey_ok, nx_istore_4] <;> rfl
theorem qL_law_1461 : ey F ini rt fin K0 K (decode cL_law 1461) 1461 L (st) h cs ss = (lhas L 2 ∧ isRf (lgt L 2) ∧ K 1462 L (lgt L 2 :: st) h cs ss) := by
  rw [dL_law_1461, ey_ok, nx_aload_n_3] <;> rfl
theorem qL_law_1462 : ey F ini rt fin K0 K (decode cL_law 1462) 1462 L (st) h cs ss = (lhas L 0 ∧ isRf (lgt L 0) ∧ K 1463 L (lgt L 0 :: st) h cs ss) := by
  rw [dL_law_1462, ey_ok, nx_aload_n_3] <;> rfl
theorem qL_law_1463 : ey F ini rt fin K0 K (decode cL_law 1463) 1463 L (st) h cs ss = (lhas L 4 ∧ isI (lgt L 4) ∧ K 1465 L (lgt L 4 :: st) h cs ss) := by
  rw [dL_law_1463, ey_ok, nx_iload_0] <;> rfl
theorem qL_law_1465 : ey F ini rt fin K0 K (decode cL_law 1465) 1465 L (st) h cs ss = (K 1466 L (.int 1 :: st) h cs ss) := by
  rw [dL_law_1465, ey_ok, nx_iconst_11] <;> rfl
theorem qL_law_1466 : ey F ini rt fin K0 K (decode cL_law 1466) 1466 L (.int y :: .int x :: r) h cs ss = (K 1467 L (.int (x + y) :: r) h cs ss) := by
  rw [dL_law_1466, ey_ok, nx_iadd_16]
theorem qL_law_1467 : ey F ini rt fin K0 K (decode cL_law 1467) 1467 L (.int i :: .ref a :: r) h cs ss = (isA (h.1 a) (fun k m => k = 0 ∧ vp_in i m) ∧ K 1468 L (h.2 a i.toNatClampNeg :: r) h cs ss) := by
  rw [dL_law_1467, ey_ok, nx_iaload_57]
theorem qL_law_1468 : ey F ini rt fin K0 K (decode cL_law 1468) 1468 L (st) h cs ss = (K0 1468 L st h cs ss) := by
  rw [dL_law_1468, ey_ok, nx_invokevirtual_72]
theorem qL_law_1471 : ey F ini rt fin K0 K (decode cL_law 1471) 1471 L (.int x :: r) h cs ss = (6 < L.length ∧ K 1473 (L.set 6 (some (.int x))) r h cs ss) := by
  rw [dL_law_1471, ey_ok, nx_istore_4] <;> rfl
theorem qL_law_1473 : ey F ini rt fin K0 K (decode cL_law 1473) 1473 L (st) h cs ss = (lhas L 2 ∧ isRf (lgt L 2) ∧ K 1474 L (lgt L 2 :: st) h cs ss) := by
  rw [dL_law_1473, ey_ok, nx_aload_n_3] <;> rfl
theorem qL_law_1474 : ey F ini rt fin K0 K (decode cL_law 1474) 1474 L (st) h cs ss = (K0 1474 L st h cs ss) := by
  rw [dL_law_1474, ey_ok, nx_invokevirtual_72]
theorem qL_law_1477 : ey F ini rt fin K0 K (decode cL_law 1477) 1477 L (st) h cs ss = (lhas L 5 ∧ isI (lgt L 5) ∧ K 1479 L (lgt L 5 :: st) h cs ss) := by
  rw [dL_law_1477, ey_ok, nx_iload_0] <;> rfl
theorem qL_law_1479 : ey F ini rt fin K0 K (decode cL_law 1479) 1479 L (.int y :: .int x :: r) h cs ss = (if x = y then K 1484 L r h cs ss else K 1482 L r h cs ss) := by
  rw [dL_law_1479, ey_ok, nx_if_icmp_36]
  exact and_l (by unfold jok; decide)
theorem qL_law_1482 : ey F ini rt fin K0 K (decode cL_law 1482) 1482 L (st) h cs ss = (K 1483 L (.int 0 :: st) h cs ss) := by
  rw [dL_law_1482, ey_ok, nx_iconst_11] <;> rfl
theorem qL_law_1483 : ey F ini rt fin K0 K (decode cL_law 1483) 1483 L ([.int x]) h cs ss = (rokI rt x ∧ fin (some (.int x)) h cs ss) := by
  rw [dL_law_1483, ey_ok, nx_ireturn_68]
theorem qL_law_1484 : ey F ini rt fin K0 K (decode cL_law 1484) 1484 L (st) h cs ss = (lhas L 5 ∧ isI (lgt L 5) ∧ K 1486 L (lgt L 5 :: st) h cs ss) := by
  rw [dL_law_1484, ey_ok, nx_iload_0] <;> rfl
theorem qL_law_1486 : ey F ini rt fin K0 K (decode cL_law 1486) 1486 L (.int x :: r) h cs ss = (if ¬ x = 0 then K 1501 L r h cs ss else K 1489 L r h cs ss) := by
  rw [dL_law_1486, ey_ok, nx_ifond_31]
  exact and_l (by unfold jok; decide)
theorem qL_law_1489 : ey F ini rt fin K0 K (decode cL_law 1489) 1489 L (st) h cs ss = (lhas L 3 ∧ isRf (lgt L 3) ∧ K 1490 L (lgt L 3 :: st) h cs ss) := by
  rw [dL_law_1489, ey_ok, nx_aload_n_3] <;> rfl
theorem qL_law_1490 : ey F ini rt fin K0 K (decode cL_law 1490) 1490 L (st) h cs ss = (K 1491 L (.int 0 :: st) h cs ss) := by
  rw [dL_law_1490, ey_ok, nx_iconst_11] <;> rfl
theorem qL_law_1491 : ey F ini rt fin K0 K (decode cL_law 1491) 1491 L (.int i :: .ref a :: r) h cs ss = (isA (h.1 a) (fun k m => k = 3 ∧ vp_in i m) ∧ K 1492 L (h.2 a i.toNatClampNeg :: r) h cs ss) := by
  rw [dL_law_1491, ey_ok, nx_laload_60]
theorem qL_law_1492 : ey F ini rt fin K0 K (decode cL_law 1492) 1492 L (st) h cs ss = (lhas L 6 ∧ isI (lgt L 6) ∧ K 1494 L (lgt L 6 :: st) h cs ss) := by
  rw [dL_law_1492, ey_ok, nx_iload_0] <;> rfl
theorem qL_law_1494 : ey F ini rt fin K0 K (decode cL_law 1494) 1494 L (.int x :: r) h cs ss = (K 1495 L (.long x.toInt64 :: r) h cs ss) := by
  rw [dL_law_1494, ey_ok, nx_i2l_24]
theorem qL_law_1495 : ey F ini rt fin K0 K (decode cL_law 1495) 1495 L (.long ly :: .long lx :: r) h cs ss = (K 1496 L (.int (lg_cmp lx ly) :: r) h cs ss) := by
  rw [dL_law_1495, ey_ok, nx_lcmp_26]
theorem qL_law_1496 : ey F ini rt fin K0 K (decode cL_law 1496) 1496 L (.int x :: r) h cs ss = (if x = 0 then K 1501 L r h cs ss else K 1499 L r h cs ss) := by
  rw [dL_law_1496, ey_ok, nx_ifond_30]
  exact and_l (by unfold jok; decide)
theorem qL_law_1499 : ey F ini rt fin K0 K (decode cL_law 1499) 1499 L (st) h cs ss = (K 1500 L (.int 0 :: st) h cs ss) := by
  rw [dL_law_1499, ey_ok, nx_iconst_11] <;> rfl
theorem qL_law_1500 : ey F ini rt fin K0 K (decode cL_law 1500) 1500 L ([.int x]) h cs ss = (rokI rt x ∧ fin (some (.int x)) h cs ss) := by
  rw [dL_law_1500, ey_ok, nx_ireturn_68]
theorem qL_law_1501 : ey F ini rt fin K0 K (decode cL_law 1501) 1501 L (st) h cs ss = (K 1629 L st h cs ss) := by
  rw [dL_law_1501, ey_ok, nx_goto_29]
  exact and_l (by unfold jok; decide)
theorem qL_law_1504 : ey F ini rt fin K0 K (decode cL_law 1504) 1504 L (st) h cs ss = (lhas L 1 ∧ isRf (lgt L 1) ∧ K 1505 L (lgt L 1 :: st) h cs ss) := by
  rw [dL_law_1504, ey_ok, nx_aload_n_3] <;> rfl
theorem qL_law_1505 : ey F ini rt fin K0 K (decode cL_law 1505) 1505 L (st) h cs ss = (K0 1505 L st h cs ss) := by
  rw [dL_law_1505, ey_ok, nx_invokevirtual_72]
theorem qL_law_1508 : ey F ini rt fin K0 K (decode cL_law 1508) 1508 L (st) h cs ss = (lhas L 2 ∧ isRf (lgt L 2) ∧ K 1509 L (lgt L 2 :: st) h cs ss) := by
  rw [dL_law_1508, ey_ok, nx_aload_n_3] <;> rfl
theorem qL_law_1509 : ey F ini rt fin K0 K (decode cL_law 1509) 1509 L (st) h cs ss = (K0 1509 L st h cs ss) := by
  rw [dL_law_1509, ey_ok, nx_invokevirtual_72]
theorem qL_law_1512 : ey F ini rt fin K0 K (decode cL_law 1512) 1512 L (.int y :: .int x :: r) h cs ss = (if x = y then K 1629 L r h cs ss else K 1515 L r h cs ss) := by
  rw [dL_law_1512, ey_ok, nx_if_icmp_36]
  exact and_l (by unfold jok; decide)
theorem qL_law_1515 : ey F ini rt fin K0 K (decode cL_law 1515) 1515 L (st) h cs ss = (K 1516 L (.int 0 :: st) h cs ss) := by
  rw [dL_law_1515, ey_ok, nx_iconst_11] <;> rfl
theorem qL_law_1516 : ey F ini rt fin K0 K (decode cL_law 1516) 1516 L ([.int x]) h cs ss = (rokI rt x ∧ fin (some (.int x)) h cs ss) := by
  rw [dL_law_1516, ey_ok, nx_ireturn_68]
theorem qL_law_1517 : ey F ini rt fin K0 K (decode cL_law 1517) 1517 L (st) h cs ss = (lhas L 1 ∧ isRf (lgt L 1) ∧ K 1518 L (lgt L 1 :: st) h cs ss) := by
  rw [dL_law_1517, ey_ok, nx_aload_n_3] <;> rfl
theorem qL_law_1518 : ey F ini rt fin K0 K (decode cL_law 1518) 1518 L (st) h cs ss = (lhas L 0 ∧ isRf (lgt L 0) ∧ K 1519 L (lgt L 0 :: st) h cs ss) := by
  rw [dL_law_1518, ey_ok, nx_aload_n_3] <;> rfl
theorem qL_law_1519 : ey F ini rt fin K0 K (decode cL_law 1519) 1519 L (st) h cs ss = (lhas L 4 ∧ isI (lgt L 4) ∧ K 1521 L (lgt L 4 :: st) h cs ss) := by
  rw [dL_law_1519, ey_ok, nx_iload_0] <;> rfl
theorem qL_law_1521 : ey F ini rt fin K0 K (decode cL_law 1521) 1521 L (st) h cs ss = (K 1522 L (.int 1 :: st) h cs ss) := by
  rw [dL_law_1521, ey_ok, nx_iconst_11] <;> rfl
theorem qL_law_1522 : ey F ini rt fin K0 K (decode cL_law 1522) 1522 L (.int y :: .int x :: r) h cs ss = (K 1523 L (.int (x + y) :: r) h cs ss) := by
  rw [dL_law_1522, ey_ok, nx_iadd_16]
theorem qL_law_1523 : ey F ini rt fin K0 K (decode cL_law 1523) 1523 L (.int i :: .ref a :: r) h cs ss = (isA (h.1 a) (fun k m => k = 0 ∧ vp_in i m) ∧ K 1524 L (h.2 a i.toNatClampNeg :: r) h cs ss) := by
  rw [dL_law_1523, ey_ok, nx_iaload_57]
theorem qL_law_1524 : ey F ini rt fin K0 K (decode cL_law 1524) 1524 L (st) h cs ss = (lhas L 3 ∧ isRf (lgt L 3) ∧ K 1525 L (lgt L 3 :: st) h cs ss) := by
  rw [dL_law_1524, ey_ok, nx_aload_n_3] <;> rfl
theorem qL_law_1525 : ey F ini rt fin K0 K (decode cL_law 1525) 1525 L (st) h cs ss = (K0 1525 L st h cs ss) := by
  rw [dL_law_1525, ey_ok, nx_invokestatic_73]
theorem qL_law_1528 : ey F ini rt fin K0 K (decode cL_law 1528) 1528 L (.int x :: r) h cs ss = (5 < L.length ∧ K 1530 (L.set 5 (some (.int x))) r h cs ss) := by
  rw [dL_law_1528, ey_ok, nx_istore_4] <;> rfl
theorem qL_law_1530 : ey F ini rt fin K0 K (decode cL_law 1530) 1530 L (st) h cs ss = (lhas L 2 ∧ isRf (lgt L 2) ∧ K 1531 L (lgt L 2 :: st) h cs ss) := by
  rw [dL_law_1530, ey_ok, nx_aload_n_3] <;> rfl
theorem qL_law_1531 : ey F ini rt fin K0 K (decode cL_law 1531) 1531 L (st) h cs ss = (lhas L 0 ∧ isRf (lgt L 0) ∧ K 1532 L (lgt L 0 :: st) h cs ss) := by
  rw [dL_law_1531, ey_ok, nx_aload_n_3] <;> rfl
theorem qL_law_1532 : ey F ini rt fin K0 K (decode cL_law 1532) 1532 L (st) h cs ss = (lhas L 4 ∧ isI (lgt L 4) ∧ K 1534 L (lgt L 4 :: st) h cs ss) := by
  rw [dL_law_1532, ey_ok, nx_iload_0] <;> rfl
theorem qL_law_1534 : ey F ini rt fin K0 K (decode cL_law 1534) 1534 L (st) h cs ss = (K 1535 L (.int 1 :: st) h cs ss) := by
  rw [dL_law_1534, ey_ok, nx_iconst_11] <;> rfl
theorem qL_law_1535 : ey F ini rt fin K0 K (decode cL_law 1535) 1535 L (.int y :: .int x :: r) h cs ss = (K 1536 L (.int (x + y) :: r) h cs ss) := by
  rw [dL_law_1535, ey_ok, nx_iadd_16]
theorem qL_law_1536 : ey F ini rt fin K0 K (decode cL_law 1536) 1536 L (.int i :: .ref a :: r) h cs ss = (isA (h.1 a) (fun k m => k = 0 ∧ vp_in i m) ∧ K 1537 L (h.2 a i.toNatClampNeg :: r) h cs ss) := by
  rw [dL_law_1536, ey_ok, nx_iaload_57]
theorem qL_law_1537 : ey F ini rt fin K0 K (decode cL_law 1537) 1537 L (st) h cs ss = (K0 1537 L st h cs ss) := by
  rw [dL_law_1537, ey_ok, nx_invokevirtual_72]
theorem qL_law_1540 : ey F ini rt fin K0 K (decode cL_law 1540) 1540 L (.int x :: r) h cs ss = (6 < L.length ∧ K 1542 (L.set 6 (some (.int x))) r h cs ss) := by
  rw [dL_law_1540, ey_ok, nx_istore_4] <;> rfl
theorem qL_law_1542 : ey F ini rt fin K0 K (decode cL_law 1542) 1542 L (st) h cs ss = (lhas L 2 ∧ isRf (lgt L 2) ∧ K 1543 L (lgt L 2 :: st) h cs ss) := by
  rw [dL_law_1542, ey_ok, nx_aload_n_3] <;> rfl
theorem qL_law_1543 : ey F ini rt fin K0 K (decode cL_law 1543) 1543 L (st) h cs ss = (K0 1543 L st h cs ss) := by
  rw [dL_law_1543, ey_ok, nx_invokevirtual_72]
theorem qL_law_1546 : ey F ini rt fin K0 K (decode cL_law 1546) 1546 L (st) h cs ss = (lhas L 5 ∧ isI (lgt L 5) ∧ K 1548 L (lgt L 5 :: st) h cs ss) := by
  rw [dL_law_1546, ey_ok, nx_iload_0] <;> rfl
theorem qL_law_1548 : ey F ini rt fin K0 K (decode cL_law 1548) 1548 L (.int y :: .int x :: r) h cs ss = (if x = y then K 1553 L r h cs ss else K 1551 L r h cs ss) := by
  rw [dL_law_1548, ey_ok, nx_if_icmp_36]
  exact and_l (by unfold jok; decide)
theorem qL_law_1551 : ey F ini rt fin K0 K (decode cL_law 1551) 1551 L (st) h cs ss = (K 1552 L (.int 0 :: st) h cs ss) := by
  rw [dL_law_1551, ey_ok, nx_iconst_11] <;> rfl
theorem qL_law_1552 : ey F ini rt fin K0 K (decode cL_law 1552) 1552 L ([.int x]) h cs ss = (rokI rt x ∧ fin (some (.int x)) h cs ss) := by
  rw [dL_law_1552, ey_ok, nx_ireturn_68]
theorem qL_law_1553 : ey F ini rt fin K0 K (decode cL_law 1553) 1553 L (st) h cs ss = (lhas L 5 ∧ isI (lgt L 5) ∧ K 1555 L (lgt L 5 :: st) h cs ss) := by
  rw [dL_law_1553, ey_ok, nx_iload_0] <;> rfl
theorem qL_law_1555 : ey F ini rt fin K0 K (decode cL_law 1555) 1555 L (.int x :: r) h cs ss = (if ¬ x = 0 then K 1570 L r h cs ss else K 1558 L r h cs ss) := by
  rw [dL_law_1555, ey_ok, nx_ifond_31]
  exact and_l (by unfold jok; decide)
theorem qL_law_1558 : ey F ini rt fin K0 K (decode cL_law 1558) 1558 L (st) h cs ss = (lhas L 3 ∧ isRf (lgt L 3) ∧ K 1559 L (lgt L 3 :: st) h cs ss) := by
  rw [dL_law_1558, ey_ok, nx_aload_n_3] <;> rfl
theorem qL_law_1559 : ey F ini rt fin K0 K (decode cL_law 1559) 1559 L (st) h cs ss = (K 1560 L (.int 0 :: st) h cs ss) := by
  rw [dL_law_1559, ey_ok, nx_iconst_11] <;> rfl
theorem qL_law_1560 : ey F ini rt fin K0 K (decode cL_law 1560) 1560 L (.int i :: .ref a :: r) h cs ss = (isA (h.1 a) (fun k m => k = 3 ∧ vp_in i m) ∧ K 1561 L (h.2 a i.toNatClampNeg :: r) h cs ss) := by
  rw [dL_law_1560, ey_ok, nx_laload_60]
theorem qL_law_1561 : ey F ini rt fin K0 K (decode cL_law 1561) 1561 L (st) h cs ss = (lhas L 6 ∧ isI (lgt L 6) ∧ K 1563 L (lgt L 6 :: st) h cs ss) := by
  rw [dL_law_1561, ey_ok, nx_iload_0] <;> rfl
theorem qL_law_1563 : ey F ini rt fin K0 K (decode cL_law 1563) 1563 L (.int x :: r) h cs ss = (K 1564 L (.long x.toInt64 :: r) h cs ss) := by
  rw [dL_law_1563, ey_ok, nx_i2l_24]
theorem qL_law_1564 : ey F ini rt fin K0 K (decode cL_law 1564) 1564 L (.long ly :: .long lx :: r) h cs ss = (K 1565 L (.int (lg_cmp lx ly) :: r) h cs ss) := by
  rw [dL_law_1564, ey_ok, nx_lcmp_26]
theorem qL_law_1565 : ey F ini rt fin K0 K (decode cL_law 1565) 1565 L (.int x :: r) h cs ss = (if x = 0 then K 1570 L r h cs ss else K 1568 L r h cs ss) := by
  rw [dL_law_1565, ey_ok, nx_ifond_30]
  exact and_l (by unfold jok; decide)
theorem qL_law_1568 : ey F ini rt fin K0 K (decode cL_law 1568) 1568 L (st) h cs ss = (K 1569 L (.int 0 :: st) h cs ss) := by
  rw [dL_law_1568, ey_ok, nx_iconst_11] <;> rfl
theorem qL_law_1569 : ey F ini rt fin K0 K (decode cL_law 1569) 1569 L ([.int x]) h cs ss = (rokI rt x ∧ fin (some (.int x)) h cs ss) := by
  rw [dL_law_1569, ey_ok, nx_ireturn_68]
theorem qL_law_1570 : ey F ini rt fin K0 K (decode cL_law 1570) 1570 L (st) h cs ss = (K 1629 L st h cs ss) := by
  rw [dL_law_1570, ey_ok, nx_goto_29]
  exact and_l (by unfold jok; decide)
theorem qL_law_1573 : ey F ini rt fin K0 K (decode cL_law 1573) 1573 L (st) h cs ss = (lhas L 1 ∧ isRf (lgt L 1) ∧ K 1574 L (lgt L 1 :: st) h cs ss) := by
  rw [dL_law_1573, ey_ok, nx_aload_n_3] <;> rfl
theorem qL_law_1574 : ey F ini rt fin K0 K (decode cL_law 1574) 1574 L (st) h cs ss = (lhas L 0 ∧ isRf (lgt L 0) ∧ K 1575 L (lgt L 0 :: st) h cs ss) := by
  rw [dL_law_1574, ey_ok, nx_aload_n_3] <;> rfl
theorem qL_law_1575 : ey F ini rt fin K0 K (decode cL_law 1575) 1575 L (st) h cs ss = (lhas L 4 ∧ isI (lgt L 4) ∧ K 1577 L (lgt L 4 :: st) h cs ss) := by
  rw [dL_law_1575, ey_ok, nx_iload_0] <;> rfl
theorem qL_law_1577 : ey F ini rt fin K0 K (decode cL_law 1577) 1577 L (st) h cs ss = (K 1578 L (.int 1 :: st) h cs ss) := by
  rw [dL_law_1577, ey_ok, nx_iconst_11] <;> rfl
theorem qL_law_1578 : ey F ini rt fin K0 K (decode cL_law 1578) 1578 L (.int y :: .int x :: r) h cs ss = (K 1579 L (.int (x + y) :: r) h cs ss) := by
  rw [dL_law_1578, ey_ok, nx_iadd_16]
theorem qL_law_1579 : ey F ini rt fin K0 K (decode cL_law 1579) 1579 L (.int i :: .ref a :: r) h cs ss = (isA (h.1 a) (fun k m => k = 0 ∧ vp_in i m) ∧ K 1580 L (h.2 a i.toNatClampNeg :: r) h cs ss) := by
  rw [dL_law_1579, ey_ok, nx_iaload_57]
theorem qL_law_1580 : ey F ini rt fin K0 K (decode cL_law 1580) 1580 L (st) h cs ss = (lhas L 3 ∧ isRf (lgt L 3) ∧ K 1581 L (lgt L 3 :: st) h cs ss) := by
  rw [dL_law_1580, ey_ok, nx_aload_n_3] <;> rfl
theorem qL_law_1581 : ey F ini rt fin K0 K (decode cL_law 1581) 1581 L (st) h cs ss = (K0 1581 L st h cs ss) := by
  rw [dL_law_1581, ey_ok, nx_invokestatic_73]
theorem qL_law_1584 : ey F ini rt fin K0 K (decode cL_law 1584) 1584 L (.int x :: r) h cs ss = (5 < L.length ∧ K 1586 (L.set 5 (some (.int x))) r h cs ss) := by
  rw [dL_law_1584, ey_ok, nx_istore_4] <;> rfl
theorem qL_law_1586 : ey F ini rt fin K0 K (decode cL_law 1586) 1586 L (st) h cs ss = (lhas L 2 ∧ isRf (lgt L 2) ∧ K 1587 L (lgt L 2 :: st) h cs ss) := by
  rw [dL_law_1586, ey_ok, nx_aload_n_3] <;> rfl
theorem qL_law_1587 : ey F ini rt fin K0 K (decode cL_law 1587) 1587 L (st) h cs ss = (lhas L 0 ∧ isRf (lgt L 0) ∧ K 1588 L (lgt L 0 :: st) h cs ss) := by
  rw [dL_law_1587, ey_ok, nx_aload_n_3] <;> rfl
theorem qL_law_1588 : ey F ini rt fin K0 K (decode cL_law 1588) 1588 L (st) h cs ss = (lhas L 4 ∧ isI (lgt L 4) ∧ K 1590 L (lgt L 4 :: st) h cs ss) := by
  rw [dL_law_1588, ey_ok, nx_iload_0] <;> rfl
theorem qL_law_1590 : ey F ini rt fin K0 K (decode cL_law 1590) 1590 L (st) h cs ss = (K 1591 L (.int 1 :: st) h cs ss) := by
  rw [dL_law_1590, ey_ok, nx_iconst_11] <;> rfl
theorem qL_law_1591 : ey F ini rt fin K0 K (decode cL_law 1591) 1591 L (.int y :: .int x :: r) h cs ss = (K 1592 L (.int (x + y) :: r) h cs ss) := by
  rw [dL_law_1591, ey_ok, nx_iadd_16]
theorem qL_law_1592 : ey F ini rt fin K0 K (decode cL_law 1592) 1592 L (.int i :: .ref a :: r) h cs ss = (isA (h.1 a) (fun k m => k = 0 ∧ vp_in i m) ∧ K 1593 L (h.2 a i.toNatClampNeg :: r) h cs ss) := by
  rw [dL_law_1592, ey_ok, nx_iaload_57]
theorem qL_law_1593 : ey F ini rt fin K0 K (decode cL_law 1593) 1593 L (st) h cs ss = (K0 1593 L st h cs ss) := by
  rw [dL_law_1593, ey_ok, nx_invokevirtual_72]
theorem qL_law_1596 : ey F ini rt fin K0 K (decode cL_law 1596) 1596 L (.int x :: r) h cs ss = (6 < L.length ∧ K 1598 (L.set 6 (some (.int x))) r h cs ss) := by
  rw [dL_law_1596, ey_ok, nx_istore_4] <;> rfl
theorem qL_law_1598 : ey F ini rt fin K0 K (decode cL_law 1598) 1598 L (st) h cs ss = (lhas L 2 ∧ isRf (lgt L 2) ∧ K 1599 L (lgt L 2 :: st) h cs ss) := by
  rw [dL_law_1598, ey_ok, nx_aload_n_3] <;> rfl
theorem qL_law_1599 : ey F ini rt fin K0 K (decode cL_law 1599) 1599 L (st) h cs ss = (K0 1599 L st h cs ss) := by
  rw [dL_law_1599, ey_ok, nx_invokevirtual_72]
theorem qL_law_1602 : ey F ini rt fin K0 K (decode cL_law 1602) 1602 L (st) h cs ss = (lhas L 5 ∧ isI (lgt L 5) ∧ K 1604 L (lgt L 5 :: st) h cs ss) := by
  rw [dL_law_1602, ey_ok, nx_iload_0] <;> rfl
theorem qL_law_1604 : ey F ini rt fin K0 K (decode cL_law 1604) 1604 L (.int y :: .int x :: r) h cs ss = (if x = y then K 1609 L r h cs ss else K 1607 L r h cs ss) := by
  rw [dL_law_1604, ey_ok, nx_if_icmp_36]
  exact and_l (by unfold jok; decide)
theorem qL_law_1607 : ey F ini rt fin K0 K (decode cL_law 1607) 1607 L (st) h cs ss = (K 1608 L (.int 0 :: st) h cs ss) := by
  rw [dL_law_1607, ey_ok, nx_iconst_11] <;> rfl
theorem qL_law_1608 : ey F ini rt fin K0 K (decode cL_law 1608) 1608 L ([.int x]) h cs ss = (rokI rt x ∧ fin (some (.int x)) h cs ss) := by
  rw [dL_law_1608, ey_ok, nx_ireturn_68]
theorem qL_law_1609 : ey F ini rt fin K0 K (decode cL_law 1609) 1609 L (st) h cs ss = (lhas L 5 ∧ isI (lgt L 5) ∧ K 1611 L (lgt L 5 :: st) h cs ss) := by
  rw [dL_law_1609, ey_ok, nx_iload_0] <;> rfl
theorem qL_law_1611 : ey F ini rt fin K0 K (decode cL_law 1611) 1611 L (.int x :: r) h cs ss = (if ¬ x = 0 then K 1626 L r h cs ss else K 1614 L r h cs ss) := by
  rw [dL_law_1611, ey_ok, nx_ifond_31]
  exact and_l (by unfold jok; decide)
theorem qL_law_1614 : ey F ini rt fin K0 K (decode cL_law 1614) 1614 L (st) h cs ss = (lhas L 3 ∧ isRf (lgt L 3) ∧ K 1615 L (lgt L 3 :: st) h cs ss) := by
  rw [dL_law_1614, ey_ok, nx_aload_n_3] <;> rfl
theorem qL_law_1615 : ey F ini rt fin K0 K (decode cL_law 1615) 1615 L (st) h cs ss = (K 1616 L (.int 0 :: st) h cs ss) := by
  rw [dL_law_1615, ey_ok, nx_iconst_11] <;> rfl
theorem qL_law_1616 : ey F ini rt fin K0 K (decode cL_law 1616) 1616 L (.int i :: .ref a :: r) h cs ss = (isA (h.1 a) (fun k m => k = 3 ∧ vp_in i m) ∧ K 1617 L (h.2 a i.toNatClampNeg :: r) h cs ss) := by
  rw [dL_law_1616, ey_ok, nx_laload_60]
theorem qL_law_1617 : ey F ini rt fin K0 K (decode cL_law 1617) 1617 L (st) h cs ss = (lhas L 6 ∧ isI (lgt L 6) ∧ K 1619 L (lgt L 6 :: st) h cs ss) := by
  rw [dL_law_1617, ey_ok, nx_iload_0] <;> rfl
theorem qL_law_1619 : ey F ini rt fin K0 K (decode cL_law 1619) 1619 L (.int x :: r) h cs ss = (K 1620 L (.long x.toInt64 :: r) h cs ss) := by
  rw [dL_law_1619, ey_ok, nx_i2l_24]
theorem qL_law_1620 : ey F ini rt fin K0 K (decode cL_law 1620) 1620 L (.long ly :: .long lx :: r) h cs ss = (K 1621 L (.int (lg_cmp lx ly) :: r) h cs ss) := by
  rw [dL_law_1620, ey_ok, nx_lcmp_26]
theorem qL_law_1621 : ey F ini rt fin K0 K (decode cL_law 1621) 1621 L (.int x :: r) h cs ss = (if x = 0 then K 1626 L r h cs ss else K 1624 L r h cs ss) := by
  rw [dL_law_1621, ey_ok, nx_ifond_30]
  exact and_l (by unfold jok; decide)
theorem qL_law_1624 : ey F ini rt fin K0 K (decode cL_law 1624) 1624 L (st) h cs ss = (K 1625 L (.int 0 :: st) h cs ss) := by
  rw [dL_law_1624, ey_ok, nx_iconst_11] <;> rfl
theorem qL_law_1625 : ey F ini rt fin K0 K (decode cL_law 1625) 1625 L ([.int x]) h cs ss = (rokI rt x ∧ fin (some (.int x)) h cs ss) := by
  rw [dL_law_1625, ey_ok, nx_ireturn_68]
theorem qL_law_1626 : ey F ini rt fin K0 K (decode cL_law 1626) 1626 L (st) h cs ss = (K 1629 L st h cs ss) := by
  rw [dL_law_1626, ey_ok, nx_goto_29]
  exact and_l (by unfold jok; decide)
theorem qL_law_1629 : ey F ini rt fin K0 K (decode cL_law 1629) 1629 L (st) h cs ss = (lhas L 4 ∧ isI (lgt L 4) ∧ K 1632 (L.set 4 (some (inc (lgt L 4) 4))) st h cs ss) := by
  rw [dL_law_1629, ey_ok, nx_iinc_10] <;> rfl
theorem qL_law_1632 : ey F ini rt fin K0 K (decode cL_law 1632) 1632 L (st) h cs ss = (K 23 L st h cs ss) := by
  rw [dL_law_1632, ey_ok, nx_goto_29]
  exact and_l (by unfold jok; decide)
theorem qL_law_1635 : ey F ini rt fin K0 K (decode cL_law 1635) 1635 L (st) h cs ss = (K 1636 L (.int 1 :: st) h cs ss) := by
  rw [dL_law_1635, ey_ok, nx_iconst_11] <;> rfl
theorem qL_law_1636 : ey F ini rt fin K0 K (decode cL_law 1636) 1636 L ([.int x]) h cs ss = (rokI rt x ∧ fin (some (.int x)) h cs ss) := by
  rw [dL_law_1636, ey_ok, nx_ireturn_68]
end QQ
