theorem and_l {p q : Prop} (h : p) : (p ∧ q) = q := propext ⟨And.right, fun z => ⟨h, z⟩⟩
theorem and_m {p q r s : Prop} (h : r) : (p ∧ q ∧ r ∧ s) = (p ∧ q ∧ s) := propext ⟨fun z => ⟨z.1, z.2.1, z.2.2.2⟩, fun z => ⟨z.1, z.2.1, h, z.2.2⟩⟩
section QQ
variable {F : Nat → Option Fq} {ini : Option Nat} {rt : Option FieldType} {fin : Option Value → Hp → Nat → Nat → Prop} {K0 K : Kt} {L : List (Option Value)} {h : Hp} {cs ss : Nat} {r st : List Value} {x y i : Int32} {a a2 : Nat} {v v2 : Value} {lx ly : Int64}
theorem qX0_init_0 : ey FX0 ini rt fin K0 K (decode cX0_init 0) 0 L (st) h cs ss = (lhas L 0 ∧ isRf (lgt L 0) ∧ K 1 L (lgt L 0 :: st) h cs ss) := by
  rw [dX0_init_0, ey_ok, nx_aload_n_3] <;> rfl
theorem qX0_init_1 : ey FX0 ini rt fin K0 K (decode cX0_init 1) 1 L (st) h cs ss = (K0 1 L st h cs ss) := by
  rw [dX0_init_1, ey_ok, nx_invokespecial_74]
theorem qX0_init_4 : ey FX0 ini rt fin K0 K (decode cX0_init 4) 4 L (st) h cs ss = (lhas L 0 ∧ isRf (lgt L 0) ∧ K 5 L (lgt L 0 :: st) h cs ss) := by
  rw [dX0_init_4, ey_ok, nx_aload_n_3] <;> rfl
theorem qX0_init_5 : ey FX0 ini rt fin K0 K (decode cX0_init 5) 5 L (st) h cs ss = (K 6 L (.int 0 :: st) h cs ss) := by
  rw [dX0_init_5, ey_ok, nx_iconst_11] <;> rfl
theorem qX0_init_6 : ey FX0 ini rt fin K0 K (decode cX0_init 6) 6 L (v :: .ref a :: r) h cs ss = (h.1 a = some (.inl 0) ∧ okv (.int) v ∧ K 9 L r (h.1, hup h.2 a 4 v) cs ss) := by
  rw [dX0_init_6, ey_ok, nx_putfield_55]
  exact (and_l rfl).trans (and_m (fun z => nomatch z))
theorem qX0_init_9 : ey FX0 ini rt fin K0 K (decode cX0_init 9) 9 L (st) h cs ss = (lhas L 0 ∧ isRf (lgt L 0) ∧ K 10 L (lgt L 0 :: st) h cs ss) := by
  rw [dX0_init_9, ey_ok, nx_aload_n_3] <;> rfl
theorem qX0_init_10 : ey FX0 ini rt fin K0 K (decode cX0_init 10) 10 L (st) h cs ss = (lhas L 1 ∧ isRf (lgt L 1) ∧ K 11 L (lgt L 1 :: st) h cs ss) := by
  rw [dX0_init_10, ey_ok, nx_aload_n_3] <;> rfl
theorem qX0_init_11 : ey FX0 ini rt fin K0 K (decode cX0_init 11) 11 L (v :: .ref a :: r) h cs ss = (h.1 a = some (.inl 0) ∧ okv (.object "UnionClock$Worker") v ∧ (true = true → ini = some 0) ∧ K 14 L r (h.1, hup h.2 a 0 v) cs ss) := by
  rw [dX0_init_11, ey_ok, nx_putfield_55]
  exact and_l rfl
theorem qX0_init_14 : ey FX0 ini rt fin K0 K (decode cX0_init 14) 14 L (st) h cs ss = (lhas L 0 ∧ isRf (lgt L 0) ∧ K 15 L (lgt L 0 :: st) h cs ss) := by
  rw [dX0_init_14, ey_ok, nx_aload_n_3] <;> rfl
theorem qX0_init_15 : ey FX0 ini rt fin K0 K (decode cX0_init 15) 15 L (st) h cs ss = (lhas L 2 ∧ isRf (lgt L 2) ∧ K 16 L (lgt L 2 :: st) h cs ss) := by
  rw [dX0_init_15, ey_ok, nx_aload_n_3] <;> rfl
theorem qX0_init_16 : ey FX0 ini rt fin K0 K (decode cX0_init 16) 16 L (v :: .ref a :: r) h cs ss = (h.1 a = some (.inl 0) ∧ okv (.object "UnionClock$Shift") v ∧ (true = true → ini = some 0) ∧ K 19 L r (h.1, hup h.2 a 1 v) cs ss) := by
  rw [dX0_init_16, ey_ok, nx_putfield_55]
  exact and_l rfl
theorem qX0_init_19 : ey FX0 ini rt fin K0 K (decode cX0_init 19) 19 L (st) h cs ss = (lhas L 0 ∧ isRf (lgt L 0) ∧ K 20 L (lgt L 0 :: st) h cs ss) := by
  rw [dX0_init_19, ey_ok, nx_aload_n_3] <;> rfl
theorem qX0_init_20 : ey FX0 ini rt fin K0 K (decode cX0_init 20) 20 L (st) h cs ss = (lhas L 3 ∧ isRf (lgt L 3) ∧ K 21 L (lgt L 3 :: st) h cs ss) := by
  rw [dX0_init_20, ey_ok, nx_aload_n_3] <;> rfl
theorem qX0_init_21 : ey FX0 ini rt fin K0 K (decode cX0_init 21) 21 L (v :: .ref a :: r) h cs ss = (h.1 a = some (.inl 0) ∧ okv (.object "UnionClock$Rule") v ∧ (true = true → ini = some 0) ∧ K 24 L r (h.1, hup h.2 a 2 v) cs ss) := by
  rw [dX0_init_21, ey_ok, nx_putfield_55]
  exact and_l rfl
theorem qX0_init_24 : ey FX0 ini rt fin K0 K (decode cX0_init 24) 24 L (st) h cs ss = (lhas L 0 ∧ isRf (lgt L 0) ∧ K 25 L (lgt L 0 :: st) h cs ss) := by
  rw [dX0_init_24, ey_ok, nx_aload_n_3] <;> rfl
theorem qX0_init_25 : ey FX0 ini rt fin K0 K (decode cX0_init 25) 25 L (st) h cs ss = (lhas L 2 ∧ isRf (lgt L 2) ∧ K 26 L (lgt L 2 :: st) h cs ss) := by
  rw [dX0_init_25, ey_ok, nx_aload_n_3] <;> rfl
theorem qX0_init_26 : ey FX0 ini rt fin K0 K (decode cX0_init 26) 26 L (.ref a :: r) h cs ss = (h.1 a = some (.inl 4) ∧ K 29 L (h.2 a 7 :: r) h cs ss) := by
  rw [dX0_init_26, ey_ok, nx_getfield_54]
  exact and_l rfl
theorem qX0_init_29 : ey FX0 ini rt fin K0 K (decode cX0_init 29) 29 L (v :: .ref a :: r) h cs ss = (h.1 a = some (.inl 0) ∧ okv (.object "UnionClock$Claim") v ∧ (true = true → ini = some 0) ∧ K 32 L r (h.1, hup h.2 a 3 v) cs ss) := by
  rw [dX0_init_29, ey_ok, nx_putfield_55]
  exact and_l rfl
theorem qX0_init_32 : ey FX0 ini rt fin K0 K (decode cX0_init 32) 32 L ([]) h cs ss = (rt = none ∧ fin none h cs ss) := by
  rw [dX0_init_32, ey_ok, nx_return__71]
theorem qX0_isFounded_0 : ey FX0 ini rt fin K0 K (decode cX0_isFounded 0) 0 L (st) h cs ss = (lhas L 0 ∧ isRf (lgt L 0) ∧ K 1 L (lgt L 0 :: st) h cs ss) := by
  rw [dX0_isFounded_0, ey_ok, nx_aload_n_3] <;> rfl
theorem qX0_isFounded_1 : ey FX0 ini rt fin K0 K (decode cX0_isFounded 1) 1 L (.ref a :: r) h cs ss = (h.1 a = some (.inl 0) ∧ K 4 L (h.2 a 1 :: r) h cs ss) := by
  rw [dX0_isFounded_1, ey_ok, nx_getfield_54]
  exact and_l rfl
theorem qX0_isFounded_4 : ey FX0 ini rt fin K0 K (decode cX0_isFounded 4) 4 L (.ref a :: r) h cs ss = (h.1 a = some (.inl 4) ∧ K 7 L (h.2 a 6 :: r) h cs ss) := by
  rw [dX0_isFounded_4, ey_ok, nx_getfield_54]
  exact and_l rfl
theorem qX0_isFounded_7 : ey FX0 ini rt fin K0 K (decode cX0_isFounded 7) 7 L (st) h cs ss = (lhas L 0 ∧ isRf (lgt L 0) ∧ K 8 L (lgt L 0 :: st) h cs ss) := by
  rw [dX0_isFounded_7, ey_ok, nx_aload_n_3] <;> rfl
theorem qX0_isFounded_8 : ey FX0 ini rt fin K0 K (decode cX0_isFounded 8) 8 L (.ref a :: r) h cs ss = (h.1 a = some (.inl 0) ∧ K 11 L (h.2 a 0 :: r) h cs ss) := by
  rw [dX0_isFounded_8, ey_ok, nx_getfield_54]
  exact and_l rfl
theorem qX0_isFounded_11rr : ey FX0 ini rt fin K0 K (decode cX0_isFounded 11) 11 L (.ref a :: .ref a2 :: r) h cs ss = (if ¬ (a2 = a) then K 32 L r h cs ss else K 14 L r h cs ss) := by
  rw [dX0_isFounded_11, ey_ok, nx_if_acmp_46]
  exact and_l (by unfold jok; decide)
theorem qX0_isFounded_11nn : ey FX0 ini rt fin K0 K (decode cX0_isFounded 11) 11 L (.null :: .null :: r) h cs ss = (K 14 L r h cs ss) := by
  rw [dX0_isFounded_11, ey_ok, nx_if_acmp_47]
  exact and_l (by unfold jok; decide)
theorem qX0_isFounded_11nr : ey FX0 ini rt fin K0 K (decode cX0_isFounded 11) 11 L (.null :: .ref a :: r) h cs ss = (K 32 L r h cs ss) := by
  rw [dX0_isFounded_11, ey_ok, nx_if_acmp_48]
  exact and_l (by unfold jok; decide)
theorem qX0_isFounded_11rn : ey FX0 ini rt fin K0 K (decode cX0_isFounded 11) 11 L (.ref a :: .null :: r) h cs ss = (K 32 L r h cs ss) := by
  rw [dX0_isFounded_11, ey_ok, nx_if_acmp_49]
  exact and_l (by unfold jok; decide)
theorem qX0_isFounded_14 : ey FX0 ini rt fin K0 K (decode cX0_isFounded 14) 14 L (st) h cs ss = (lhas L 0 ∧ isRf (lgt L 0) ∧ K 15 L (lgt L 0 :: st) h cs ss) := by
  rw [dX0_isFounded_14, ey_ok, nx_aload_n_3] <;> rfl
theorem qX0_isFounded_15 : ey FX0 ini rt fin K0 K (decode cX0_isFounded 15) 15 L (.ref a :: r) h cs ss = (h.1 a = some (.inl 0) ∧ K 18 L (h.2 a 2 :: r) h cs ss) := by
  rw [dX0_isFounded_15, ey_ok, nx_getfield_54]
  exact and_l rfl
theorem qX0_isFounded_18 : ey FX0 ini rt fin K0 K (decode cX0_isFounded 18) 18 L (st) h cs ss = (lhas L 0 ∧ isRf (lgt L 0) ∧ K 19 L (lgt L 0 :: st) h cs ss) := by
  rw [dX0_isFounded_18, ey_ok, nx_aload_n_3] <;> rfl
theorem qX0_isFounded_19 : ey FX0 ini rt fin K0 K (decode cX0_isFounded 19) 19 L (.ref a :: r) h cs ss = (h.1 a = some (.inl 0) ∧ K 22 L (h.2 a 1 :: r) h cs ss) := by
  rw [dX0_isFounded_19, ey_ok, nx_getfield_54]
  exact and_l rfl
theorem qX0_isFounded_22 : ey FX0 ini rt fin K0 K (decode cX0_isFounded 22) 22 L (st) h cs ss = (K0 22 L st h cs ss) := by
  rw [dX0_isFounded_22, ey_ok, nx_invokevirtual_72]
theorem qX0_isFounded_25 : ey FX0 ini rt fin K0 K (decode cX0_isFounded 25) 25 L (.int x :: r) h cs ss = (if x = 0 then K 32 L r h cs ss else K 28 L r h cs ss) := by
  rw [dX0_isFounded_25, ey_ok, nx_ifond_30]
  exact and_l (by unfold jok; decide)
theorem qX0_isFounded_28 : ey FX0 ini rt fin K0 K (decode cX0_isFounded 28) 28 L (st) h cs ss = (K 29 L (.int 1 :: st) h cs ss) := by
  rw [dX0_isFounded_28, ey_ok, nx_iconst_11] <;> rfl
theorem qX0_isFounded_29 : ey FX0 ini rt fin K0 K (decode cX0_isFounded 29) 29 L (st) h cs ss = (K 33 L st h cs ss) := by
  rw [dX0_isFounded_29, ey_ok, nx_goto_29]
  exact and_l (by unfold jok; decide)
theorem qX0_isFounded_32 : ey FX0 ini rt fin K0 K (decode cX0_isFounded 32) 32 L (st) h cs ss = (K 33 L (.int 0 :: st) h cs ss) := by
  rw [dX0_isFounded_32, ey_ok, nx_iconst_11] <;> rfl
theorem qX0_isFounded_33 : ey FX0 ini rt fin K0 K (decode cX0_isFounded 33) 33 L ([.int x]) h cs ss = (rokI rt x ∧ fin (some (.int x)) h cs ss) := by
  rw [dX0_isFounded_33, ey_ok, nx_ireturn_68]
theorem qX0_lapse_0 : ey FX0 ini rt fin K0 K (decode cX0_lapse 0) 0 L (st) h cs ss = (lhas L 0 ∧ isRf (lgt L 0) ∧ K 1 L (lgt L 0 :: st) h cs ss) := by
  rw [dX0_lapse_0, ey_ok, nx_aload_n_3] <;> rfl
theorem qX0_lapse_1 : ey FX0 ini rt fin K0 K (decode cX0_lapse 1) 1 L (.ref a :: r) h cs ss = (h.1 a = some (.inl 0) ∧ K 4 L (h.2 a 4 :: r) h cs ss) := by
  rw [dX0_lapse_1, ey_ok, nx_getfield_54]
  exact and_l rfl
theorem qX0_lapse_4 : ey FX0 ini rt fin K0 K (decode cX0_lapse 4) 4 L (.int x :: r) h cs ss = (if ¬ x = 0 then K 14 L r h cs ss else K 7 L r h cs ss) := by
  rw [dX0_lapse_4, ey_ok, nx_ifond_31]
  exact and_l (by unfold jok; decide)
theorem qX0_lapse_7 : ey FX0 ini rt fin K0 K (decode cX0_lapse 7) 7 L (st) h cs ss = (lhas L 0 ∧ isRf (lgt L 0) ∧ K 8 L (lgt L 0 :: st) h cs ss) := by
  rw [dX0_lapse_7, ey_ok, nx_aload_n_3] <;> rfl
theorem qX0_lapse_8 : ey FX0 ini rt fin K0 K (decode cX0_lapse 8) 8 L (st) h cs ss = (K 9 L (.int 2 :: st) h cs ss) := by
  rw [dX0_lapse_8, ey_ok, nx_iconst_11] <;> rfl
theorem qX0_lapse_9 : ey FX0 ini rt fin K0 K (decode cX0_lapse 9) 9 L (v :: .ref a :: r) h cs ss = (h.1 a = some (.inl 0) ∧ okv (.int) v ∧ K 12 L r (h.1, hup h.2 a 4 v) cs ss) := by
  rw [dX0_lapse_9, ey_ok, nx_putfield_55]
  exact (and_l rfl).trans (and_m (fun z => nomatch z))
theorem qX0_lapse_12 : ey FX0 ini rt fin K0 K (decode cX0_lapse 12) 12 L (st) h cs ss = (K 13 L (.int 1 :: st) h cs ss) := by
  rw [dX0_lapse_12, ey_ok, nx_iconst_11] <;> rfl
theorem qX0_lapse_13 : ey FX0 ini rt fin K0 K (decode cX0_lapse 13) 13 L ([.int x]) h cs ss = (rokI rt x ∧ fin (some (.int x)) h cs ss) := by
  rw [dX0_lapse_13, ey_ok, nx_ireturn_68]
theorem qX0_lapse_14 : ey FX0 ini rt fin K0 K (decode cX0_lapse 14) 14 L (st) h cs ss = (lhas L 0 ∧ isRf (lgt L 0) ∧ K 15 L (lgt L 0 :: st) h cs ss) := by
  rw [dX0_lapse_14, ey_ok, nx_aload_n_3] <;> rfl
theorem qX0_lapse_15 : ey FX0 ini rt fin K0 K (decode cX0_lapse 15) 15 L (.ref a :: r) h cs ss = (h.1 a = some (.inl 0) ∧ K 18 L (h.2 a 4 :: r) h cs ss) := by
  rw [dX0_lapse_15, ey_ok, nx_getfield_54]
  exact and_l rfl
theorem qX0_lapse_18 : ey FX0 ini rt fin K0 K (decode cX0_lapse 18) 18 L (st) h cs ss = (K 19 L (.int 1 :: st) h cs ss) := by
  rw [dX0_lapse_18, ey_ok, nx_iconst_11] <;> rfl
theorem qX0_lapse_19 : ey FX0 ini rt fin K0 K (decode cX0_lapse 19) 19 L (.int y :: .int x :: r) h cs ss = (if ¬ x = y then K 29 L r h cs ss else K 22 L r h cs ss) := by
  rw [dX0_lapse_19, ey_ok, nx_if_icmp_37]
  exact and_l (by unfold jok; decide)
theorem qX0_lapse_22 : ey FX0 ini rt fin K0 K (decode cX0_lapse 22) 22 L (st) h cs ss = (lhas L 0 ∧ isRf (lgt L 0) ∧ K 23 L (lgt L 0 :: st) h cs ss) := by
  rw [dX0_lapse_22, ey_ok, nx_aload_n_3] <;> rfl
theorem qX0_lapse_23 : ey FX0 ini rt fin K0 K (decode cX0_lapse 23) 23 L (st) h cs ss = (K 24 L (.int 3 :: st) h cs ss) := by
  rw [dX0_lapse_23, ey_ok, nx_iconst_11] <;> rfl
theorem qX0_lapse_24 : ey FX0 ini rt fin K0 K (decode cX0_lapse 24) 24 L (v :: .ref a :: r) h cs ss = (h.1 a = some (.inl 0) ∧ okv (.int) v ∧ K 27 L r (h.1, hup h.2 a 4 v) cs ss) := by
  rw [dX0_lapse_24, ey_ok, nx_putfield_55]
  exact (and_l rfl).trans (and_m (fun z => nomatch z))
theorem qX0_lapse_27 : ey FX0 ini rt fin K0 K (decode cX0_lapse 27) 27 L (st) h cs ss = (K 28 L (.int 1 :: st) h cs ss) := by
  rw [dX0_lapse_27, ey_ok, nx_iconst_11] <;> rfl
theorem qX0_lapse_28 : ey FX0 ini rt fin K0 K (decode cX0_lapse 28) 28 L ([.int x]) h cs ss = (rokI rt x ∧ fin (some (.int x)) h cs ss) := by
  rw [dX0_lapse_28, ey_ok, nx_ireturn_68]
theorem qX0_lapse_29 : ey FX0 ini rt fin K0 K (decode cX0_lapse 29) 29 L (st) h cs ss = (K 30 L (.int 0 :: st) h cs ss) := by
  rw [dX0_lapse_29, ey_ok, nx_iconst_11] <;> rfl
theorem qX0_lapse_30 : ey FX0 ini rt fin K0 K (decode cX0_lapse 30) 30 L ([.int x]) h cs ss = (rokI rt x ∧ fin (some (.int x)) h cs ss) := by
  rw [dX0_lapse_30, ey_ok, nx_ireturn_68]
theorem qX0_revive_0 : ey FX0 ini rt fin K0 K (decode cX0_revive 0) 0 L (st) h cs ss = (lhas L 0 ∧ isRf (lgt L 0) ∧ K 1 L (lgt L 0 :: st) h cs ss) := by
  rw [dX0_revive_0, ey_ok, nx_aload_n_3] <;> rfl
theorem qX0_revive_1 : ey FX0 ini rt fin K0 K (decode cX0_revive 1) 1 L (.ref a :: r) h cs ss = (h.1 a = some (.inl 0) ∧ K 4 L (h.2 a 4 :: r) h cs ss) := by
  rw [dX0_revive_1, ey_ok, nx_getfield_54]
  exact and_l rfl
theorem qX0_revive_4 : ey FX0 ini rt fin K0 K (decode cX0_revive 4) 4 L (st) h cs ss = (K 5 L (.int 2 :: st) h cs ss) := by
  rw [dX0_revive_4, ey_ok, nx_iconst_11] <;> rfl
theorem qX0_revive_5 : ey FX0 ini rt fin K0 K (decode cX0_revive 5) 5 L (.int y :: .int x :: r) h cs ss = (if ¬ x = y then K 16 L r h cs ss else K 8 L r h cs ss) := by
  rw [dX0_revive_5, ey_ok, nx_if_icmp_37]
  exact and_l (by unfold jok; decide)
theorem qX0_revive_8 : ey FX0 ini rt fin K0 K (decode cX0_revive 8) 8 L (st) h cs ss = (lhas L 0 ∧ isRf (lgt L 0) ∧ K 9 L (lgt L 0 :: st) h cs ss) := by
  rw [dX0_revive_8, ey_ok, nx_aload_n_3] <;> rfl
theorem qX0_revive_9 : ey FX0 ini rt fin K0 K (decode cX0_revive 9) 9 L (st) h cs ss = (K 10 L (.int 0 :: st) h cs ss) := by
  rw [dX0_revive_9, ey_ok, nx_iconst_11] <;> rfl
theorem qX0_revive_10 : ey FX0 ini rt fin K0 K (decode cX0_revive 10) 10 L (v :: .ref a :: r) h cs ss = (h.1 a = some (.inl 0) ∧ okv (.int) v ∧ K 13 L r (h.1, hup h.2 a 4 v) cs ss) := by
  rw [dX0_revive_10, ey_ok, nx_putfield_55]
  exact (and_l rfl).trans (and_m (fun z => nomatch z))
theorem qX0_revive_13 : ey FX0 ini rt fin K0 K (decode cX0_revive 13) 13 L (st) h cs ss = (K 29 L st h cs ss) := by
  rw [dX0_revive_13, ey_ok, nx_goto_29]
  exact and_l (by unfold jok; decide)
theorem qX0_revive_16 : ey FX0 ini rt fin K0 K (decode cX0_revive 16) 16 L (st) h cs ss = (lhas L 0 ∧ isRf (lgt L 0) ∧ K 17 L (lgt L 0 :: st) h cs ss) := by
  rw [dX0_revive_16, ey_ok, nx_aload_n_3] <;> rfl
theorem qX0_revive_17 : ey FX0 ini rt fin K0 K (decode cX0_revive 17) 17 L (.ref a :: r) h cs ss = (h.1 a = some (.inl 0) ∧ K 20 L (h.2 a 4 :: r) h cs ss) := by
  rw [dX0_revive_17, ey_ok, nx_getfield_54]
  exact and_l rfl
theorem qX0_revive_20 : ey FX0 ini rt fin K0 K (decode cX0_revive 20) 20 L (st) h cs ss = (K 21 L (.int 3 :: st) h cs ss) := by
  rw [dX0_revive_20, ey_ok, nx_iconst_11] <;> rfl
theorem qX0_revive_21 : ey FX0 ini rt fin K0 K (decode cX0_revive 21) 21 L (.int y :: .int x :: r) h cs ss = (if ¬ x = y then K 29 L r h cs ss else K 24 L r h cs ss) := by
  rw [dX0_revive_21, ey_ok, nx_if_icmp_37]
  exact and_l (by unfold jok; decide)
theorem qX0_revive_24 : ey FX0 ini rt fin K0 K (decode cX0_revive 24) 24 L (st) h cs ss = (lhas L 0 ∧ isRf (lgt L 0) ∧ K 25 L (lgt L 0 :: st) h cs ss) := by
  rw [dX0_revive_24, ey_ok, nx_aload_n_3] <;> rfl
theorem qX0_revive_25 : ey FX0 ini rt fin K0 K (decode cX0_revive 25) 25 L (st) h cs ss = (K 26 L (.int 1 :: st) h cs ss) := by
  rw [dX0_revive_25, ey_ok, nx_iconst_11] <;> rfl
theorem qX0_revive_26 : ey FX0 ini rt fin K0 K (decode cX0_revive 26) 26 L (v :: .ref a :: r) h cs ss = (h.1 a = some (.inl 0) ∧ okv (.int) v ∧ K 29 L r (h.1, hup h.2 a 4 v) cs ss) := by
  rw [dX0_revive_26, ey_ok, nx_putfield_55]
  exact (and_l rfl).trans (and_m (fun z => nomatch z))
theorem qX0_revive_29 : ey FX0 ini rt fin K0 K (decode cX0_revive 29) 29 L ([]) h cs ss = (rt = none ∧ fin none h cs ss) := by
  rw [dX0_revive_29, ey_ok, nx_return__71]
theorem qX0_worthNow_0 : ey FX0 ini rt fin K0 K (decode cX0_worthNow 0) 0 L (st) h cs ss = (lhas L 0 ∧ isRf (lgt L 0) ∧ K 1 L (lgt L 0 :: st) h cs ss) := by
  rw [dX0_worthNow_0, ey_ok, nx_aload_n_3] <;> rfl
theorem qX0_worthNow_1 : ey FX0 ini rt fin K0 K (decode cX0_worthNow 1) 1 L (.ref a :: r) h cs ss = (h.1 a = some (.inl 0) ∧ K 4 L (h.2 a 1 :: r) h cs ss) := by
  rw [dX0_worthNow_1, ey_ok, nx_getfield_54]
  exact and_l rfl
theorem qX0_worthNow_4 : ey FX0 ini rt fin K0 K (decode cX0_worthNow 4) 4 L (st) h cs ss = (K0 4 L st h cs ss) := by
  rw [dX0_worthNow_4, ey_ok, nx_invokevirtual_72]
theorem qX0_worthNow_7 : ey FX0 ini rt fin K0 K (decode cX0_worthNow 7) 7 L (st) h cs ss = (lhas L 0 ∧ isRf (lgt L 0) ∧ K 8 L (lgt L 0 :: st) h cs ss) := by
  rw [dX0_worthNow_7, ey_ok, nx_aload_n_3] <;> rfl
theorem qX0_worthNow_8 : ey FX0 ini rt fin K0 K (decode cX0_worthNow 8) 8 L (.ref a :: r) h cs ss = (h.1 a = some (.inl 0) ∧ K 11 L (h.2 a 0 :: r) h cs ss) := by
  rw [dX0_worthNow_8, ey_ok, nx_getfield_54]
  exact and_l rfl
theorem qX0_worthNow_11 : ey FX0 ini rt fin K0 K (decode cX0_worthNow 11) 11 L (.ref a :: r) h cs ss = (h.1 a = some (.inl 5) ∧ K 14 L (h.2 a 3 :: r) h cs ss) := by
  rw [dX0_worthNow_11, ey_ok, nx_getfield_54]
  exact and_l rfl
theorem qX0_worthNow_14 : ey FX0 ini rt fin K0 K (decode cX0_worthNow 14) 14 L (.int y :: .int x :: r) h cs ss = (K 15 L (.int (x * y) :: r) h cs ss) := by
  rw [dX0_worthNow_14, ey_ok, nx_imul_18]
theorem qX0_worthNow_15 : ey FX0 ini rt fin K0 K (decode cX0_worthNow 15) 15 L (st) h cs ss = (lhas L 0 ∧ isRf (lgt L 0) ∧ K 16 L (lgt L 0 :: st) h cs ss) := by
  rw [dX0_worthNow_15, ey_ok, nx_aload_n_3] <;> rfl
theorem qX0_worthNow_16 : ey FX0 ini rt fin K0 K (decode cX0_worthNow 16) 16 L (.ref a :: r) h cs ss = (h.1 a = some (.inl 0) ∧ K 19 L (h.2 a 2 :: r) h cs ss) := by
  rw [dX0_worthNow_16, ey_ok, nx_getfield_54]
  exact and_l rfl
theorem qX0_worthNow_19 : ey FX0 ini rt fin K0 K (decode cX0_worthNow 19) 19 L (.ref a :: r) h cs ss = (h.1 a = some (.inl 2) ∧ K 22 L (h.2 a 4 :: r) h cs ss) := by
  rw [dX0_worthNow_19, ey_ok, nx_getfield_54]
  exact and_l rfl
theorem qX0_worthNow_22 : ey FX0 ini rt fin K0 K (decode cX0_worthNow 22) 22 L (.int y :: .int x :: r) h cs ss = (K 23 L (.int (x * y) :: r) h cs ss) := by
  rw [dX0_worthNow_22, ey_ok, nx_imul_18]
theorem qX0_worthNow_23 : ey FX0 ini rt fin K0 K (decode cX0_worthNow 23) 23 L (st) h cs ss = (K 25 L (.int 100 :: st) h cs ss) := by
  rw [dX0_worthNow_23, ey_ok, nx_bipush_12] <;> rfl
theorem qX0_worthNow_25 : ey FX0 ini rt fin K0 K (decode cX0_worthNow 25) 25 L (.int y :: .int x :: r) h cs ss = (¬ y = 0 ∧ K 26 L (.int (x / y) :: r) h cs ss) := by
  rw [dX0_worthNow_25, ey_ok, nx_idiv_23]
theorem qX0_worthNow_26 : ey FX0 ini rt fin K0 K (decode cX0_worthNow 26) 26 L ([.int x]) h cs ss = (rokI rt x ∧ fin (some (.int x)) h cs ss) := by
  rw [dX0_worthNow_26, ey_ok, nx_ireturn_68]
end QQ
section QQ
variable {F : Nat → Option Fq} {ini : Option Nat} {rt : Option FieldType} {fin : Option Value → Hp → Nat → Nat → Prop} {K0 K : Kt} {L : List (Option Value)} {h : Hp} {cs ss : Nat} {r st : List Value} {x y i : Int32} {a a2 : Nat} {v v2 : Value} {lx ly : Int64}
theorem qX1_init_0 : ey FX1 ini rt fin K0 K (decode cX1_init 0) 0 L (st) h cs ss = (lhas L 0 ∧ isRf (lgt L 0) ∧ K 1 L (lgt L 0 :: st) h cs ss) := by
  rw [dX1_init_0, ey_ok, nx_aload_n_3] <;> rfl
theorem qX1_init_1 : ey FX1 ini rt fin K0 K (decode cX1_init 1) 1 L (st) h cs ss = (K0 1 L st h cs ss) := by
  rw [dX1_init_1, ey_ok, nx_invokespecial_74]
theorem qX1_init_4 : ey FX1 ini rt fin K0 K (decode cX1_init 4) 4 L (st) h cs ss = (lhas L 0 ∧ isRf (lgt L 0) ∧ K 5 L (lgt L 0 :: st) h cs ss) := by
  rw [dX1_init_4, ey_ok, nx_aload_n_3] <;> rfl
theorem qX1_init_5 : ey FX1 ini rt fin K0 K (decode cX1_init 5) 5 L (st) h cs ss = (K 6 L (.int 1 :: st) h cs ss) := by
  rw [dX1_init_5, ey_ok, nx_iconst_11] <;> rfl
theorem qX1_init_6 : ey FX1 ini rt fin K0 K (decode cX1_init 6) 6 L (v :: .ref a :: r) h cs ss = (h.1 a = some (.inl 1) ∧ okv (.boolean) v ∧ K 9 L r (h.1, hup h.2 a 3 v) cs ss) := by
  rw [dX1_init_6, ey_ok, nx_putfield_55]
  exact (and_l rfl).trans (and_m (fun z => nomatch z))
theorem qX1_init_9 : ey FX1 ini rt fin K0 K (decode cX1_init 9) 9 L (st) h cs ss = (lhas L 0 ∧ isRf (lgt L 0) ∧ K 10 L (lgt L 0 :: st) h cs ss) := by
  rw [dX1_init_9, ey_ok, nx_aload_n_3] <;> rfl
theorem qX1_init_10 : ey FX1 ini rt fin K0 K (decode cX1_init 10) 10 L (st) h cs ss = (lhas L 1 ∧ isRf (lgt L 1) ∧ K 11 L (lgt L 1 :: st) h cs ss) := by
  rw [dX1_init_10, ey_ok, nx_aload_n_3] <;> rfl
theorem qX1_init_11 : ey FX1 ini rt fin K0 K (decode cX1_init 11) 11 L (v :: .ref a :: r) h cs ss = (h.1 a = some (.inl 1) ∧ okv (.object "UnionClock$Worker") v ∧ (true = true → ini = some 1) ∧ K 14 L r (h.1, hup h.2 a 0 v) cs ss) := by
  rw [dX1_init_11, ey_ok, nx_putfield_55]
  exact and_l rfl
theorem qX1_init_14 : ey FX1 ini rt fin K0 K (decode cX1_init 14) 14 L (st) h cs ss = (lhas L 0 ∧ isRf (lgt L 0) ∧ K 15 L (lgt L 0 :: st) h cs ss) := by
  rw [dX1_init_14, ey_ok, nx_aload_n_3] <;> rfl
theorem qX1_init_15 : ey FX1 ini rt fin K0 K (decode cX1_init 15) 15 L (st) h cs ss = (lhas L 2 ∧ isRf (lgt L 2) ∧ K 16 L (lgt L 2 :: st) h cs ss) := by
  rw [dX1_init_15, ey_ok, nx_aload_n_3] <;> rfl
theorem qX1_init_16 : ey FX1 ini rt fin K0 K (decode cX1_init 16) 16 L (v :: .ref a :: r) h cs ss = (h.1 a = some (.inl 1) ∧ okv (.object "UnionClock$Shift") v ∧ (true = true → ini = some 1) ∧ K 19 L r (h.1, hup h.2 a 1 v) cs ss) := by
  rw [dX1_init_16, ey_ok, nx_putfield_55]
  exact and_l rfl
theorem qX1_init_19 : ey FX1 ini rt fin K0 K (decode cX1_init 19) 19 L (st) h cs ss = (lhas L 0 ∧ isRf (lgt L 0) ∧ K 20 L (lgt L 0 :: st) h cs ss) := by
  rw [dX1_init_19, ey_ok, nx_aload_n_3] <;> rfl
theorem qX1_init_20 : ey FX1 ini rt fin K0 K (decode cX1_init 20) 20 L (st) h cs ss = (lhas L 3 ∧ isRf (lgt L 3) ∧ K 21 L (lgt L 3 :: st) h cs ss) := by
  rw [dX1_init_20, ey_ok, nx_aload_n_3] <;> rfl
theorem qX1_init_21 : ey FX1 ini rt fin K0 K (decode cX1_init 21) 21 L (v :: .ref a :: r) h cs ss = (h.1 a = some (.inl 1) ∧ okv (.object "UnionClock$Shift") v ∧ (true = true → ini = some 1) ∧ K 24 L r (h.1, hup h.2 a 2 v) cs ss) := by
  rw [dX1_init_21, ey_ok, nx_putfield_55]
  exact and_l rfl
theorem qX1_init_24 : ey FX1 ini rt fin K0 K (decode cX1_init 24) 24 L ([]) h cs ss = (rt = none ∧ fin none h cs ss) := by
  rw [dX1_init_24, ey_ok, nx_return__71]
end QQ
section QQ
variable {F : Nat → Option Fq} {ini : Option Nat} {rt : Option FieldType} {fin : Option Value → Hp → Nat → Nat → Prop} {K0 K : Kt} {L : List (Option Value)} {h : Hp} {cs ss : Nat} {r st : List Value} {x y i : Int32} {a a2 : Nat} {v v2 : Value} {lx ly : Int64}
theorem qX2_init_0 : ey FX2 ini rt fin K0 K (decode cX2_init 0) 0 L (st) h cs ss = (lhas L 0 ∧ isRf (lgt L 0) ∧ K 1 L (lgt L 0 :: st) h cs ss) := by
  rw [dX2_init_0, ey_ok, nx_aload_n_3] <;> rfl
theorem qX2_init_1 : ey FX2 ini rt fin K0 K (decode cX2_init 1) 1 L (st) h cs ss = (K0 1 L st h cs ss) := by
  rw [dX2_init_1, ey_ok, nx_invokespecial_74]
theorem qX2_init_4 : ey FX2 ini rt fin K0 K (decode cX2_init 4) 4 L (st) h cs ss = (lhas L 0 ∧ isRf (lgt L 0) ∧ K 5 L (lgt L 0 :: st) h cs ss) := by
  rw [dX2_init_4, ey_ok, nx_aload_n_3] <;> rfl
theorem qX2_init_5 : ey FX2 ini rt fin K0 K (decode cX2_init 5) 5 L (st) h cs ss = (lhas L 1 ∧ isI (lgt L 1) ∧ K 6 L (lgt L 1 :: st) h cs ss) := by
  rw [dX2_init_5, ey_ok, nx_iload_n_1] <;> rfl
theorem qX2_init_6 : ey FX2 ini rt fin K0 K (decode cX2_init 6) 6 L (v :: .ref a :: r) h cs ss = (h.1 a = some (.inl 2) ∧ okv (.int) v ∧ (true = true → ini = some 2) ∧ K 9 L r (h.1, hup h.2 a 0 v) cs ss) := by
  rw [dX2_init_6, ey_ok, nx_putfield_55]
  exact and_l rfl
theorem qX2_init_9 : ey FX2 ini rt fin K0 K (decode cX2_init 9) 9 L (st) h cs ss = (lhas L 0 ∧ isRf (lgt L 0) ∧ K 10 L (lgt L 0 :: st) h cs ss) := by
  rw [dX2_init_9, ey_ok, nx_aload_n_3] <;> rfl
theorem qX2_init_10 : ey FX2 ini rt fin K0 K (decode cX2_init 10) 10 L (st) h cs ss = (lhas L 2 ∧ isRf (lgt L 2) ∧ K 11 L (lgt L 2 :: st) h cs ss) := by
  rw [dX2_init_10, ey_ok, nx_aload_n_3] <;> rfl
theorem qX2_init_11 : ey FX2 ini rt fin K0 K (decode cX2_init 11) 11 L (.ref a :: r) h cs ss = (h.1 a = some (.inl 3) ∧ K 14 L (h.2 a 4 :: r) h cs ss) := by
  rw [dX2_init_11, ey_ok, nx_getfield_54]
  exact and_l rfl
theorem qX2_init_14 : ey FX2 ini rt fin K0 K (decode cX2_init 14) 14 L (v :: .ref a :: r) h cs ss = (h.1 a = some (.inl 2) ∧ okv (.int) v ∧ (true = true → ini = some 2) ∧ K 17 L r (h.1, hup h.2 a 1 v) cs ss) := by
  rw [dX2_init_14, ey_ok, nx_putfield_55]
  exact and_l rfl
theorem qX2_init_17 : ey FX2 ini rt fin K0 K (decode cX2_init 17) 17 L (st) h cs ss = (lhas L 0 ∧ isRf (lgt L 0) ∧ K 18 L (lgt L 0 :: st) h cs ss) := by
  rw [dX2_init_17, ey_ok, nx_aload_n_3] <;> rfl
theorem qX2_init_18 : ey FX2 ini rt fin K0 K (decode cX2_init 18) 18 L (st) h cs ss = (lhas L 2 ∧ isRf (lgt L 2) ∧ K 19 L (lgt L 2 :: st) h cs ss) := by
  rw [dX2_init_18, ey_ok, nx_aload_n_3] <;> rfl
theorem qX2_init_19 : ey FX2 ini rt fin K0 K (decode cX2_init 19) 19 L (.ref a :: r) h cs ss = (h.1 a = some (.inl 3) ∧ K 22 L (h.2 a 5 :: r) h cs ss) := by
  rw [dX2_init_19, ey_ok, nx_getfield_54]
  exact and_l rfl
theorem qX2_init_22 : ey FX2 ini rt fin K0 K (decode cX2_init 22) 22 L (v :: .ref a :: r) h cs ss = (h.1 a = some (.inl 2) ∧ okv (.int) v ∧ (true = true → ini = some 2) ∧ K 25 L r (h.1, hup h.2 a 2 v) cs ss) := by
  rw [dX2_init_22, ey_ok, nx_putfield_55]
  exact and_l rfl
theorem qX2_init_25 : ey FX2 ini rt fin K0 K (decode cX2_init 25) 25 L (st) h cs ss = (lhas L 0 ∧ isRf (lgt L 0) ∧ K 26 L (lgt L 0 :: st) h cs ss) := by
  rw [dX2_init_25, ey_ok, nx_aload_n_3] <;> rfl
theorem qX2_init_26 : ey FX2 ini rt fin K0 K (decode cX2_init 26) 26 L (st) h cs ss = (lhas L 2 ∧ isRf (lgt L 2) ∧ K 27 L (lgt L 2 :: st) h cs ss) := by
  rw [dX2_init_26, ey_ok, nx_aload_n_3] <;> rfl
theorem qX2_init_27 : ey FX2 ini rt fin K0 K (decode cX2_init 27) 27 L (.ref a :: r) h cs ss = (h.1 a = some (.inl 3) ∧ K 30 L (h.2 a 6 :: r) h cs ss) := by
  rw [dX2_init_27, ey_ok, nx_getfield_54]
  exact and_l rfl
theorem qX2_init_30 : ey FX2 ini rt fin K0 K (decode cX2_init 30) 30 L (v :: .ref a :: r) h cs ss = (h.1 a = some (.inl 2) ∧ okv (.int) v ∧ (true = true → ini = some 2) ∧ K 33 L r (h.1, hup h.2 a 3 v) cs ss) := by
  rw [dX2_init_30, ey_ok, nx_putfield_55]
  exact and_l rfl
theorem qX2_init_33 : ey FX2 ini rt fin K0 K (decode cX2_init 33) 33 L (st) h cs ss = (lhas L 0 ∧ isRf (lgt L 0) ∧ K 34 L (lgt L 0 :: st) h cs ss) := by
  rw [dX2_init_33, ey_ok, nx_aload_n_3] <;> rfl
theorem qX2_init_34 : ey FX2 ini rt fin K0 K (decode cX2_init 34) 34 L (st) h cs ss = (lhas L 2 ∧ isRf (lgt L 2) ∧ K 35 L (lgt L 2 :: st) h cs ss) := by
  rw [dX2_init_34, ey_ok, nx_aload_n_3] <;> rfl
theorem qX2_init_35 : ey FX2 ini rt fin K0 K (decode cX2_init 35) 35 L (.ref a :: r) h cs ss = (h.1 a = some (.inl 3) ∧ K 38 L (h.2 a 7 :: r) h cs ss) := by
  rw [dX2_init_35, ey_ok, nx_getfield_54]
  exact and_l rfl
theorem qX2_init_38 : ey FX2 ini rt fin K0 K (decode cX2_init 38) 38 L (v :: .ref a :: r) h cs ss = (h.1 a = some (.inl 2) ∧ okv (.int) v ∧ (true = true → ini = some 2) ∧ K 41 L r (h.1, hup h.2 a 4 v) cs ss) := by
  rw [dX2_init_38, ey_ok, nx_putfield_55]
  exact and_l rfl
theorem qX2_init_41 : ey FX2 ini rt fin K0 K (decode cX2_init 41) 41 L ([]) h cs ss = (rt = none ∧ fin none h cs ss) := by
  rw [dX2_init_41, ey_ok, nx_return__71]
theorem qX2_isBrokenBy_0 : ey FX2 ini rt fin K0 K (decode cX2_isBrokenBy 0) 0 L (st) h cs ss = (lhas L 1 ∧ isRf (lgt L 1) ∧ K 1 L (lgt L 1 :: st) h cs ss) := by
  rw [dX2_isBrokenBy_0, ey_ok, nx_aload_n_3] <;> rfl
theorem qX2_isBrokenBy_1 : ey FX2 ini rt fin K0 K (decode cX2_isBrokenBy 1) 1 L (.ref a :: r) h cs ss = (h.1 a = some (.inl 4) ∧ K 4 L (h.2 a 6 :: r) h cs ss) := by
  rw [dX2_isBrokenBy_1, ey_ok, nx_getfield_54]
  exact and_l rfl
theorem qX2_isBrokenBy_4r : ey FX2 ini rt fin K0 K (decode cX2_isBrokenBy 4) 4 L (.ref a :: r) h cs ss = (2 < L.length ∧ K 5 (L.set 2 (some (.ref a))) r h cs ss) := by
  rw [dX2_isBrokenBy_4, ey_ok, nx_astore_n_8] <;> rfl
theorem qX2_isBrokenBy_4n : ey FX2 ini rt fin K0 K (decode cX2_isBrokenBy 4) 4 L (.null :: r) h cs ss = (2 < L.length ∧ K 5 (L.set 2 (some .null)) r h cs ss) := by
  rw [dX2_isBrokenBy_4, ey_ok, nx_astore_n_9] <;> rfl
theorem qX2_isBrokenBy_5 : ey FX2 ini rt fin K0 K (decode cX2_isBrokenBy 5) 5 L (st) h cs ss = (lhas L 0 ∧ isRf (lgt L 0) ∧ K 6 L (lgt L 0 :: st) h cs ss) := by
  rw [dX2_isBrokenBy_5, ey_ok, nx_aload_n_3] <;> rfl
theorem qX2_isBrokenBy_6 : ey FX2 ini rt fin K0 K (decode cX2_isBrokenBy 6) 6 L (.ref a :: r) h cs ss = (h.1 a = some (.inl 2) ∧ K 9 L (h.2 a 5 :: r) h cs ss) := by
  rw [dX2_isBrokenBy_6, ey_ok, nx_getfield_54]
  exact and_l rfl
theorem qX2_isBrokenBy_9 : ey FX2 ini rt fin K0 K (decode cX2_isBrokenBy 9) 9 L (.int x :: r) h cs ss = (if ¬ x = 0 then K 35 L r h cs ss else K 12 L r h cs ss) := by
  rw [dX2_isBrokenBy_9, ey_ok, nx_ifond_31]
  exact and_l (by unfold jok; decide)
theorem qX2_isBrokenBy_12 : ey FX2 ini rt fin K0 K (decode cX2_isBrokenBy 12) 12 L (st) h cs ss = (lhas L 2 ∧ isRf (lgt L 2) ∧ K 13 L (lgt L 2 :: st) h cs ss) := by
  rw [dX2_isBrokenBy_12, ey_ok, nx_aload_n_3] <;> rfl
theorem qX2_isBrokenBy_13n : ey FX2 ini rt fin K0 K (decode cX2_isBrokenBy 13) 13 L (.null :: r) h cs ss = (K 35 L r h cs ss) := by
  rw [dX2_isBrokenBy_13, ey_ok, nx_ifnull_50]
  exact and_l (by unfold jok; decide)
theorem qX2_isBrokenBy_13r : ey FX2 ini rt fin K0 K (decode cX2_isBrokenBy 13) 13 L (.ref a :: r) h cs ss = (K 16 L r h cs ss) := by
  rw [dX2_isBrokenBy_13, ey_ok, nx_ifnull_51]
  exact and_l (by unfold jok; decide)
theorem qX2_isBrokenBy_16 : ey FX2 ini rt fin K0 K (decode cX2_isBrokenBy 16) 16 L (st) h cs ss = (lhas L 0 ∧ isRf (lgt L 0) ∧ K 17 L (lgt L 0 :: st) h cs ss) := by
  rw [dX2_isBrokenBy_16, ey_ok, nx_aload_n_3] <;> rfl
theorem qX2_isBrokenBy_17 : ey FX2 ini rt fin K0 K (decode cX2_isBrokenBy 17) 17 L (.ref a :: r) h cs ss = (h.1 a = some (.inl 2) ∧ K 20 L (h.2 a 3 :: r) h cs ss) := by
  rw [dX2_isBrokenBy_17, ey_ok, nx_getfield_54]
  exact and_l rfl
theorem qX2_isBrokenBy_20 : ey FX2 ini rt fin K0 K (decode cX2_isBrokenBy 20) 20 L (st) h cs ss = (K 21 L (.int (-1) :: st) h cs ss) := by
  rw [dX2_isBrokenBy_20, ey_ok, nx_iconst_11] <;> rfl
theorem qX2_isBrokenBy_21 : ey FX2 ini rt fin K0 K (decode cX2_isBrokenBy 21) 21 L (.int y :: .int x :: r) h cs ss = (if x = y then K 37 L r h cs ss else K 24 L r h cs ss) := by
  rw [dX2_isBrokenBy_21, ey_ok, nx_if_icmp_36]
  exact and_l (by unfold jok; decide)
theorem qX2_isBrokenBy_24 : ey FX2 ini rt fin K0 K (decode cX2_isBrokenBy 24) 24 L (st) h cs ss = (lhas L 0 ∧ isRf (lgt L 0) ∧ K 25 L (lgt L 0 :: st) h cs ss) := by
  rw [dX2_isBrokenBy_24, ey_ok, nx_aload_n_3] <;> rfl
theorem qX2_isBrokenBy_25 : ey FX2 ini rt fin K0 K (decode cX2_isBrokenBy 25) 25 L (.ref a :: r) h cs ss = (h.1 a = some (.inl 2) ∧ K 28 L (h.2 a 3 :: r) h cs ss) := by
  rw [dX2_isBrokenBy_25, ey_ok, nx_getfield_54]
  exact and_l rfl
theorem qX2_isBrokenBy_28 : ey FX2 ini rt fin K0 K (decode cX2_isBrokenBy 28) 28 L (st) h cs ss = (lhas L 1 ∧ isRf (lgt L 1) ∧ K 29 L (lgt L 1 :: st) h cs ss) := by
  rw [dX2_isBrokenBy_28, ey_ok, nx_aload_n_3] <;> rfl
theorem qX2_isBrokenBy_29 : ey FX2 ini rt fin K0 K (decode cX2_isBrokenBy 29) 29 L (.ref a :: r) h cs ss = (h.1 a = some (.inl 4) ∧ K 32 L (h.2 a 1 :: r) h cs ss) := by
  rw [dX2_isBrokenBy_29, ey_ok, nx_getfield_54]
  exact and_l rfl
theorem qX2_isBrokenBy_32 : ey FX2 ini rt fin K0 K (decode cX2_isBrokenBy 32) 32 L (.int y :: .int x :: r) h cs ss = (if x = y then K 37 L r h cs ss else K 35 L r h cs ss) := by
  rw [dX2_isBrokenBy_32, ey_ok, nx_if_icmp_36]
  exact and_l (by unfold jok; decide)
theorem qX2_isBrokenBy_35 : ey FX2 ini rt fin K0 K (decode cX2_isBrokenBy 35) 35 L (st) h cs ss = (K 36 L (.int 0 :: st) h cs ss) := by
  rw [dX2_isBrokenBy_35, ey_ok, nx_iconst_11] <;> rfl
theorem qX2_isBrokenBy_36 : ey FX2 ini rt fin K0 K (decode cX2_isBrokenBy 36) 36 L ([.int x]) h cs ss = (rokI rt x ∧ fin (some (.int x)) h cs ss) := by
  rw [dX2_isBrokenBy_36, ey_ok, nx_ireturn_68]
theorem qX2_isBrokenBy_37 : ey FX2 ini rt fin K0 K (decode cX2_isBrokenBy 37) 37 L (st) h cs ss = (lhas L 0 ∧ isRf (lgt L 0) ∧ K 38 L (lgt L 0 :: st) h cs ss) := by
  rw [dX2_isBrokenBy_37, ey_ok, nx_aload_n_3] <;> rfl
theorem qX2_isBrokenBy_38 : ey FX2 ini rt fin K0 K (decode cX2_isBrokenBy 38) 38 L (.ref a :: r) h cs ss = (h.1 a = some (.inl 2) ∧ K 41 L (h.2 a 1 :: r) h cs ss) := by
  rw [dX2_isBrokenBy_38, ey_ok, nx_getfield_54]
  exact and_l rfl
theorem qX2_isBrokenBy_41 : ey FX2 ini rt fin K0 K (decode cX2_isBrokenBy 41) 41 L (st) h cs ss = (K0 41 L st h cs ss) := by
  rw [dX2_isBrokenBy_41, ey_ok, nx_tableswitch_78]
theorem qX2_isBrokenBy_72 : ey FX2 ini rt fin K0 K (decode cX2_isBrokenBy 72) 72 L (st) h cs ss = (lhas L 2 ∧ isRf (lgt L 2) ∧ K 73 L (lgt L 2 :: st) h cs ss) := by
  rw [dX2_isBrokenBy_72, ey_ok, nx_aload_n_3] <;> rfl
theorem qX2_isBrokenBy_73 : ey FX2 ini rt fin K0 K (decode cX2_isBrokenBy 73) 73 L (st) h cs ss = (lhas L 1 ∧ isRf (lgt L 1) ∧ K 74 L (lgt L 1 :: st) h cs ss) := by
  rw [dX2_isBrokenBy_73, ey_ok, nx_aload_n_3] <;> rfl
theorem qX2_isBrokenBy_74 : ey FX2 ini rt fin K0 K (decode cX2_isBrokenBy 74) 74 L (st) h cs ss = (K0 74 L st h cs ss) := by
  rw [dX2_isBrokenBy_74, ey_ok, nx_invokevirtual_72]
theorem qX2_isBrokenBy_77 : ey FX2 ini rt fin K0 K (decode cX2_isBrokenBy 77) 77 L (st) h cs ss = (lhas L 0 ∧ isRf (lgt L 0) ∧ K 78 L (lgt L 0 :: st) h cs ss) := by
  rw [dX2_isBrokenBy_77, ey_ok, nx_aload_n_3] <;> rfl
theorem qX2_isBrokenBy_78 : ey FX2 ini rt fin K0 K (decode cX2_isBrokenBy 78) 78 L (.ref a :: r) h cs ss = (h.1 a = some (.inl 2) ∧ K 81 L (h.2 a 2 :: r) h cs ss) := by
  rw [dX2_isBrokenBy_78, ey_ok, nx_getfield_54]
  exact and_l rfl
theorem qX2_isBrokenBy_81 : ey FX2 ini rt fin K0 K (decode cX2_isBrokenBy 81) 81 L (.int y :: .int x :: r) h cs ss = (if y ≤ x then K 88 L r h cs ss else K 84 L r h cs ss) := by
  rw [dX2_isBrokenBy_81, ey_ok, nx_if_icmp_39]
  exact and_l (by unfold jok; decide)
theorem qX2_isBrokenBy_84 : ey FX2 ini rt fin K0 K (decode cX2_isBrokenBy 84) 84 L (st) h cs ss = (K 85 L (.int 1 :: st) h cs ss) := by
  rw [dX2_isBrokenBy_84, ey_ok, nx_iconst_11] <;> rfl
theorem qX2_isBrokenBy_85 : ey FX2 ini rt fin K0 K (decode cX2_isBrokenBy 85) 85 L (st) h cs ss = (K 89 L st h cs ss) := by
  rw [dX2_isBrokenBy_85, ey_ok, nx_goto_29]
  exact and_l (by unfold jok; decide)
theorem qX2_isBrokenBy_88 : ey FX2 ini rt fin K0 K (decode cX2_isBrokenBy 88) 88 L (st) h cs ss = (K 89 L (.int 0 :: st) h cs ss) := by
  rw [dX2_isBrokenBy_88, ey_ok, nx_iconst_11] <;> rfl
theorem qX2_isBrokenBy_89 : ey FX2 ini rt fin K0 K (decode cX2_isBrokenBy 89) 89 L ([.int x]) h cs ss = (rokI rt x ∧ fin (some (.int x)) h cs ss) := by
  rw [dX2_isBrokenBy_89, ey_ok, nx_ireturn_68]
theorem qX2_isBrokenBy_90 : ey FX2 ini rt fin K0 K (decode cX2_isBrokenBy 90) 90 L (st) h cs ss = (lhas L 2 ∧ isRf (lgt L 2) ∧ K 91 L (lgt L 2 :: st) h cs ss) := by
  rw [dX2_isBrokenBy_90, ey_ok, nx_aload_n_3] <;> rfl
theorem qX2_isBrokenBy_91 : ey FX2 ini rt fin K0 K (decode cX2_isBrokenBy 91) 91 L (st) h cs ss = (lhas L 1 ∧ isRf (lgt L 1) ∧ K 92 L (lgt L 1 :: st) h cs ss) := by
  rw [dX2_isBrokenBy_91, ey_ok, nx_aload_n_3] <;> rfl
theorem qX2_isBrokenBy_92 : ey FX2 ini rt fin K0 K (decode cX2_isBrokenBy 92) 92 L (st) h cs ss = (K0 92 L st h cs ss) := by
  rw [dX2_isBrokenBy_92, ey_ok, nx_invokevirtual_72]
theorem qX2_isBrokenBy_95 : ey FX2 ini rt fin K0 K (decode cX2_isBrokenBy 95) 95 L (st) h cs ss = (lhas L 0 ∧ isRf (lgt L 0) ∧ K 96 L (lgt L 0 :: st) h cs ss) := by
  rw [dX2_isBrokenBy_95, ey_ok, nx_aload_n_3] <;> rfl
theorem qX2_isBrokenBy_96 : ey FX2 ini rt fin K0 K (decode cX2_isBrokenBy 96) 96 L (.ref a :: r) h cs ss = (h.1 a = some (.inl 2) ∧ K 99 L (h.2 a 2 :: r) h cs ss) := by
  rw [dX2_isBrokenBy_96, ey_ok, nx_getfield_54]
  exact and_l rfl
theorem qX2_isBrokenBy_99 : ey FX2 ini rt fin K0 K (decode cX2_isBrokenBy 99) 99 L (.int y :: .int x :: r) h cs ss = (if x ≤ y then K 106 L r h cs ss else K 102 L r h cs ss) := by
  rw [dX2_isBrokenBy_99, ey_ok, nx_if_icmp_41]
  exact and_l (by unfold jok; decide)
theorem qX2_isBrokenBy_102 : ey FX2 ini rt fin K0 K (decode cX2_isBrokenBy 102) 102 L (st) h cs ss = (K 103 L (.int 1 :: st) h cs ss) := by
  rw [dX2_isBrokenBy_102, ey_ok, nx_iconst_11] <;> rfl
theorem qX2_isBrokenBy_103 : ey FX2 ini rt fin K0 K (decode cX2_isBrokenBy 103) 103 L (st) h cs ss = (K 107 L st h cs ss) := by
  rw [dX2_isBrokenBy_103, ey_ok, nx_goto_29]
  exact and_l (by unfold jok; decide)
theorem qX2_isBrokenBy_106 : ey FX2 ini rt fin K0 K (decode cX2_isBrokenBy 106) 106 L (st) h cs ss = (K 107 L (.int 0 :: st) h cs ss) := by
  rw [dX2_isBrokenBy_106, ey_ok, nx_iconst_11] <;> rfl
theorem qX2_isBrokenBy_107 : ey FX2 ini rt fin K0 K (decode cX2_isBrokenBy 107) 107 L ([.int x]) h cs ss = (rokI rt x ∧ fin (some (.int x)) h cs ss) := by
  rw [dX2_isBrokenBy_107, ey_ok, nx_ireturn_68]
theorem qX2_isBrokenBy_108 : ey FX2 ini rt fin K0 K (decode cX2_isBrokenBy 108) 108 L (st) h cs ss = (lhas L 2 ∧ isRf (lgt L 2) ∧ K 109 L (lgt L 2 :: st) h cs ss) := by
  rw [dX2_isBrokenBy_108, ey_ok, nx_aload_n_3] <;> rfl
theorem qX2_isBrokenBy_109 : ey FX2 ini rt fin K0 K (decode cX2_isBrokenBy 109) 109 L (st) h cs ss = (lhas L 1 ∧ isRf (lgt L 1) ∧ K 110 L (lgt L 1 :: st) h cs ss) := by
  rw [dX2_isBrokenBy_109, ey_ok, nx_aload_n_3] <;> rfl
theorem qX2_isBrokenBy_110 : ey FX2 ini rt fin K0 K (decode cX2_isBrokenBy 110) 110 L (st) h cs ss = (K0 110 L st h cs ss) := by
  rw [dX2_isBrokenBy_110, ey_ok, nx_invokevirtual_72]
theorem qX2_isBrokenBy_113 : ey FX2 ini rt fin K0 K (decode cX2_isBrokenBy 113) 113 L (st) h cs ss = (lhas L 0 ∧ isRf (lgt L 0) ∧ K 114 L (lgt L 0 :: st) h cs ss) := by
  rw [dX2_isBrokenBy_113, ey_ok, nx_aload_n_3] <;> rfl
theorem qX2_isBrokenBy_114 : ey FX2 ini rt fin K0 K (decode cX2_isBrokenBy 114) 114 L (.ref a :: r) h cs ss = (h.1 a = some (.inl 2) ∧ K 117 L (h.2 a 2 :: r) h cs ss) := by
  rw [dX2_isBrokenBy_114, ey_ok, nx_getfield_54]
  exact and_l rfl
theorem qX2_isBrokenBy_117 : ey FX2 ini rt fin K0 K (decode cX2_isBrokenBy 117) 117 L (.int y :: .int x :: r) h cs ss = (if x < y then K 124 L r h cs ss else K 120 L r h cs ss) := by
  rw [dX2_isBrokenBy_117, ey_ok, nx_if_icmp_38]
  exact and_l (by unfold jok; decide)
theorem qX2_isBrokenBy_120 : ey FX2 ini rt fin K0 K (decode cX2_isBrokenBy 120) 120 L (st) h cs ss = (K 121 L (.int 1 :: st) h cs ss) := by
  rw [dX2_isBrokenBy_120, ey_ok, nx_iconst_11] <;> rfl
theorem qX2_isBrokenBy_121 : ey FX2 ini rt fin K0 K (decode cX2_isBrokenBy 121) 121 L (st) h cs ss = (K 125 L st h cs ss) := by
  rw [dX2_isBrokenBy_121, ey_ok, nx_goto_29]
  exact and_l (by unfold jok; decide)
theorem qX2_isBrokenBy_124 : ey FX2 ini rt fin K0 K (decode cX2_isBrokenBy 124) 124 L (st) h cs ss = (K 125 L (.int 0 :: st) h cs ss) := by
  rw [dX2_isBrokenBy_124, ey_ok, nx_iconst_11] <;> rfl
theorem qX2_isBrokenBy_125 : ey FX2 ini rt fin K0 K (decode cX2_isBrokenBy 125) 125 L ([.int x]) h cs ss = (rokI rt x ∧ fin (some (.int x)) h cs ss) := by
  rw [dX2_isBrokenBy_125, ey_ok, nx_ireturn_68]
theorem qX2_isBrokenBy_126 : ey FX2 ini rt fin K0 K (decode cX2_isBrokenBy 126) 126 L (st) h cs ss = (lhas L 1 ∧ isRf (lgt L 1) ∧ K 127 L (lgt L 1 :: st) h cs ss) := by
  rw [dX2_isBrokenBy_126, ey_ok, nx_aload_n_3] <;> rfl
theorem qX2_isBrokenBy_127 : ey FX2 ini rt fin K0 K (decode cX2_isBrokenBy 127) 127 L (st) h cs ss = (K0 127 L st h cs ss) := by
  rw [dX2_isBrokenBy_127, ey_ok, nx_invokevirtual_72]
theorem qX2_isBrokenBy_130 : ey FX2 ini rt fin K0 K (decode cX2_isBrokenBy 130) 130 L (st) h cs ss = (lhas L 0 ∧ isRf (lgt L 0) ∧ K 131 L (lgt L 0 :: st) h cs ss) := by
  rw [dX2_isBrokenBy_130, ey_ok, nx_aload_n_3] <;> rfl
theorem qX2_isBrokenBy_131 : ey FX2 ini rt fin K0 K (decode cX2_isBrokenBy 131) 131 L (.ref a :: r) h cs ss = (h.1 a = some (.inl 2) ∧ K 134 L (h.2 a 2 :: r) h cs ss) := by
  rw [dX2_isBrokenBy_131, ey_ok, nx_getfield_54]
  exact and_l rfl
theorem qX2_isBrokenBy_134 : ey FX2 ini rt fin K0 K (decode cX2_isBrokenBy 134) 134 L (.int y :: .int x :: r) h cs ss = (if x ≤ y then K 141 L r h cs ss else K 137 L r h cs ss) := by
  rw [dX2_isBrokenBy_134, ey_ok, nx_if_icmp_41]
  exact and_l (by unfold jok; decide)
theorem qX2_isBrokenBy_137 : ey FX2 ini rt fin K0 K (decode cX2_isBrokenBy 137) 137 L (st) h cs ss = (K 138 L (.int 1 :: st) h cs ss) := by
  rw [dX2_isBrokenBy_137, ey_ok, nx_iconst_11] <;> rfl
theorem qX2_isBrokenBy_138 : ey FX2 ini rt fin K0 K (decode cX2_isBrokenBy 138) 138 L (st) h cs ss = (K 142 L st h cs ss) := by
  rw [dX2_isBrokenBy_138, ey_ok, nx_goto_29]
  exact and_l (by unfold jok; decide)
theorem qX2_isBrokenBy_141 : ey FX2 ini rt fin K0 K (decode cX2_isBrokenBy 141) 141 L (st) h cs ss = (K 142 L (.int 0 :: st) h cs ss) := by
  rw [dX2_isBrokenBy_141, ey_ok, nx_iconst_11] <;> rfl
theorem qX2_isBrokenBy_142 : ey FX2 ini rt fin K0 K (decode cX2_isBrokenBy 142) 142 L ([.int x]) h cs ss = (rokI rt x ∧ fin (some (.int x)) h cs ss) := by
  rw [dX2_isBrokenBy_142, ey_ok, nx_ireturn_68]
theorem qX2_isBrokenBy_143 : ey FX2 ini rt fin K0 K (decode cX2_isBrokenBy 143) 143 L (st) h cs ss = (K 144 L (.int 0 :: st) h cs ss) := by
  rw [dX2_isBrokenBy_143, ey_ok, nx_iconst_11] <;> rfl
theorem qX2_isBrokenBy_144 : ey FX2 ini rt fin K0 K (decode cX2_isBrokenBy 144) 144 L ([.int x]) h cs ss = (rokI rt x ∧ fin (some (.int x)) h cs ss) := by
  rw [dX2_isBrokenBy_144, ey_ok, nx_ireturn_68]
end QQ
section QQ
variable {F : Nat → Option Fq} {ini : Option Nat} {rt : Option FieldType} {fin : Option Value → Hp → Nat → Nat → Prop} {K0 K : Kt} {L : List (Option Value)} {h : Hp} {cs ss : Nat} {r st : List Value} {x y i : Int32} {a a2 : Nat} {v v2 : Value} {lx ly : Int64}
theorem qX3_init_0 : ey FX3 ini rt fin K0 K (decode cX3_init 0) 0 L (st) h cs ss = (lhas L 0 ∧ isRf (lgt L 0) ∧ K 1 L (lgt L 0 :: st) h cs ss) := by
  rw [dX3_init_0, ey_ok, nx_aload_n_3] <;> rfl
theorem qX3_init_1 : ey FX3 ini rt fin K0 K (decode cX3_init 1) 1 L (st) h cs ss = (K0 1 L st h cs ss) := by
  rw [dX3_init_1, ey_ok, nx_invokespecial_74]
theorem qX3_init_4 : ey FX3 ini rt fin K0 K (decode cX3_init 4) 4 L (st) h cs ss = (lhas L 0 ∧ isRf (lgt L 0) ∧ K 5 L (lgt L 0 :: st) h cs ss) := by
  rw [dX3_init_4, ey_ok, nx_aload_n_3] <;> rfl
theorem qX3_init_5 : ey FX3 ini rt fin K0 K (decode cX3_init 5) 5 L (st) h cs ss = (K 7 L (.int 40 :: st) h cs ss) := by
  rw [dX3_init_5, ey_ok, nx_bipush_12] <;> rfl
theorem qX3_init_7 : ey FX3 ini rt fin K0 K (decode cX3_init 7) 7 L (st) h cs ss = (K0 7 L st h cs ss) := by
  rw [dX3_init_7, ey_ok, nx_newarray_76]
theorem qX3_init_9 : ey FX3 ini rt fin K0 K (decode cX3_init 9) 9 L (v :: .ref a :: r) h cs ss = (h.1 a = some (.inl 3) ∧ okv (.array .char) v ∧ (true = true → ini = some 3) ∧ K 12 L r (h.1, hup h.2 a 0 v) cs ss) := by
  rw [dX3_init_9, ey_ok, nx_putfield_55]
  exact and_l rfl
theorem qX3_init_12 : ey FX3 ini rt fin K0 K (decode cX3_init 12) 12 L ([]) h cs ss = (rt = none ∧ fin none h cs ss) := by
  rw [dX3_init_12, ey_ok, nx_return__71]
theorem qX3_isAllowed_0 : ey FX3 ini rt fin K0 K (decode cX3_isAllowed 0) 0 L (st) h cs ss = (lhas L 0 ∧ isI (lgt L 0) ∧ K 1 L (lgt L 0 :: st) h cs ss) := by
  rw [dX3_isAllowed_0, ey_ok, nx_iload_n_1] <;> rfl
theorem qX3_isAllowed_1 : ey FX3 ini rt fin K0 K (decode cX3_isAllowed 1) 1 L (st) h cs ss = (K 3 L (.int 32 :: st) h cs ss) := by
  rw [dX3_isAllowed_1, ey_ok, nx_bipush_12] <;> rfl
theorem qX3_isAllowed_3 : ey FX3 ini rt fin K0 K (decode cX3_isAllowed 3) 3 L (.int y :: .int x :: r) h cs ss = (if x = y then K 25 L r h cs ss else K 6 L r h cs ss) := by
  rw [dX3_isAllowed_3, ey_ok, nx_if_icmp_36]
  exact and_l (by unfold jok; decide)
theorem qX3_isAllowed_6 : ey FX3 ini rt fin K0 K (decode cX3_isAllowed 6) 6 L (st) h cs ss = (lhas L 0 ∧ isI (lgt L 0) ∧ K 7 L (lgt L 0 :: st) h cs ss) := by
  rw [dX3_isAllowed_6, ey_ok, nx_iload_n_1] <;> rfl
theorem qX3_isAllowed_7 : ey FX3 ini rt fin K0 K (decode cX3_isAllowed 7) 7 L (st) h cs ss = (K0 7 L st h cs ss) := by
  rw [dX3_isAllowed_7, ey_ok, nx_invokestatic_73]
theorem qX3_isAllowed_10 : ey FX3 ini rt fin K0 K (decode cX3_isAllowed 10) 10 L (.int x :: r) h cs ss = (if ¬ x = 0 then K 25 L r h cs ss else K 13 L r h cs ss) := by
  rw [dX3_isAllowed_10, ey_ok, nx_ifond_31]
  exact and_l (by unfold jok; decide)
theorem qX3_isAllowed_13 : ey FX3 ini rt fin K0 K (decode cX3_isAllowed 13) 13 L (st) h cs ss = (lhas L 0 ∧ isI (lgt L 0) ∧ K 14 L (lgt L 0 :: st) h cs ss) := by
  rw [dX3_isAllowed_13, ey_ok, nx_iload_n_1] <;> rfl
theorem qX3_isAllowed_14 : ey FX3 ini rt fin K0 K (decode cX3_isAllowed 14) 14 L (st) h cs ss = (K 16 L (.int 65 :: st) h cs ss) := by
  rw [dX3_isAllowed_14, ey_ok, nx_bipush_12] <;> rfl
theorem qX3_isAllowed_16 : ey FX3 ini rt fin K0 K (decode cX3_isAllowed 16) 16 L (.int y :: .int x :: r) h cs ss = (if x < y then K 29 L r h cs ss else K 19 L r h cs ss) := by
  rw [dX3_isAllowed_16, ey_ok, nx_if_icmp_38]
  exact and_l (by unfold jok; decide)
theorem qX3_isAllowed_19 : ey FX3 ini rt fin K0 K (decode cX3_isAllowed 19) 19 L (st) h cs ss = (lhas L 0 ∧ isI (lgt L 0) ∧ K 20 L (lgt L 0 :: st) h cs ss) := by
  rw [dX3_isAllowed_19, ey_ok, nx_iload_n_1] <;> rfl
theorem qX3_isAllowed_20 : ey FX3 ini rt fin K0 K (decode cX3_isAllowed 20) 20 L (st) h cs ss = (K 22 L (.int 90 :: st) h cs ss) := by
  rw [dX3_isAllowed_20, ey_ok, nx_bipush_12] <;> rfl
theorem qX3_isAllowed_22 : ey FX3 ini rt fin K0 K (decode cX3_isAllowed 22) 22 L (.int y :: .int x :: r) h cs ss = (if y < x then K 29 L r h cs ss else K 25 L r h cs ss) := by
  rw [dX3_isAllowed_22, ey_ok, nx_if_icmp_40]
  exact and_l (by unfold jok; decide)
theorem qX3_isAllowed_25 : ey FX3 ini rt fin K0 K (decode cX3_isAllowed 25) 25 L (st) h cs ss = (K 26 L (.int 1 :: st) h cs ss) := by
  rw [dX3_isAllowed_25, ey_ok, nx_iconst_11] <;> rfl
theorem qX3_isAllowed_26 : ey FX3 ini rt fin K0 K (decode cX3_isAllowed 26) 26 L (st) h cs ss = (K 30 L st h cs ss) := by
  rw [dX3_isAllowed_26, ey_ok, nx_goto_29]
  exact and_l (by unfold jok; decide)
theorem qX3_isAllowed_29 : ey FX3 ini rt fin K0 K (decode cX3_isAllowed 29) 29 L (st) h cs ss = (K 30 L (.int 0 :: st) h cs ss) := by
  rw [dX3_isAllowed_29, ey_ok, nx_iconst_11] <;> rfl
theorem qX3_isAllowed_30 : ey FX3 ini rt fin K0 K (decode cX3_isAllowed 30) 30 L ([.int x]) h cs ss = (rokI rt x ∧ fin (some (.int x)) h cs ss) := by
  rw [dX3_isAllowed_30, ey_ok, nx_ireturn_68]
theorem qX3_isDigit_0 : ey FX3 ini rt fin K0 K (decode cX3_isDigit 0) 0 L (st) h cs ss = (lhas L 0 ∧ isI (lgt L 0) ∧ K 1 L (lgt L 0 :: st) h cs ss) := by
  rw [dX3_isDigit_0, ey_ok, nx_iload_n_1] <;> rfl
theorem qX3_isDigit_1 : ey FX3 ini rt fin K0 K (decode cX3_isDigit 1) 1 L (st) h cs ss = (K 3 L (.int 48 :: st) h cs ss) := by
  rw [dX3_isDigit_1, ey_ok, nx_bipush_12] <;> rfl
theorem qX3_isDigit_3 : ey FX3 ini rt fin K0 K (decode cX3_isDigit 3) 3 L (.int y :: .int x :: r) h cs ss = (if x < y then K 16 L r h cs ss else K 6 L r h cs ss) := by
  rw [dX3_isDigit_3, ey_ok, nx_if_icmp_38]
  exact and_l (by unfold jok; decide)
theorem qX3_isDigit_6 : ey FX3 ini rt fin K0 K (decode cX3_isDigit 6) 6 L (st) h cs ss = (lhas L 0 ∧ isI (lgt L 0) ∧ K 7 L (lgt L 0 :: st) h cs ss) := by
  rw [dX3_isDigit_6, ey_ok, nx_iload_n_1] <;> rfl
theorem qX3_isDigit_7 : ey FX3 ini rt fin K0 K (decode cX3_isDigit 7) 7 L (st) h cs ss = (K 9 L (.int 57 :: st) h cs ss) := by
  rw [dX3_isDigit_7, ey_ok, nx_bipush_12] <;> rfl
theorem qX3_isDigit_9 : ey FX3 ini rt fin K0 K (decode cX3_isDigit 9) 9 L (.int y :: .int x :: r) h cs ss = (if y < x then K 16 L r h cs ss else K 12 L r h cs ss) := by
  rw [dX3_isDigit_9, ey_ok, nx_if_icmp_40]
  exact and_l (by unfold jok; decide)
theorem qX3_isDigit_12 : ey FX3 ini rt fin K0 K (decode cX3_isDigit 12) 12 L (st) h cs ss = (K 13 L (.int 1 :: st) h cs ss) := by
  rw [dX3_isDigit_12, ey_ok, nx_iconst_11] <;> rfl
theorem qX3_isDigit_13 : ey FX3 ini rt fin K0 K (decode cX3_isDigit 13) 13 L (st) h cs ss = (K 17 L st h cs ss) := by
  rw [dX3_isDigit_13, ey_ok, nx_goto_29]
  exact and_l (by unfold jok; decide)
theorem qX3_isDigit_16 : ey FX3 ini rt fin K0 K (decode cX3_isDigit 16) 16 L (st) h cs ss = (K 17 L (.int 0 :: st) h cs ss) := by
  rw [dX3_isDigit_16, ey_ok, nx_iconst_11] <;> rfl
theorem qX3_isDigit_17 : ey FX3 ini rt fin K0 K (decode cX3_isDigit 17) 17 L ([.int x]) h cs ss = (rokI rt x ∧ fin (some (.int x)) h cs ss) := by
  rw [dX3_isDigit_17, ey_ok, nx_ireturn_68]
theorem qX3_isFull_0 : ey FX3 ini rt fin K0 K (decode cX3_isFull 0) 0 L (st) h cs ss = (lhas L 0 ∧ isRf (lgt L 0) ∧ K 1 L (lgt L 0 :: st) h cs ss) := by
  rw [dX3_isFull_0, ey_ok, nx_aload_n_3] <;> rfl
theorem qX3_isFull_1 : ey FX3 ini rt fin K0 K (decode cX3_isFull 1) 1 L (.ref a :: r) h cs ss = (h.1 a = some (.inl 3) ∧ K 4 L (h.2 a 1 :: r) h cs ss) := by
  rw [dX3_isFull_1, ey_ok, nx_getfield_54]
  exact and_l rfl
theorem qX3_isFull_4 : ey FX3 ini rt fin K0 K (decode cX3_isFull 4) 4 L (st) h cs ss = (lhas L 0 ∧ isRf (lgt L 0) ∧ K 5 L (lgt L 0 :: st) h cs ss) := by
  rw [dX3_isFull_4, ey_ok, nx_aload_n_3] <;> rfl
theorem qX3_isFull_5 : ey FX3 ini rt fin K0 K (decode cX3_isFull 5) 5 L (.ref a :: r) h cs ss = (h.1 a = some (.inl 3) ∧ K 8 L (h.2 a 0 :: r) h cs ss) := by
  rw [dX3_isFull_5, ey_ok, nx_getfield_54]
  exact and_l rfl
theorem qX3_isFull_8 : ey FX3 ini rt fin K0 K (decode cX3_isFull 8) 8 L (.ref a :: r) h cs ss = (isA (h.1 a) (fun _ _ => True) ∧ K 9 L (.int (nI (alen (h.1 a))) :: r) h cs ss) := by
  rw [dX3_isFull_8, ey_ok, nx_arraylength_56]
theorem qX3_isFull_9 : ey FX3 ini rt fin K0 K (decode cX3_isFull 9) 9 L (.int y :: .int x :: r) h cs ss = (if x < y then K 16 L r h cs ss else K 12 L r h cs ss) := by
  rw [dX3_isFull_9, ey_ok, nx_if_icmp_38]
  exact and_l (by unfold jok; decide)
theorem qX3_isFull_12 : ey FX3 ini rt fin K0 K (decode cX3_isFull 12) 12 L (st) h cs ss = (K 13 L (.int 1 :: st) h cs ss) := by
  rw [dX3_isFull_12, ey_ok, nx_iconst_11] <;> rfl
theorem qX3_isFull_13 : ey FX3 ini rt fin K0 K (decode cX3_isFull 13) 13 L (st) h cs ss = (K 17 L st h cs ss) := by
  rw [dX3_isFull_13, ey_ok, nx_goto_29]
  exact and_l (by unfold jok; decide)
theorem qX3_isFull_16 : ey FX3 ini rt fin K0 K (decode cX3_isFull 16) 16 L (st) h cs ss = (K 17 L (.int 0 :: st) h cs ss) := by
  rw [dX3_isFull_16, ey_ok, nx_iconst_11] <;> rfl
theorem qX3_isFull_17 : ey FX3 ini rt fin K0 K (decode cX3_isFull 17) 17 L ([.int x]) h cs ss = (rokI rt x ∧ fin (some (.int x)) h cs ss) := by
  rw [dX3_isFull_17, ey_ok, nx_ireturn_68]
theorem qX3_append_0 : ey FX3 ini rt fin K0 K (decode cX3_append 0) 0 L (st) h cs ss = (lhas L 0 ∧ isRf (lgt L 0) ∧ K 1 L (lgt L 0 :: st) h cs ss) := by
  rw [dX3_append_0, ey_ok, nx_aload_n_3] <;> rfl
theorem qX3_append_1 : ey FX3 ini rt fin K0 K (decode cX3_append 1) 1 L (.ref a :: r) h cs ss = (h.1 a = some (.inl 3) ∧ K 4 L (h.2 a 1 :: r) h cs ss) := by
  rw [dX3_append_1, ey_ok, nx_getfield_54]
  exact and_l rfl
theorem qX3_append_4 : ey FX3 ini rt fin K0 K (decode cX3_append 4) 4 L (st) h cs ss = (lhas L 0 ∧ isRf (lgt L 0) ∧ K 5 L (lgt L 0 :: st) h cs ss) := by
  rw [dX3_append_4, ey_ok, nx_aload_n_3] <;> rfl
theorem qX3_append_5 : ey FX3 ini rt fin K0 K (decode cX3_append 5) 5 L (.ref a :: r) h cs ss = (h.1 a = some (.inl 3) ∧ K 8 L (h.2 a 0 :: r) h cs ss) := by
  rw [dX3_append_5, ey_ok, nx_getfield_54]
  exact and_l rfl
theorem qX3_append_8 : ey FX3 ini rt fin K0 K (decode cX3_append 8) 8 L (.ref a :: r) h cs ss = (isA (h.1 a) (fun _ _ => True) ∧ K 9 L (.int (nI (alen (h.1 a))) :: r) h cs ss) := by
  rw [dX3_append_8, ey_ok, nx_arraylength_56]
theorem qX3_append_9 : ey FX3 ini rt fin K0 K (decode cX3_append 9) 9 L (.int y :: .int x :: r) h cs ss = (if y ≤ x then K 32 L r h cs ss else K 12 L r h cs ss) := by
  rw [dX3_append_9, ey_ok, nx_if_icmp_39]
  exact and_l (by unfold jok; decide)
theorem qX3_append_12 : ey FX3 ini rt fin K0 K (decode cX3_append 12) 12 L (st) h cs ss = (lhas L 0 ∧ isRf (lgt L 0) ∧ K 13 L (lgt L 0 :: st) h cs ss) := by
  rw [dX3_append_12, ey_ok, nx_aload_n_3] <;> rfl
theorem qX3_append_13 : ey FX3 ini rt fin K0 K (decode cX3_append 13) 13 L (.ref a :: r) h cs ss = (h.1 a = some (.inl 3) ∧ K 16 L (h.2 a 0 :: r) h cs ss) := by
  rw [dX3_append_13, ey_ok, nx_getfield_54]
  exact and_l rfl
theorem qX3_append_16 : ey FX3 ini rt fin K0 K (decode cX3_append 16) 16 L (st) h cs ss = (lhas L 0 ∧ isRf (lgt L 0) ∧ K 17 L (lgt L 0 :: st) h cs ss) := by
  rw [dX3_append_16, ey_ok, nx_aload_n_3] <;> rfl
theorem qX3_append_17 : ey FX3 ini rt fin K0 K (decode cX3_append 17) 17 L (.ref a :: r) h cs ss = (h.1 a = some (.inl 3) ∧ K 20 L (h.2 a 1 :: r) h cs ss) := by
  rw [dX3_append_17, ey_ok, nx_getfield_54]
  exact and_l rfl
theorem qX3_append_20 : ey FX3 ini rt fin K0 K (decode cX3_append 20) 20 L (st) h cs ss = (lhas L 1 ∧ isI (lgt L 1) ∧ K 21 L (lgt L 1 :: st) h cs ss) := by
  rw [dX3_append_20, ey_ok, nx_iload_n_1] <;> rfl
theorem qX3_append_21 : ey FX3 ini rt fin K0 K (decode cX3_append 21) 21 L (.int x :: .int i :: .ref a :: r) h cs ss = (isA (h.1 a) (fun k m => k = 2 ∧ vp_in i m) ∧ K 22 L r (h.1, hup h.2 a i.toNatClampNeg (narrow .char (.int x))) cs ss) := by
  rw [dX3_append_21, ey_ok, nx_castore_64]
theorem qX3_append_22 : ey FX3 ini rt fin K0 K (decode cX3_append 22) 22 L (st) h cs ss = (lhas L 0 ∧ isRf (lgt L 0) ∧ K 23 L (lgt L 0 :: st) h cs ss) := by
  rw [dX3_append_22, ey_ok, nx_aload_n_3] <;> rfl
theorem qX3_append_23 : ey FX3 ini rt fin K0 K (decode cX3_append 23) 23 L (v :: r) h cs ss = (v.category = 1 ∧ K 24 L (v :: v :: r) h cs ss) := by
  rw [dX3_append_23, ey_ok, nx_dup_27]
theorem qX3_append_24 : ey FX3 ini rt fin K0 K (decode cX3_append 24) 24 L (.ref a :: r) h cs ss = (h.1 a = some (.inl 3) ∧ K 27 L (h.2 a 1 :: r) h cs ss) := by
  rw [dX3_append_24, ey_ok, nx_getfield_54]
  exact and_l rfl
theorem qX3_append_27 : ey FX3 ini rt fin K0 K (decode cX3_append 27) 27 L (st) h cs ss = (K 28 L (.int 1 :: st) h cs ss) := by
  rw [dX3_append_27, ey_ok, nx_iconst_11] <;> rfl
theorem qX3_append_28 : ey FX3 ini rt fin K0 K (decode cX3_append 28) 28 L (.int y :: .int x :: r) h cs ss = (K 29 L (.int (x + y) :: r) h cs ss) := by
  rw [dX3_append_28, ey_ok, nx_iadd_16]
theorem qX3_append_29 : ey FX3 ini rt fin K0 K (decode cX3_append 29) 29 L (v :: .ref a :: r) h cs ss = (h.1 a = some (.inl 3) ∧ okv (.int) v ∧ K 32 L r (h.1, hup h.2 a 1 v) cs ss) := by
  rw [dX3_append_29, ey_ok, nx_putfield_55]
  exact (and_l rfl).trans (and_m (fun z => nomatch z))
theorem qX3_append_32 : ey FX3 ini rt fin K0 K (decode cX3_append 32) 32 L ([]) h cs ss = (rt = none ∧ fin none h cs ss) := by
  rw [dX3_append_32, ey_ok, nx_return__71]
theorem qX3_clear_0 : ey FX3 ini rt fin K0 K (decode cX3_clear 0) 0 L (st) h cs ss = (lhas L 0 ∧ isRf (lgt L 0) ∧ K 1 L (lgt L 0 :: st) h cs ss) := by
  rw [dX3_clear_0, ey_ok, nx_aload_n_3] <;> rfl
theorem qX3_clear_1 : ey FX3 ini rt fin K0 K (decode cX3_clear 1) 1 L (st) h cs ss = (K 2 L (.int 0 :: st) h cs ss) := by
  rw [dX3_clear_1, ey_ok, nx_iconst_11] <;> rfl
theorem qX3_clear_2 : ey FX3 ini rt fin K0 K (decode cX3_clear 2) 2 L (v :: .ref a :: r) h cs ss = (h.1 a = some (.inl 3) ∧ okv (.int) v ∧ K 5 L r (h.1, hup h.2 a 1 v) cs ss) := by
  rw [dX3_clear_2, ey_ok, nx_putfield_55]
  exact (and_l rfl).trans (and_m (fun z => nomatch z))
theorem qX3_clear_5 : ey FX3 ini rt fin K0 K (decode cX3_clear 5) 5 L ([]) h cs ss = (rt = none ∧ fin none h cs ss) := by
  rw [dX3_clear_5, ey_ok, nx_return__71]
theorem qX3_parse_0 : ey FX3 ini rt fin K0 K (decode cX3_parse 0) 0 L (st) h cs ss = (lhas L 0 ∧ isRf (lgt L 0) ∧ K 1 L (lgt L 0 :: st) h cs ss) := by
  rw [dX3_parse_0, ey_ok, nx_aload_n_3] <;> rfl
theorem qX3_parse_1 : ey FX3 ini rt fin K0 K (decode cX3_parse 1) 1 L (st) h cs ss = (K 2 L (.int 0 :: st) h cs ss) := by
  rw [dX3_parse_1, ey_ok, nx_iconst_11] <;> rfl
theorem qX3_parse_2 : ey FX3 ini rt fin K0 K (decode cX3_parse 2) 2 L (v :: .ref a :: r) h cs ss = (h.1 a = some (.inl 3) ∧ okv (.int) v ∧ K 5 L r (h.1, hup h.2 a 3 v) cs ss) := by
  rw [dX3_parse_2, ey_ok, nx_putfield_55]
  exact (and_l rfl).trans (and_m (fun z => nomatch z))
theorem qX3_parse_5 : ey FX3 ini rt fin K0 K (decode cX3_parse 5) 5 L (st) h cs ss = (lhas L 0 ∧ isRf (lgt L 0) ∧ K 6 L (lgt L 0 :: st) h cs ss) := by
  rw [dX3_parse_5, ey_ok, nx_aload_n_3] <;> rfl
theorem qX3_parse_6 : ey FX3 ini rt fin K0 K (decode cX3_parse 6) 6 L (st) h cs ss = (K0 6 L st h cs ss) := by
  rw [dX3_parse_6, ey_ok, nx_invokevirtual_72]
theorem qX3_parse_9 : ey FX3 ini rt fin K0 K (decode cX3_parse 9) 9 L (st) h cs ss = (lhas L 0 ∧ isRf (lgt L 0) ∧ K 10 L (lgt L 0 :: st) h cs ss) := by
  rw [dX3_parse_9, ey_ok, nx_aload_n_3] <;> rfl
theorem qX3_parse_10 : ey FX3 ini rt fin K0 K (decode cX3_parse 10) 10 L (st) h cs ss = (lhas L 0 ∧ isRf (lgt L 0) ∧ K 11 L (lgt L 0 :: st) h cs ss) := by
  rw [dX3_parse_10, ey_ok, nx_aload_n_3] <;> rfl
theorem qX3_parse_11 : ey FX3 ini rt fin K0 K (decode cX3_parse 11) 11 L (st) h cs ss = (K0 11 L st h cs ss) := by
  rw [dX3_parse_11, ey_ok, nx_invokevirtual_72]
theorem qX3_parse_14 : ey FX3 ini rt fin K0 K (decode cX3_parse 14) 14 L (v :: .ref a :: r) h cs ss = (h.1 a = some (.inl 3) ∧ okv (.int) v ∧ K 17 L r (h.1, hup h.2 a 4 v) cs ss) := by
  rw [dX3_parse_14, ey_ok, nx_putfield_55]
  exact (and_l rfl).trans (and_m (fun z => nomatch z))
theorem qX3_parse_17 : ey FX3 ini rt fin K0 K (decode cX3_parse 17) 17 L (st) h cs ss = (lhas L 0 ∧ isRf (lgt L 0) ∧ K 18 L (lgt L 0 :: st) h cs ss) := by
  rw [dX3_parse_17, ey_ok, nx_aload_n_3] <;> rfl
theorem qX3_parse_18 : ey FX3 ini rt fin K0 K (decode cX3_parse 18) 18 L (.ref a :: r) h cs ss = (h.1 a = some (.inl 3) ∧ K 21 L (h.2 a 4 :: r) h cs ss) := by
  rw [dX3_parse_18, ey_ok, nx_getfield_54]
  exact and_l rfl
theorem qX3_parse_21 : ey FX3 ini rt fin K0 K (decode cX3_parse 21) 21 L (st) h cs ss = (K 22 L (.int (-1) :: st) h cs ss) := by
  rw [dX3_parse_21, ey_ok, nx_iconst_11] <;> rfl
theorem qX3_parse_22 : ey FX3 ini rt fin K0 K (decode cX3_parse 22) 22 L (.int y :: .int x :: r) h cs ss = (if ¬ x = y then K 30 L r h cs ss else K 25 L r h cs ss) := by
  rw [dX3_parse_22, ey_ok, nx_if_icmp_37]
  exact and_l (by unfold jok; decide)
theorem qX3_parse_25 : ey FX3 ini rt fin K0 K (decode cX3_parse 25) 25 L (st) h cs ss = (lhas L 0 ∧ isRf (lgt L 0) ∧ K 26 L (lgt L 0 :: st) h cs ss) := by
  rw [dX3_parse_25, ey_ok, nx_aload_n_3] <;> rfl
theorem qX3_parse_26 : ey FX3 ini rt fin K0 K (decode cX3_parse 26) 26 L (.ref a :: r) h cs ss = (h.1 a = some (.inl 3) ∧ K 29 L (h.2 a 2 :: r) h cs ss) := by
  rw [dX3_parse_26, ey_ok, nx_getfield_54]
  exact and_l rfl
theorem qX3_parse_29 : ey FX3 ini rt fin K0 K (decode cX3_parse 29) 29 L ([.int x]) h cs ss = (rokI rt x ∧ fin (some (.int x)) h cs ss) := by
  rw [dX3_parse_29, ey_ok, nx_ireturn_68]
theorem qX3_parse_30 : ey FX3 ini rt fin K0 K (decode cX3_parse 30) 30 L (st) h cs ss = (lhas L 0 ∧ isRf (lgt L 0) ∧ K 31 L (lgt L 0 :: st) h cs ss) := by
  rw [dX3_parse_30, ey_ok, nx_aload_n_3] <;> rfl
theorem qX3_parse_31 : ey FX3 ini rt fin K0 K (decode cX3_parse 31) 31 L (st) h cs ss = (K0 31 L st h cs ss) := by
  rw [dX3_parse_31, ey_ok, nx_invokevirtual_72]
theorem qX3_parse_34 : ey FX3 ini rt fin K0 K (decode cX3_parse 34) 34 L (st) h cs ss = (lhas L 0 ∧ isRf (lgt L 0) ∧ K 35 L (lgt L 0 :: st) h cs ss) := by
  rw [dX3_parse_34, ey_ok, nx_aload_n_3] <;> rfl
theorem qX3_parse_35 : ey FX3 ini rt fin K0 K (decode cX3_parse 35) 35 L (st) h cs ss = (lhas L 0 ∧ isRf (lgt L 0) ∧ K 36 L (lgt L 0 :: st) h cs ss) := by
  rw [dX3_parse_35, ey_ok, nx_aload_n_3] <;> rfl
theorem qX3_parse_36 : ey FX3 ini rt fin K0 K (decode cX3_parse 36) 36 L (st) h cs ss = (K 37 L (.int 3 :: st) h cs ss) := by
  rw [dX3_parse_36, ey_ok, nx_iconst_11] <;> rfl
theorem qX3_parse_37 : ey FX3 ini rt fin K0 K (decode cX3_parse 37) 37 L (st) h cs ss = (K0 37 L st h cs ss) := by
  rw [dX3_parse_37, ey_ok, nx_invokevirtual_72]
theorem qX3_parse_40 : ey FX3 ini rt fin K0 K (decode cX3_parse 40) 40 L (v :: .ref a :: r) h cs ss = (h.1 a = some (.inl 3) ∧ okv (.int) v ∧ K 43 L r (h.1, hup h.2 a 5 v) cs ss) := by
  rw [dX3_parse_40, ey_ok, nx_putfield_55]
  exact (and_l rfl).trans (and_m (fun z => nomatch z))
theorem qX3_parse_43 : ey FX3 ini rt fin K0 K (decode cX3_parse 43) 43 L (st) h cs ss = (lhas L 0 ∧ isRf (lgt L 0) ∧ K 44 L (lgt L 0 :: st) h cs ss) := by
  rw [dX3_parse_43, ey_ok, nx_aload_n_3] <;> rfl
theorem qX3_parse_44 : ey FX3 ini rt fin K0 K (decode cX3_parse 44) 44 L (.ref a :: r) h cs ss = (h.1 a = some (.inl 3) ∧ K 47 L (h.2 a 5 :: r) h cs ss) := by
  rw [dX3_parse_44, ey_ok, nx_getfield_54]
  exact and_l rfl
theorem qX3_parse_47 : ey FX3 ini rt fin K0 K (decode cX3_parse 47) 47 L (st) h cs ss = (K 48 L (.int 1 :: st) h cs ss) := by
  rw [dX3_parse_47, ey_ok, nx_iconst_11] <;> rfl
theorem qX3_parse_48 : ey FX3 ini rt fin K0 K (decode cX3_parse 48) 48 L (.int y :: .int x :: r) h cs ss = (if x < y then K 61 L r h cs ss else K 51 L r h cs ss) := by
  rw [dX3_parse_48, ey_ok, nx_if_icmp_38]
  exact and_l (by unfold jok; decide)
theorem qX3_parse_51 : ey FX3 ini rt fin K0 K (decode cX3_parse 51) 51 L (st) h cs ss = (lhas L 0 ∧ isRf (lgt L 0) ∧ K 52 L (lgt L 0 :: st) h cs ss) := by
  rw [dX3_parse_51, ey_ok, nx_aload_n_3] <;> rfl
theorem qX3_parse_52 : ey FX3 ini rt fin K0 K (decode cX3_parse 52) 52 L (.ref a :: r) h cs ss = (h.1 a = some (.inl 3) ∧ K 55 L (h.2 a 5 :: r) h cs ss) := by
  rw [dX3_parse_52, ey_ok, nx_getfield_54]
  exact and_l rfl
theorem qX3_parse_55 : ey FX3 ini rt fin K0 K (decode cX3_parse 55) 55 L (st) h cs ss = (K 58 L (.int 200 :: st) h cs ss) := by
  rw [dX3_parse_55, ey_ok, nx_sipush_13] <;> rfl
theorem qX3_parse_58 : ey FX3 ini rt fin K0 K (decode cX3_parse 58) 58 L (.int y :: .int x :: r) h cs ss = (if x ≤ y then K 66 L r h cs ss else K 61 L r h cs ss) := by
  rw [dX3_parse_58, ey_ok, nx_if_icmp_41]
  exact and_l (by unfold jok; decide)
theorem qX3_parse_61 : ey FX3 ini rt fin K0 K (decode cX3_parse 61) 61 L (st) h cs ss = (lhas L 0 ∧ isRf (lgt L 0) ∧ K 62 L (lgt L 0 :: st) h cs ss) := by
  rw [dX3_parse_61, ey_ok, nx_aload_n_3] <;> rfl
theorem qX3_parse_62 : ey FX3 ini rt fin K0 K (decode cX3_parse 62) 62 L (.ref a :: r) h cs ss = (h.1 a = some (.inl 3) ∧ K 65 L (h.2 a 2 :: r) h cs ss) := by
  rw [dX3_parse_62, ey_ok, nx_getfield_54]
  exact and_l rfl
theorem qX3_parse_65 : ey FX3 ini rt fin K0 K (decode cX3_parse 65) 65 L ([.int x]) h cs ss = (rokI rt x ∧ fin (some (.int x)) h cs ss) := by
  rw [dX3_parse_65, ey_ok, nx_ireturn_68]
theorem qX3_parse_66 : ey FX3 ini rt fin K0 K (decode cX3_parse 66) 66 L (st) h cs ss = (lhas L 0 ∧ isRf (lgt L 0) ∧ K 67 L (lgt L 0 :: st) h cs ss) := by
  rw [dX3_parse_66, ey_ok, nx_aload_n_3] <;> rfl
theorem qX3_parse_67 : ey FX3 ini rt fin K0 K (decode cX3_parse 67) 67 L (st) h cs ss = (K0 67 L st h cs ss) := by
  rw [dX3_parse_67, ey_ok, nx_invokevirtual_72]
theorem qX3_parse_70 : ey FX3 ini rt fin K0 K (decode cX3_parse 70) 70 L (st) h cs ss = (lhas L 0 ∧ isRf (lgt L 0) ∧ K 71 L (lgt L 0 :: st) h cs ss) := by
  rw [dX3_parse_70, ey_ok, nx_aload_n_3] <;> rfl
theorem qX3_parse_71 : ey FX3 ini rt fin K0 K (decode cX3_parse 71) 71 L (st) h cs ss = (K 72 L (.int (-1) :: st) h cs ss) := by
  rw [dX3_parse_71, ey_ok, nx_iconst_11] <;> rfl
theorem qX3_parse_72 : ey FX3 ini rt fin K0 K (decode cX3_parse 72) 72 L (v :: .ref a :: r) h cs ss = (h.1 a = some (.inl 3) ∧ okv (.int) v ∧ K 75 L r (h.1, hup h.2 a 6 v) cs ss) := by
  rw [dX3_parse_72, ey_ok, nx_putfield_55]
  exact (and_l rfl).trans (and_m (fun z => nomatch z))
theorem qX3_parse_75 : ey FX3 ini rt fin K0 K (decode cX3_parse 75) 75 L (st) h cs ss = (lhas L 0 ∧ isRf (lgt L 0) ∧ K 76 L (lgt L 0 :: st) h cs ss) := by
  rw [dX3_parse_75, ey_ok, nx_aload_n_3] <;> rfl
theorem qX3_parse_76 : ey FX3 ini rt fin K0 K (decode cX3_parse 76) 76 L (st) h cs ss = (K0 76 L st h cs ss) := by
  rw [dX3_parse_76, ey_ok, nx_ldc_79]
theorem qX3_parse_78 : ey FX3 ini rt fin K0 K (decode cX3_parse 78) 78 L (st) h cs ss = (K0 78 L st h cs ss) := by
  rw [dX3_parse_78, ey_ok, nx_invokevirtual_72]
theorem qX3_parse_81 : ey FX3 ini rt fin K0 K (decode cX3_parse 81) 81 L (.int x :: r) h cs ss = (if x = 0 then K 121 L r h cs ss else K 84 L r h cs ss) := by
  rw [dX3_parse_81, ey_ok, nx_ifond_30]
  exact and_l (by unfold jok; decide)
theorem qX3_parse_84 : ey FX3 ini rt fin K0 K (decode cX3_parse 84) 84 L (st) h cs ss = (lhas L 0 ∧ isRf (lgt L 0) ∧ K 85 L (lgt L 0 :: st) h cs ss) := by
  rw [dX3_parse_84, ey_ok, nx_aload_n_3] <;> rfl
theorem qX3_parse_85 : ey FX3 ini rt fin K0 K (decode cX3_parse 85) 85 L (st) h cs ss = (K0 85 L st h cs ss) := by
  rw [dX3_parse_85, ey_ok, nx_invokevirtual_72]
theorem qX3_parse_88 : ey FX3 ini rt fin K0 K (decode cX3_parse 88) 88 L (st) h cs ss = (lhas L 0 ∧ isRf (lgt L 0) ∧ K 89 L (lgt L 0 :: st) h cs ss) := by
  rw [dX3_parse_88, ey_ok, nx_aload_n_3] <;> rfl
theorem qX3_parse_89 : ey FX3 ini rt fin K0 K (decode cX3_parse 89) 89 L (st) h cs ss = (lhas L 0 ∧ isRf (lgt L 0) ∧ K 90 L (lgt L 0 :: st) h cs ss) := by
  rw [dX3_parse_89, ey_ok, nx_aload_n_3] <;> rfl
theorem qX3_parse_90 : ey FX3 ini rt fin K0 K (decode cX3_parse 90) 90 L (st) h cs ss = (K 91 L (.int 1 :: st) h cs ss) := by
  rw [dX3_parse_90, ey_ok, nx_iconst_11] <;> rfl
theorem qX3_parse_91 : ey FX3 ini rt fin K0 K (decode cX3_parse 91) 91 L (st) h cs ss = (K0 91 L st h cs ss) := by
  rw [dX3_parse_91, ey_ok, nx_invokevirtual_72]
theorem qX3_parse_94 : ey FX3 ini rt fin K0 K (decode cX3_parse 94) 94 L (v :: .ref a :: r) h cs ss = (h.1 a = some (.inl 3) ∧ okv (.int) v ∧ K 97 L r (h.1, hup h.2 a 6 v) cs ss) := by
  rw [dX3_parse_94, ey_ok, nx_putfield_55]
  exact (and_l rfl).trans (and_m (fun z => nomatch z))
theorem qX3_parse_97 : ey FX3 ini rt fin K0 K (decode cX3_parse 97) 97 L (st) h cs ss = (lhas L 0 ∧ isRf (lgt L 0) ∧ K 98 L (lgt L 0 :: st) h cs ss) := by
  rw [dX3_parse_97, ey_ok, nx_aload_n_3] <;> rfl
theorem qX3_parse_98 : ey FX3 ini rt fin K0 K (decode cX3_parse 98) 98 L (.ref a :: r) h cs ss = (h.1 a = some (.inl 3) ∧ K 101 L (h.2 a 6 :: r) h cs ss) := by
  rw [dX3_parse_98, ey_ok, nx_getfield_54]
  exact and_l rfl
theorem qX3_parse_101 : ey FX3 ini rt fin K0 K (decode cX3_parse 101) 101 L (.int x :: r) h cs ss = (if x < 0 then K 112 L r h cs ss else K 104 L r h cs ss) := by
  rw [dX3_parse_101, ey_ok, nx_ifond_32]
  exact and_l (by unfold jok; decide)
theorem qX3_parse_104 : ey FX3 ini rt fin K0 K (decode cX3_parse 104) 104 L (st) h cs ss = (lhas L 0 ∧ isRf (lgt L 0) ∧ K 105 L (lgt L 0 :: st) h cs ss) := by
  rw [dX3_parse_104, ey_ok, nx_aload_n_3] <;> rfl
theorem qX3_parse_105 : ey FX3 ini rt fin K0 K (decode cX3_parse 105) 105 L (.ref a :: r) h cs ss = (h.1 a = some (.inl 3) ∧ K 108 L (h.2 a 6 :: r) h cs ss) := by
  rw [dX3_parse_105, ey_ok, nx_getfield_54]
  exact and_l rfl
theorem qX3_parse_108 : ey FX3 ini rt fin K0 K (decode cX3_parse 108) 108 L (st) h cs ss = (K 109 L (.int 3 :: st) h cs ss) := by
  rw [dX3_parse_108, ey_ok, nx_iconst_11] <;> rfl
theorem qX3_parse_109 : ey FX3 ini rt fin K0 K (decode cX3_parse 109) 109 L (.int y :: .int x :: r) h cs ss = (if x ≤ y then K 117 L r h cs ss else K 112 L r h cs ss) := by
  rw [dX3_parse_109, ey_ok, nx_if_icmp_41]
  exact and_l (by unfold jok; decide)
theorem qX3_parse_112 : ey FX3 ini rt fin K0 K (decode cX3_parse 112) 112 L (st) h cs ss = (lhas L 0 ∧ isRf (lgt L 0) ∧ K 113 L (lgt L 0 :: st) h cs ss) := by
  rw [dX3_parse_112, ey_ok, nx_aload_n_3] <;> rfl
theorem qX3_parse_113 : ey FX3 ini rt fin K0 K (decode cX3_parse 113) 113 L (.ref a :: r) h cs ss = (h.1 a = some (.inl 3) ∧ K 116 L (h.2 a 2 :: r) h cs ss) := by
  rw [dX3_parse_113, ey_ok, nx_getfield_54]
  exact and_l rfl
theorem qX3_parse_116 : ey FX3 ini rt fin K0 K (decode cX3_parse 116) 116 L ([.int x]) h cs ss = (rokI rt x ∧ fin (some (.int x)) h cs ss) := by
  rw [dX3_parse_116, ey_ok, nx_ireturn_68]
theorem qX3_parse_117 : ey FX3 ini rt fin K0 K (decode cX3_parse 117) 117 L (st) h cs ss = (lhas L 0 ∧ isRf (lgt L 0) ∧ K 118 L (lgt L 0 :: st) h cs ss) := by
  rw [dX3_parse_117, ey_ok, nx_aload_n_3] <;> rfl
theorem qX3_parse_118 : ey FX3 ini rt fin K0 K (decode cX3_parse 118) 118 L (st) h cs ss = (K0 118 L st h cs ss) := by
  rw [dX3_parse_118, ey_ok, nx_invokevirtual_72]
theorem qX3_parse_121 : ey FX3 ini rt fin K0 K (decode cX3_parse 121) 121 L (st) h cs ss = (lhas L 0 ∧ isRf (lgt L 0) ∧ K 122 L (lgt L 0 :: st) h cs ss) := by
  rw [dX3_parse_121, ey_ok, nx_aload_n_3] <;> rfl
theorem qX3_parse_122 : ey FX3 ini rt fin K0 K (decode cX3_parse 122) 122 L (st) h cs ss = (K0 122 L st h cs ss) := by
  rw [dX3_parse_122, ey_ok, nx_ldc_79]
theorem qX3_parse_124 : ey FX3 ini rt fin K0 K (decode cX3_parse 124) 124 L (st) h cs ss = (K0 124 L st h cs ss) := by
  rw [dX3_parse_124, ey_ok, nx_invokevirtual_72]
theorem qX3_parse_127 : ey FX3 ini rt fin K0 K (decode cX3_parse 127) 127 L (.int x :: r) h cs ss = (if ¬ x = 0 then K 135 L r h cs ss else K 130 L r h cs ss) := by
  rw [dX3_parse_127, ey_ok, nx_ifond_31]
  exact and_l (by unfold jok; decide)
theorem qX3_parse_130 : ey FX3 ini rt fin K0 K (decode cX3_parse 130) 130 L (st) h cs ss = (lhas L 0 ∧ isRf (lgt L 0) ∧ K 131 L (lgt L 0 :: st) h cs ss) := by
  rw [dX3_parse_130, ey_ok, nx_aload_n_3] <;> rfl
theorem qX3_parse_131 : ey FX3 ini rt fin K0 K (decode cX3_parse 131) 131 L (.ref a :: r) h cs ss = (h.1 a = some (.inl 3) ∧ K 134 L (h.2 a 2 :: r) h cs ss) := by
  rw [dX3_parse_131, ey_ok, nx_getfield_54]
  exact and_l rfl
theorem qX3_parse_134 : ey FX3 ini rt fin K0 K (decode cX3_parse 134) 134 L ([.int x]) h cs ss = (rokI rt x ∧ fin (some (.int x)) h cs ss) := by
  rw [dX3_parse_134, ey_ok, nx_ireturn_68]
theorem qX3_parse_135 : ey FX3 ini rt fin K0 K (decode cX3_parse 135) 135 L (st) h cs ss = (lhas L 0 ∧ isRf (lgt L 0) ∧ K 136 L (lgt L 0 :: st) h cs ss) := by
  rw [dX3_parse_135, ey_ok, nx_aload_n_3] <;> rfl
theorem qX3_parse_136 : ey FX3 ini rt fin K0 K (decode cX3_parse 136) 136 L (st) h cs ss = (K0 136 L st h cs ss) := by
  rw [dX3_parse_136, ey_ok, nx_invokevirtual_72]
theorem qX3_parse_139 : ey FX3 ini rt fin K0 K (decode cX3_parse 139) 139 L (st) h cs ss = (lhas L 0 ∧ isRf (lgt L 0) ∧ K 140 L (lgt L 0 :: st) h cs ss) := by
  rw [dX3_parse_139, ey_ok, nx_aload_n_3] <;> rfl
theorem qX3_parse_140 : ey FX3 ini rt fin K0 K (decode cX3_parse 140) 140 L (st) h cs ss = (lhas L 0 ∧ isRf (lgt L 0) ∧ K 141 L (lgt L 0 :: st) h cs ss) := by
  rw [dX3_parse_140, ey_ok, nx_aload_n_3] <;> rfl
theorem qX3_parse_141 : ey FX3 ini rt fin K0 K (decode cX3_parse 141) 141 L (st) h cs ss = (K 142 L (.int 3 :: st) h cs ss) := by
  rw [dX3_parse_141, ey_ok, nx_iconst_11] <;> rfl
theorem qX3_parse_142 : ey FX3 ini rt fin K0 K (decode cX3_parse 142) 142 L (st) h cs ss = (K0 142 L st h cs ss) := by
  rw [dX3_parse_142, ey_ok, nx_invokevirtual_72]
theorem qX3_parse_145 : ey FX3 ini rt fin K0 K (decode cX3_parse 145) 145 L (v :: .ref a :: r) h cs ss = (h.1 a = some (.inl 3) ∧ okv (.int) v ∧ K 148 L r (h.1, hup h.2 a 7 v) cs ss) := by
  rw [dX3_parse_145, ey_ok, nx_putfield_55]
  exact (and_l rfl).trans (and_m (fun z => nomatch z))
theorem qX3_parse_148 : ey FX3 ini rt fin K0 K (decode cX3_parse 148) 148 L (st) h cs ss = (lhas L 0 ∧ isRf (lgt L 0) ∧ K 149 L (lgt L 0 :: st) h cs ss) := by
  rw [dX3_parse_148, ey_ok, nx_aload_n_3] <;> rfl
theorem qX3_parse_149 : ey FX3 ini rt fin K0 K (decode cX3_parse 149) 149 L (.ref a :: r) h cs ss = (h.1 a = some (.inl 3) ∧ K 152 L (h.2 a 7 :: r) h cs ss) := by
  rw [dX3_parse_149, ey_ok, nx_getfield_54]
  exact and_l rfl
theorem qX3_parse_152 : ey FX3 ini rt fin K0 K (decode cX3_parse 152) 152 L (.int x :: r) h cs ss = (if x < 0 then K 165 L r h cs ss else K 155 L r h cs ss) := by
  rw [dX3_parse_152, ey_ok, nx_ifond_32]
  exact and_l (by unfold jok; decide)
theorem qX3_parse_155 : ey FX3 ini rt fin K0 K (decode cX3_parse 155) 155 L (st) h cs ss = (lhas L 0 ∧ isRf (lgt L 0) ∧ K 156 L (lgt L 0 :: st) h cs ss) := by
  rw [dX3_parse_155, ey_ok, nx_aload_n_3] <;> rfl
theorem qX3_parse_156 : ey FX3 ini rt fin K0 K (decode cX3_parse 156) 156 L (.ref a :: r) h cs ss = (h.1 a = some (.inl 3) ∧ K 159 L (h.2 a 7 :: r) h cs ss) := by
  rw [dX3_parse_156, ey_ok, nx_getfield_54]
  exact and_l rfl
theorem qX3_parse_159 : ey FX3 ini rt fin K0 K (decode cX3_parse 159) 159 L (st) h cs ss = (K 162 L (.int 200 :: st) h cs ss) := by
  rw [dX3_parse_159, ey_ok, nx_sipush_13] <;> rfl
theorem qX3_parse_162 : ey FX3 ini rt fin K0 K (decode cX3_parse 162) 162 L (.int y :: .int x :: r) h cs ss = (if x ≤ y then K 170 L r h cs ss else K 165 L r h cs ss) := by
  rw [dX3_parse_162, ey_ok, nx_if_icmp_41]
  exact and_l (by unfold jok; decide)
theorem qX3_parse_165 : ey FX3 ini rt fin K0 K (decode cX3_parse 165) 165 L (st) h cs ss = (lhas L 0 ∧ isRf (lgt L 0) ∧ K 166 L (lgt L 0 :: st) h cs ss) := by
  rw [dX3_parse_165, ey_ok, nx_aload_n_3] <;> rfl
theorem qX3_parse_166 : ey FX3 ini rt fin K0 K (decode cX3_parse 166) 166 L (.ref a :: r) h cs ss = (h.1 a = some (.inl 3) ∧ K 169 L (h.2 a 2 :: r) h cs ss) := by
  rw [dX3_parse_166, ey_ok, nx_getfield_54]
  exact and_l rfl
theorem qX3_parse_169 : ey FX3 ini rt fin K0 K (decode cX3_parse 169) 169 L ([.int x]) h cs ss = (rokI rt x ∧ fin (some (.int x)) h cs ss) := by
  rw [dX3_parse_169, ey_ok, nx_ireturn_68]
theorem qX3_parse_170 : ey FX3 ini rt fin K0 K (decode cX3_parse 170) 170 L (st) h cs ss = (lhas L 0 ∧ isRf (lgt L 0) ∧ K 171 L (lgt L 0 :: st) h cs ss) := by
  rw [dX3_parse_170, ey_ok, nx_aload_n_3] <;> rfl
theorem qX3_parse_171 : ey FX3 ini rt fin K0 K (decode cX3_parse 171) 171 L (st) h cs ss = (K0 171 L st h cs ss) := by
  rw [dX3_parse_171, ey_ok, nx_invokevirtual_72]
theorem qX3_parse_174 : ey FX3 ini rt fin K0 K (decode cX3_parse 174) 174 L (st) h cs ss = (lhas L 0 ∧ isRf (lgt L 0) ∧ K 175 L (lgt L 0 :: st) h cs ss) := by
  rw [dX3_parse_174, ey_ok, nx_aload_n_3] <;> rfl
theorem qX3_parse_175 : ey FX3 ini rt fin K0 K (decode cX3_parse 175) 175 L (.ref a :: r) h cs ss = (h.1 a = some (.inl 3) ∧ K 178 L (h.2 a 2 :: r) h cs ss) := by
  rw [dX3_parse_175, ey_ok, nx_getfield_54]
  exact and_l rfl
theorem qX3_parse_178 : ey FX3 ini rt fin K0 K (decode cX3_parse 178) 178 L (st) h cs ss = (lhas L 0 ∧ isRf (lgt L 0) ∧ K 179 L (lgt L 0 :: st) h cs ss) := by
  rw [dX3_parse_178, ey_ok, nx_aload_n_3] <;> rfl
theorem qX3_parse_179 : ey FX3 ini rt fin K0 K (decode cX3_parse 179) 179 L (.ref a :: r) h cs ss = (h.1 a = some (.inl 3) ∧ K 182 L (h.2 a 3 :: r) h cs ss) := by
  rw [dX3_parse_179, ey_ok, nx_getfield_54]
  exact and_l rfl
theorem qX3_parse_182 : ey FX3 ini rt fin K0 K (decode cX3_parse 182) 182 L (.int y :: .int x :: r) h cs ss = (if y ≤ x then K 192 L r h cs ss else K 185 L r h cs ss) := by
  rw [dX3_parse_182, ey_ok, nx_if_icmp_39]
  exact and_l (by unfold jok; decide)
theorem qX3_parse_185 : ey FX3 ini rt fin K0 K (decode cX3_parse 185) 185 L (st) h cs ss = (lhas L 0 ∧ isRf (lgt L 0) ∧ K 186 L (lgt L 0 :: st) h cs ss) := by
  rw [dX3_parse_185, ey_ok, nx_aload_n_3] <;> rfl
theorem qX3_parse_186 : ey FX3 ini rt fin K0 K (decode cX3_parse 186) 186 L (.ref a :: r) h cs ss = (h.1 a = some (.inl 3) ∧ K 189 L (h.2 a 2 :: r) h cs ss) := by
  rw [dX3_parse_186, ey_ok, nx_getfield_54]
  exact and_l rfl
theorem qX3_parse_189 : ey FX3 ini rt fin K0 K (decode cX3_parse 189) 189 L (st) h cs ss = (K 193 L st h cs ss) := by
  rw [dX3_parse_189, ey_ok, nx_goto_29]
  exact and_l (by unfold jok; decide)
theorem qX3_parse_192 : ey FX3 ini rt fin K0 K (decode cX3_parse 192) 192 L (st) h cs ss = (K 193 L (.int (-1) :: st) h cs ss) := by
  rw [dX3_parse_192, ey_ok, nx_iconst_11] <;> rfl
theorem qX3_parse_193 : ey FX3 ini rt fin K0 K (decode cX3_parse 193) 193 L ([.int x]) h cs ss = (rokI rt x ∧ fin (some (.int x)) h cs ss) := by
  rw [dX3_parse_193, ey_ok, nx_ireturn_68]
theorem qX3_nextWord_0 : ey FX3 ini rt fin K0 K (decode cX3_nextWord 0) 0 L (st) h cs ss = (lhas L 0 ∧ isRf (lgt L 0) ∧ K 1 L (lgt L 0 :: st) h cs ss) := by
  rw [dX3_nextWord_0, ey_ok, nx_aload_n_3] <;> rfl
theorem qX3_nextWord_1 : ey FX3 ini rt fin K0 K (decode cX3_nextWord 1) 1 L (st) h cs ss = (lhas L 0 ∧ isRf (lgt L 0) ∧ K 2 L (lgt L 0 :: st) h cs ss) := by
  rw [dX3_nextWord_1, ey_ok, nx_aload_n_3] <;> rfl
theorem qX3_nextWord_2 : ey FX3 ini rt fin K0 K (decode cX3_nextWord 2) 2 L (.ref a :: r) h cs ss = (h.1 a = some (.inl 3) ∧ K 5 L (h.2 a 3 :: r) h cs ss) := by
  rw [dX3_nextWord_2, ey_ok, nx_getfield_54]
  exact and_l rfl
theorem qX3_nextWord_5 : ey FX3 ini rt fin K0 K (decode cX3_nextWord 5) 5 L (v :: .ref a :: r) h cs ss = (h.1 a = some (.inl 3) ∧ okv (.int) v ∧ K 8 L r (h.1, hup h.2 a 2 v) cs ss) := by
  rw [dX3_nextWord_5, ey_ok, nx_putfield_55]
  exact (and_l rfl).trans (and_m (fun z => nomatch z))
theorem qX3_nextWord_8 : ey FX3 ini rt fin K0 K (decode cX3_nextWord 8) 8 L (st) h cs ss = (lhas L 0 ∧ isRf (lgt L 0) ∧ K 9 L (lgt L 0 :: st) h cs ss) := by
  rw [dX3_nextWord_8, ey_ok, nx_aload_n_3] <;> rfl
theorem qX3_nextWord_9 : ey FX3 ini rt fin K0 K (decode cX3_nextWord 9) 9 L (.ref a :: r) h cs ss = (h.1 a = some (.inl 3) ∧ K 12 L (h.2 a 2 :: r) h cs ss) := by
  rw [dX3_nextWord_9, ey_ok, nx_getfield_54]
  exact and_l rfl
theorem qX3_nextWord_12 : ey FX3 ini rt fin K0 K (decode cX3_nextWord 12) 12 L (st) h cs ss = (lhas L 0 ∧ isRf (lgt L 0) ∧ K 13 L (lgt L 0 :: st) h cs ss) := by
  rw [dX3_nextWord_12, ey_ok, nx_aload_n_3] <;> rfl
theorem qX3_nextWord_13 : ey FX3 ini rt fin K0 K (decode cX3_nextWord 13) 13 L (.ref a :: r) h cs ss = (h.1 a = some (.inl 3) ∧ K 16 L (h.2 a 1 :: r) h cs ss) := by
  rw [dX3_nextWord_13, ey_ok, nx_getfield_54]
  exact and_l rfl
theorem qX3_nextWord_16 : ey FX3 ini rt fin K0 K (decode cX3_nextWord 16) 16 L (.int y :: .int x :: r) h cs ss = (if y ≤ x then K 45 L r h cs ss else K 19 L r h cs ss) := by
  rw [dX3_nextWord_16, ey_ok, nx_if_icmp_39]
  exact and_l (by unfold jok; decide)
theorem qX3_nextWord_19 : ey FX3 ini rt fin K0 K (decode cX3_nextWord 19) 19 L (st) h cs ss = (lhas L 0 ∧ isRf (lgt L 0) ∧ K 20 L (lgt L 0 :: st) h cs ss) := by
  rw [dX3_nextWord_19, ey_ok, nx_aload_n_3] <;> rfl
theorem qX3_nextWord_20 : ey FX3 ini rt fin K0 K (decode cX3_nextWord 20) 20 L (st) h cs ss = (lhas L 0 ∧ isRf (lgt L 0) ∧ K 21 L (lgt L 0 :: st) h cs ss) := by
  rw [dX3_nextWord_20, ey_ok, nx_aload_n_3] <;> rfl
theorem qX3_nextWord_21 : ey FX3 ini rt fin K0 K (decode cX3_nextWord 21) 21 L (.ref a :: r) h cs ss = (h.1 a = some (.inl 3) ∧ K 24 L (h.2 a 2 :: r) h cs ss) := by
  rw [dX3_nextWord_21, ey_ok, nx_getfield_54]
  exact and_l rfl
theorem qX3_nextWord_24 : ey FX3 ini rt fin K0 K (decode cX3_nextWord 24) 24 L (st) h cs ss = (K0 24 L st h cs ss) := by
  rw [dX3_nextWord_24, ey_ok, nx_invokevirtual_72]
theorem qX3_nextWord_27 : ey FX3 ini rt fin K0 K (decode cX3_nextWord 27) 27 L (st) h cs ss = (K 29 L (.int 32 :: st) h cs ss) := by
  rw [dX3_nextWord_27, ey_ok, nx_bipush_12] <;> rfl
theorem qX3_nextWord_29 : ey FX3 ini rt fin K0 K (decode cX3_nextWord 29) 29 L (.int y :: .int x :: r) h cs ss = (if ¬ x = y then K 45 L r h cs ss else K 32 L r h cs ss) := by
  rw [dX3_nextWord_29, ey_ok, nx_if_icmp_37]
  exact and_l (by unfold jok; decide)
theorem qX3_nextWord_32 : ey FX3 ini rt fin K0 K (decode cX3_nextWord 32) 32 L (st) h cs ss = (lhas L 0 ∧ isRf (lgt L 0) ∧ K 33 L (lgt L 0 :: st) h cs ss) := by
  rw [dX3_nextWord_32, ey_ok, nx_aload_n_3] <;> rfl
theorem qX3_nextWord_33 : ey FX3 ini rt fin K0 K (decode cX3_nextWord 33) 33 L (v :: r) h cs ss = (v.category = 1 ∧ K 34 L (v :: v :: r) h cs ss) := by
  rw [dX3_nextWord_33, ey_ok, nx_dup_27]
theorem qX3_nextWord_34 : ey FX3 ini rt fin K0 K (decode cX3_nextWord 34) 34 L (.ref a :: r) h cs ss = (h.1 a = some (.inl 3) ∧ K 37 L (h.2 a 2 :: r) h cs ss) := by
  rw [dX3_nextWord_34, ey_ok, nx_getfield_54]
  exact and_l rfl
theorem qX3_nextWord_37 : ey FX3 ini rt fin K0 K (decode cX3_nextWord 37) 37 L (st) h cs ss = (K 38 L (.int 1 :: st) h cs ss) := by
  rw [dX3_nextWord_37, ey_ok, nx_iconst_11] <;> rfl
theorem qX3_nextWord_38 : ey FX3 ini rt fin K0 K (decode cX3_nextWord 38) 38 L (.int y :: .int x :: r) h cs ss = (K 39 L (.int (x + y) :: r) h cs ss) := by
  rw [dX3_nextWord_38, ey_ok, nx_iadd_16]
theorem qX3_nextWord_39 : ey FX3 ini rt fin K0 K (decode cX3_nextWord 39) 39 L (v :: .ref a :: r) h cs ss = (h.1 a = some (.inl 3) ∧ okv (.int) v ∧ K 42 L r (h.1, hup h.2 a 2 v) cs ss) := by
  rw [dX3_nextWord_39, ey_ok, nx_putfield_55]
  exact (and_l rfl).trans (and_m (fun z => nomatch z))
theorem qX3_nextWord_42 : ey FX3 ini rt fin K0 K (decode cX3_nextWord 42) 42 L (st) h cs ss = (K 8 L st h cs ss) := by
  rw [dX3_nextWord_42, ey_ok, nx_goto_29]
  exact and_l (by unfold jok; decide)
theorem qX3_nextWord_45 : ey FX3 ini rt fin K0 K (decode cX3_nextWord 45) 45 L (st) h cs ss = (lhas L 0 ∧ isRf (lgt L 0) ∧ K 46 L (lgt L 0 :: st) h cs ss) := by
  rw [dX3_nextWord_45, ey_ok, nx_aload_n_3] <;> rfl
theorem qX3_nextWord_46 : ey FX3 ini rt fin K0 K (decode cX3_nextWord 46) 46 L (st) h cs ss = (lhas L 0 ∧ isRf (lgt L 0) ∧ K 47 L (lgt L 0 :: st) h cs ss) := by
  rw [dX3_nextWord_46, ey_ok, nx_aload_n_3] <;> rfl
theorem qX3_nextWord_47 : ey FX3 ini rt fin K0 K (decode cX3_nextWord 47) 47 L (.ref a :: r) h cs ss = (h.1 a = some (.inl 3) ∧ K 50 L (h.2 a 2 :: r) h cs ss) := by
  rw [dX3_nextWord_47, ey_ok, nx_getfield_54]
  exact and_l rfl
theorem qX3_nextWord_50 : ey FX3 ini rt fin K0 K (decode cX3_nextWord 50) 50 L (v :: .ref a :: r) h cs ss = (h.1 a = some (.inl 3) ∧ okv (.int) v ∧ K 53 L r (h.1, hup h.2 a 3 v) cs ss) := by
  rw [dX3_nextWord_50, ey_ok, nx_putfield_55]
  exact (and_l rfl).trans (and_m (fun z => nomatch z))
theorem qX3_nextWord_53 : ey FX3 ini rt fin K0 K (decode cX3_nextWord 53) 53 L (st) h cs ss = (lhas L 0 ∧ isRf (lgt L 0) ∧ K 54 L (lgt L 0 :: st) h cs ss) := by
  rw [dX3_nextWord_53, ey_ok, nx_aload_n_3] <;> rfl
theorem qX3_nextWord_54 : ey FX3 ini rt fin K0 K (decode cX3_nextWord 54) 54 L (.ref a :: r) h cs ss = (h.1 a = some (.inl 3) ∧ K 57 L (h.2 a 3 :: r) h cs ss) := by
  rw [dX3_nextWord_54, ey_ok, nx_getfield_54]
  exact and_l rfl
theorem qX3_nextWord_57 : ey FX3 ini rt fin K0 K (decode cX3_nextWord 57) 57 L (st) h cs ss = (lhas L 0 ∧ isRf (lgt L 0) ∧ K 58 L (lgt L 0 :: st) h cs ss) := by
  rw [dX3_nextWord_57, ey_ok, nx_aload_n_3] <;> rfl
theorem qX3_nextWord_58 : ey FX3 ini rt fin K0 K (decode cX3_nextWord 58) 58 L (.ref a :: r) h cs ss = (h.1 a = some (.inl 3) ∧ K 61 L (h.2 a 1 :: r) h cs ss) := by
  rw [dX3_nextWord_58, ey_ok, nx_getfield_54]
  exact and_l rfl
theorem qX3_nextWord_61 : ey FX3 ini rt fin K0 K (decode cX3_nextWord 61) 61 L (.int y :: .int x :: r) h cs ss = (if y ≤ x then K 90 L r h cs ss else K 64 L r h cs ss) := by
  rw [dX3_nextWord_61, ey_ok, nx_if_icmp_39]
  exact and_l (by unfold jok; decide)
theorem qX3_nextWord_64 : ey FX3 ini rt fin K0 K (decode cX3_nextWord 64) 64 L (st) h cs ss = (lhas L 0 ∧ isRf (lgt L 0) ∧ K 65 L (lgt L 0 :: st) h cs ss) := by
  rw [dX3_nextWord_64, ey_ok, nx_aload_n_3] <;> rfl
theorem qX3_nextWord_65 : ey FX3 ini rt fin K0 K (decode cX3_nextWord 65) 65 L (st) h cs ss = (lhas L 0 ∧ isRf (lgt L 0) ∧ K 66 L (lgt L 0 :: st) h cs ss) := by
  rw [dX3_nextWord_65, ey_ok, nx_aload_n_3] <;> rfl
theorem qX3_nextWord_66 : ey FX3 ini rt fin K0 K (decode cX3_nextWord 66) 66 L (.ref a :: r) h cs ss = (h.1 a = some (.inl 3) ∧ K 69 L (h.2 a 3 :: r) h cs ss) := by
  rw [dX3_nextWord_66, ey_ok, nx_getfield_54]
  exact and_l rfl
theorem qX3_nextWord_69 : ey FX3 ini rt fin K0 K (decode cX3_nextWord 69) 69 L (st) h cs ss = (K0 69 L st h cs ss) := by
  rw [dX3_nextWord_69, ey_ok, nx_invokevirtual_72]
theorem qX3_nextWord_72 : ey FX3 ini rt fin K0 K (decode cX3_nextWord 72) 72 L (st) h cs ss = (K 74 L (.int 32 :: st) h cs ss) := by
  rw [dX3_nextWord_72, ey_ok, nx_bipush_12] <;> rfl
theorem qX3_nextWord_74 : ey FX3 ini rt fin K0 K (decode cX3_nextWord 74) 74 L (.int y :: .int x :: r) h cs ss = (if x = y then K 90 L r h cs ss else K 77 L r h cs ss) := by
  rw [dX3_nextWord_74, ey_ok, nx_if_icmp_36]
  exact and_l (by unfold jok; decide)
theorem qX3_nextWord_77 : ey FX3 ini rt fin K0 K (decode cX3_nextWord 77) 77 L (st) h cs ss = (lhas L 0 ∧ isRf (lgt L 0) ∧ K 78 L (lgt L 0 :: st) h cs ss) := by
  rw [dX3_nextWord_77, ey_ok, nx_aload_n_3] <;> rfl
theorem qX3_nextWord_78 : ey FX3 ini rt fin K0 K (decode cX3_nextWord 78) 78 L (v :: r) h cs ss = (v.category = 1 ∧ K 79 L (v :: v :: r) h cs ss) := by
  rw [dX3_nextWord_78, ey_ok, nx_dup_27]
theorem qX3_nextWord_79 : ey FX3 ini rt fin K0 K (decode cX3_nextWord 79) 79 L (.ref a :: r) h cs ss = (h.1 a = some (.inl 3) ∧ K 82 L (h.2 a 3 :: r) h cs ss) := by
  rw [dX3_nextWord_79, ey_ok, nx_getfield_54]
  exact and_l rfl
theorem qX3_nextWord_82 : ey FX3 ini rt fin K0 K (decode cX3_nextWord 82) 82 L (st) h cs ss = (K 83 L (.int 1 :: st) h cs ss) := by
  rw [dX3_nextWord_82, ey_ok, nx_iconst_11] <;> rfl
theorem qX3_nextWord_83 : ey FX3 ini rt fin K0 K (decode cX3_nextWord 83) 83 L (.int y :: .int x :: r) h cs ss = (K 84 L (.int (x + y) :: r) h cs ss) := by
  rw [dX3_nextWord_83, ey_ok, nx_iadd_16]
theorem qX3_nextWord_84 : ey FX3 ini rt fin K0 K (decode cX3_nextWord 84) 84 L (v :: .ref a :: r) h cs ss = (h.1 a = some (.inl 3) ∧ okv (.int) v ∧ K 87 L r (h.1, hup h.2 a 3 v) cs ss) := by
  rw [dX3_nextWord_84, ey_ok, nx_putfield_55]
  exact (and_l rfl).trans (and_m (fun z => nomatch z))
theorem qX3_nextWord_87 : ey FX3 ini rt fin K0 K (decode cX3_nextWord 87) 87 L (st) h cs ss = (K 53 L st h cs ss) := by
  rw [dX3_nextWord_87, ey_ok, nx_goto_29]
  exact and_l (by unfold jok; decide)
theorem qX3_nextWord_90 : ey FX3 ini rt fin K0 K (decode cX3_nextWord 90) 90 L ([]) h cs ss = (rt = none ∧ fin none h cs ss) := by
  rw [dX3_nextWord_90, ey_ok, nx_return__71]
theorem qX3_signAt_0 : ey FX3 ini rt fin K0 K (decode cX3_signAt 0) 0 L (st) h cs ss = (lhas L 1 ∧ isI (lgt L 1) ∧ K 1 L (lgt L 1 :: st) h cs ss) := by
  rw [dX3_signAt_0, ey_ok, nx_iload_n_1] <;> rfl
theorem qX3_signAt_1 : ey FX3 ini rt fin K0 K (decode cX3_signAt 1) 1 L (.int x :: r) h cs ss = (if x < 0 then K 13 L r h cs ss else K 4 L r h cs ss) := by
  rw [dX3_signAt_1, ey_ok, nx_ifond_32]
  exact and_l (by unfold jok; decide)
theorem qX3_signAt_4 : ey FX3 ini rt fin K0 K (decode cX3_signAt 4) 4 L (st) h cs ss = (lhas L 1 ∧ isI (lgt L 1) ∧ K 5 L (lgt L 1 :: st) h cs ss) := by
  rw [dX3_signAt_4, ey_ok, nx_iload_n_1] <;> rfl
theorem qX3_signAt_5 : ey FX3 ini rt fin K0 K (decode cX3_signAt 5) 5 L (st) h cs ss = (lhas L 0 ∧ isRf (lgt L 0) ∧ K 6 L (lgt L 0 :: st) h cs ss) := by
  rw [dX3_signAt_5, ey_ok, nx_aload_n_3] <;> rfl
theorem qX3_signAt_6 : ey FX3 ini rt fin K0 K (decode cX3_signAt 6) 6 L (.ref a :: r) h cs ss = (h.1 a = some (.inl 3) ∧ K 9 L (h.2 a 0 :: r) h cs ss) := by
  rw [dX3_signAt_6, ey_ok, nx_getfield_54]
  exact and_l rfl
theorem qX3_signAt_9 : ey FX3 ini rt fin K0 K (decode cX3_signAt 9) 9 L (.ref a :: r) h cs ss = (isA (h.1 a) (fun _ _ => True) ∧ K 10 L (.int (nI (alen (h.1 a))) :: r) h cs ss) := by
  rw [dX3_signAt_9, ey_ok, nx_arraylength_56]
theorem qX3_signAt_10 : ey FX3 ini rt fin K0 K (decode cX3_signAt 10) 10 L (.int y :: .int x :: r) h cs ss = (if x < y then K 18 L r h cs ss else K 13 L r h cs ss) := by
  rw [dX3_signAt_10, ey_ok, nx_if_icmp_38]
  exact and_l (by unfold jok; decide)
theorem qX3_signAt_13 : ey FX3 ini rt fin K0 K (decode cX3_signAt 13) 13 L (st) h cs ss = (K 15 L (.int 32 :: st) h cs ss) := by
  rw [dX3_signAt_13, ey_ok, nx_bipush_12] <;> rfl
theorem qX3_signAt_15 : ey FX3 ini rt fin K0 K (decode cX3_signAt 15) 15 L (st) h cs ss = (K 24 L st h cs ss) := by
  rw [dX3_signAt_15, ey_ok, nx_goto_29]
  exact and_l (by unfold jok; decide)
theorem qX3_signAt_18 : ey FX3 ini rt fin K0 K (decode cX3_signAt 18) 18 L (st) h cs ss = (lhas L 0 ∧ isRf (lgt L 0) ∧ K 19 L (lgt L 0 :: st) h cs ss) := by
  rw [dX3_signAt_18, ey_ok, nx_aload_n_3] <;> rfl
theorem qX3_signAt_19 : ey FX3 ini rt fin K0 K (decode cX3_signAt 19) 19 L (.ref a :: r) h cs ss = (h.1 a = some (.inl 3) ∧ K 22 L (h.2 a 0 :: r) h cs ss) := by
  rw [dX3_signAt_19, ey_ok, nx_getfield_54]
  exact and_l rfl
theorem qX3_signAt_22 : ey FX3 ini rt fin K0 K (decode cX3_signAt 22) 22 L (st) h cs ss = (lhas L 1 ∧ isI (lgt L 1) ∧ K 23 L (lgt L 1 :: st) h cs ss) := by
  rw [dX3_signAt_22, ey_ok, nx_iload_n_1] <;> rfl
theorem qX3_signAt_23 : ey FX3 ini rt fin K0 K (decode cX3_signAt 23) 23 L (.int i :: .ref a :: r) h cs ss = (isA (h.1 a) (fun k m => k = 2 ∧ vp_in i m) ∧ K 24 L (h.2 a i.toNatClampNeg :: r) h cs ss) := by
  rw [dX3_signAt_23, ey_ok, nx_caload_59]
theorem qX3_signAt_24 : ey FX3 ini rt fin K0 K (decode cX3_signAt 24) 24 L ([.int x]) h cs ss = (rokI rt x ∧ fin (some (.int x)) h cs ss) := by
  rw [dX3_signAt_24, ey_ok, nx_ireturn_68]
theorem qX3_kindOfWord_0 : ey FX3 ini rt fin K0 K (decode cX3_kindOfWord 0) 0 L (st) h cs ss = (lhas L 0 ∧ isRf (lgt L 0) ∧ K 1 L (lgt L 0 :: st) h cs ss) := by
  rw [dX3_kindOfWord_0, ey_ok, nx_aload_n_3] <;> rfl
theorem qX3_kindOfWord_1 : ey FX3 ini rt fin K0 K (decode cX3_kindOfWord 1) 1 L (st) h cs ss = (K0 1 L st h cs ss) := by
  rw [dX3_kindOfWord_1, ey_ok, nx_ldc_79]
theorem qX3_kindOfWord_3 : ey FX3 ini rt fin K0 K (decode cX3_kindOfWord 3) 3 L (st) h cs ss = (K0 3 L st h cs ss) := by
  rw [dX3_kindOfWord_3, ey_ok, nx_invokevirtual_72]
theorem qX3_kindOfWord_6 : ey FX3 ini rt fin K0 K (decode cX3_kindOfWord 6) 6 L (.int x :: r) h cs ss = (if x = 0 then K 11 L r h cs ss else K 9 L r h cs ss) := by
  rw [dX3_kindOfWord_6, ey_ok, nx_ifond_30]
  exact and_l (by unfold jok; decide)
theorem qX3_kindOfWord_9 : ey FX3 ini rt fin K0 K (decode cX3_kindOfWord 9) 9 L (st) h cs ss = (K 10 L (.int 0 :: st) h cs ss) := by
  rw [dX3_kindOfWord_9, ey_ok, nx_iconst_11] <;> rfl
theorem qX3_kindOfWord_10 : ey FX3 ini rt fin K0 K (decode cX3_kindOfWord 10) 10 L ([.int x]) h cs ss = (rokI rt x ∧ fin (some (.int x)) h cs ss) := by
  rw [dX3_kindOfWord_10, ey_ok, nx_ireturn_68]
theorem qX3_kindOfWord_11 : ey FX3 ini rt fin K0 K (decode cX3_kindOfWord 11) 11 L (st) h cs ss = (lhas L 0 ∧ isRf (lgt L 0) ∧ K 12 L (lgt L 0 :: st) h cs ss) := by
  rw [dX3_kindOfWord_11, ey_ok, nx_aload_n_3] <;> rfl
theorem qX3_kindOfWord_12 : ey FX3 ini rt fin K0 K (decode cX3_kindOfWord 12) 12 L (st) h cs ss = (K0 12 L st h cs ss) := by
  rw [dX3_kindOfWord_12, ey_ok, nx_ldc_79]
theorem qX3_kindOfWord_14 : ey FX3 ini rt fin K0 K (decode cX3_kindOfWord 14) 14 L (st) h cs ss = (K0 14 L st h cs ss) := by
  rw [dX3_kindOfWord_14, ey_ok, nx_invokevirtual_72]
theorem qX3_kindOfWord_17 : ey FX3 ini rt fin K0 K (decode cX3_kindOfWord 17) 17 L (.int x :: r) h cs ss = (if x = 0 then K 22 L r h cs ss else K 20 L r h cs ss) := by
  rw [dX3_kindOfWord_17, ey_ok, nx_ifond_30]
  exact and_l (by unfold jok; decide)
theorem qX3_kindOfWord_20 : ey FX3 ini rt fin K0 K (decode cX3_kindOfWord 20) 20 L (st) h cs ss = (K 21 L (.int 1 :: st) h cs ss) := by
  rw [dX3_kindOfWord_20, ey_ok, nx_iconst_11] <;> rfl
theorem qX3_kindOfWord_21 : ey FX3 ini rt fin K0 K (decode cX3_kindOfWord 21) 21 L ([.int x]) h cs ss = (rokI rt x ∧ fin (some (.int x)) h cs ss) := by
  rw [dX3_kindOfWord_21, ey_ok, nx_ireturn_68]
theorem qX3_kindOfWord_22 : ey FX3 ini rt fin K0 K (decode cX3_kindOfWord 22) 22 L (st) h cs ss = (lhas L 0 ∧ isRf (lgt L 0) ∧ K 23 L (lgt L 0 :: st) h cs ss) := by
  rw [dX3_kindOfWord_22, ey_ok, nx_aload_n_3] <;> rfl
theorem qX3_kindOfWord_23 : ey FX3 ini rt fin K0 K (decode cX3_kindOfWord 23) 23 L (st) h cs ss = (K0 23 L st h cs ss) := by
  rw [dX3_kindOfWord_23, ey_ok, nx_ldc_79]
theorem qX3_kindOfWord_25 : ey FX3 ini rt fin K0 K (decode cX3_kindOfWord 25) 25 L (st) h cs ss = (K0 25 L st h cs ss) := by
  rw [dX3_kindOfWord_25, ey_ok, nx_invokevirtual_72]
theorem qX3_kindOfWord_28 : ey FX3 ini rt fin K0 K (decode cX3_kindOfWord 28) 28 L (.int x :: r) h cs ss = (if x = 0 then K 33 L r h cs ss else K 31 L r h cs ss) := by
  rw [dX3_kindOfWord_28, ey_ok, nx_ifond_30]
  exact and_l (by unfold jok; decide)
theorem qX3_kindOfWord_31 : ey FX3 ini rt fin K0 K (decode cX3_kindOfWord 31) 31 L (st) h cs ss = (K 32 L (.int 2 :: st) h cs ss) := by
  rw [dX3_kindOfWord_31, ey_ok, nx_iconst_11] <;> rfl
theorem qX3_kindOfWord_32 : ey FX3 ini rt fin K0 K (decode cX3_kindOfWord 32) 32 L ([.int x]) h cs ss = (rokI rt x ∧ fin (some (.int x)) h cs ss) := by
  rw [dX3_kindOfWord_32, ey_ok, nx_ireturn_68]
theorem qX3_kindOfWord_33 : ey FX3 ini rt fin K0 K (decode cX3_kindOfWord 33) 33 L (st) h cs ss = (lhas L 0 ∧ isRf (lgt L 0) ∧ K 34 L (lgt L 0 :: st) h cs ss) := by
  rw [dX3_kindOfWord_33, ey_ok, nx_aload_n_3] <;> rfl
theorem qX3_kindOfWord_34 : ey FX3 ini rt fin K0 K (decode cX3_kindOfWord 34) 34 L (st) h cs ss = (K0 34 L st h cs ss) := by
  rw [dX3_kindOfWord_34, ey_ok, nx_ldc_79]
theorem qX3_kindOfWord_36 : ey FX3 ini rt fin K0 K (decode cX3_kindOfWord 36) 36 L (st) h cs ss = (K0 36 L st h cs ss) := by
  rw [dX3_kindOfWord_36, ey_ok, nx_invokevirtual_72]
theorem qX3_kindOfWord_39 : ey FX3 ini rt fin K0 K (decode cX3_kindOfWord 39) 39 L (.int x :: r) h cs ss = (if x = 0 then K 46 L r h cs ss else K 42 L r h cs ss) := by
  rw [dX3_kindOfWord_39, ey_ok, nx_ifond_30]
  exact and_l (by unfold jok; decide)
theorem qX3_kindOfWord_42 : ey FX3 ini rt fin K0 K (decode cX3_kindOfWord 42) 42 L (st) h cs ss = (K 43 L (.int 3 :: st) h cs ss) := by
  rw [dX3_kindOfWord_42, ey_ok, nx_iconst_11] <;> rfl
theorem qX3_kindOfWord_43 : ey FX3 ini rt fin K0 K (decode cX3_kindOfWord 43) 43 L (st) h cs ss = (K 47 L st h cs ss) := by
  rw [dX3_kindOfWord_43, ey_ok, nx_goto_29]
  exact and_l (by unfold jok; decide)
theorem qX3_kindOfWord_46 : ey FX3 ini rt fin K0 K (decode cX3_kindOfWord 46) 46 L (st) h cs ss = (K 47 L (.int (-1) :: st) h cs ss) := by
  rw [dX3_kindOfWord_46, ey_ok, nx_iconst_11] <;> rfl
theorem qX3_kindOfWord_47 : ey FX3 ini rt fin K0 K (decode cX3_kindOfWord 47) 47 L ([.int x]) h cs ss = (rokI rt x ∧ fin (some (.int x)) h cs ss) := by
  rw [dX3_kindOfWord_47, ey_ok, nx_ireturn_68]
theorem qX3_isWord_0 : ey FX3 ini rt fin K0 K (decode cX3_isWord 0) 0 L (st) h cs ss = (lhas L 0 ∧ isRf (lgt L 0) ∧ K 1 L (lgt L 0 :: st) h cs ss) := by
  rw [dX3_isWord_0, ey_ok, nx_aload_n_3] <;> rfl
theorem qX3_isWord_1 : ey FX3 ini rt fin K0 K (decode cX3_isWord 1) 1 L (.ref a :: r) h cs ss = (h.1 a = some (.inl 3) ∧ K 4 L (h.2 a 3 :: r) h cs ss) := by
  rw [dX3_isWord_1, ey_ok, nx_getfield_54]
  exact and_l rfl
theorem qX3_isWord_4 : ey FX3 ini rt fin K0 K (decode cX3_isWord 4) 4 L (st) h cs ss = (lhas L 0 ∧ isRf (lgt L 0) ∧ K 5 L (lgt L 0 :: st) h cs ss) := by
  rw [dX3_isWord_4, ey_ok, nx_aload_n_3] <;> rfl
theorem qX3_isWord_5 : ey FX3 ini rt fin K0 K (decode cX3_isWord 5) 5 L (.ref a :: r) h cs ss = (h.1 a = some (.inl 3) ∧ K 8 L (h.2 a 2 :: r) h cs ss) := by
  rw [dX3_isWord_5, ey_ok, nx_getfield_54]
  exact and_l rfl
theorem qX3_isWord_8 : ey FX3 ini rt fin K0 K (decode cX3_isWord 8) 8 L (.int y :: .int x :: r) h cs ss = (K 9 L (.int (x - y) :: r) h cs ss) := by
  rw [dX3_isWord_8, ey_ok, nx_isub_17]
theorem qX3_isWord_9 : ey FX3 ini rt fin K0 K (decode cX3_isWord 9) 9 L (st) h cs ss = (lhas L 1 ∧ isRf (lgt L 1) ∧ K 10 L (lgt L 1 :: st) h cs ss) := by
  rw [dX3_isWord_9, ey_ok, nx_aload_n_3] <;> rfl
theorem qX3_isWord_10 : ey FX3 ini rt fin K0 K (decode cX3_isWord 10) 10 L (st) h cs ss = (K0 10 L st h cs ss) := by
  rw [dX3_isWord_10, ey_ok, nx_invokevirtual_72]
theorem qX3_isWord_13 : ey FX3 ini rt fin K0 K (decode cX3_isWord 13) 13 L (.int y :: .int x :: r) h cs ss = (if x = y then K 18 L r h cs ss else K 16 L r h cs ss) := by
  rw [dX3_isWord_13, ey_ok, nx_if_icmp_36]
  exact and_l (by unfold jok; decide)
theorem qX3_isWord_16 : ey FX3 ini rt fin K0 K (decode cX3_isWord 16) 16 L (st) h cs ss = (K 17 L (.int 0 :: st) h cs ss) := by
  rw [dX3_isWord_16, ey_ok, nx_iconst_11] <;> rfl
theorem qX3_isWord_17 : ey FX3 ini rt fin K0 K (decode cX3_isWord 17) 17 L ([.int x]) h cs ss = (rokI rt x ∧ fin (some (.int x)) h cs ss) := by
  rw [dX3_isWord_17, ey_ok, nx_ireturn_68]
theorem qX3_isWord_18 : ey FX3 ini rt fin K0 K (decode cX3_isWord 18) 18 L (st) h cs ss = (K 19 L (.int 0 :: st) h cs ss) := by
  rw [dX3_isWord_18, ey_ok, nx_iconst_11] <;> rfl
theorem qX3_isWord_19 : ey FX3 ini rt fin K0 K (decode cX3_isWord 19) 19 L (.int x :: r) h cs ss = (2 < L.length ∧ K 20 (L.set 2 (some (.int x))) r h cs ss) := by
  rw [dX3_isWord_19, ey_ok, nx_istore_n_5] <;> rfl
theorem qX3_isWord_20 : ey FX3 ini rt fin K0 K (decode cX3_isWord 20) 20 L (st) h cs ss = (lhas L 2 ∧ isI (lgt L 2) ∧ K 21 L (lgt L 2 :: st) h cs ss) := by
  rw [dX3_isWord_20, ey_ok, nx_iload_n_1] <;> rfl
theorem qX3_isWord_21 : ey FX3 ini rt fin K0 K (decode cX3_isWord 21) 21 L (st) h cs ss = (lhas L 1 ∧ isRf (lgt L 1) ∧ K 22 L (lgt L 1 :: st) h cs ss) := by
  rw [dX3_isWord_21, ey_ok, nx_aload_n_3] <;> rfl
theorem qX3_isWord_22 : ey FX3 ini rt fin K0 K (decode cX3_isWord 22) 22 L (st) h cs ss = (K0 22 L st h cs ss) := by
  rw [dX3_isWord_22, ey_ok, nx_invokevirtual_72]
theorem qX3_isWord_25 : ey FX3 ini rt fin K0 K (decode cX3_isWord 25) 25 L (.int y :: .int x :: r) h cs ss = (if y ≤ x then K 54 L r h cs ss else K 28 L r h cs ss) := by
  rw [dX3_isWord_25, ey_ok, nx_if_icmp_39]
  exact and_l (by unfold jok; decide)
theorem qX3_isWord_28 : ey FX3 ini rt fin K0 K (decode cX3_isWord 28) 28 L (st) h cs ss = (lhas L 0 ∧ isRf (lgt L 0) ∧ K 29 L (lgt L 0 :: st) h cs ss) := by
  rw [dX3_isWord_28, ey_ok, nx_aload_n_3] <;> rfl
theorem qX3_isWord_29 : ey FX3 ini rt fin K0 K (decode cX3_isWord 29) 29 L (st) h cs ss = (lhas L 0 ∧ isRf (lgt L 0) ∧ K 30 L (lgt L 0 :: st) h cs ss) := by
  rw [dX3_isWord_29, ey_ok, nx_aload_n_3] <;> rfl
theorem qX3_isWord_30 : ey FX3 ini rt fin K0 K (decode cX3_isWord 30) 30 L (.ref a :: r) h cs ss = (h.1 a = some (.inl 3) ∧ K 33 L (h.2 a 2 :: r) h cs ss) := by
  rw [dX3_isWord_30, ey_ok, nx_getfield_54]
  exact and_l rfl
theorem qX3_isWord_33 : ey FX3 ini rt fin K0 K (decode cX3_isWord 33) 33 L (st) h cs ss = (lhas L 2 ∧ isI (lgt L 2) ∧ K 34 L (lgt L 2 :: st) h cs ss) := by
  rw [dX3_isWord_33, ey_ok, nx_iload_n_1] <;> rfl
theorem qX3_isWord_34 : ey FX3 ini rt fin K0 K (decode cX3_isWord 34) 34 L (.int y :: .int x :: r) h cs ss = (K 35 L (.int (x + y) :: r) h cs ss) := by
  rw [dX3_isWord_34, ey_ok, nx_iadd_16]
theorem qX3_isWord_35 : ey FX3 ini rt fin K0 K (decode cX3_isWord 35) 35 L (st) h cs ss = (K0 35 L st h cs ss) := by
  rw [dX3_isWord_35, ey_ok, nx_invokevirtual_72]
theorem qX3_isWord_38 : ey FX3 ini rt fin K0 K (decode cX3_isWord 38) 38 L (st) h cs ss = (lhas L 1 ∧ isRf (lgt L 1) ∧ K 39 L (lgt L 1 :: st) h cs ss) := by
  rw [dX3_isWord_38, ey_ok, nx_aload_n_3] <;> rfl
theorem qX3_isWord_39 : ey FX3 ini rt fin K0 K (decode cX3_isWord 39) 39 L (st) h cs ss = (lhas L 2 ∧ isI (lgt L 2) ∧ K 40 L (lgt L 2 :: st) h cs ss) := by
  rw [dX3_isWord_39, ey_ok, nx_iload_n_1] <;> rfl
theorem qX3_isWord_40 : ey FX3 ini rt fin K0 K (decode cX3_isWord 40) 40 L (st) h cs ss = (K0 40 L st h cs ss) := by
  rw [dX3_isWord_40, ey_ok, nx_invokevirtual_72]
theorem qX3_isWord_43 : ey FX3 ini rt fin K0 K (decode cX3_isWord 43) 43 L (.int y :: .int x :: r) h cs ss = (if x = y then K 48 L r h cs ss else K 46 L r h cs ss) := by
  rw [dX3_isWord_43, ey_ok, nx_if_icmp_36]
  exact and_l (by unfold jok; decide)
theorem qX3_isWord_46 : ey FX3 ini rt fin K0 K (decode cX3_isWord 46) 46 L (st) h cs ss = (K 47 L (.int 0 :: st) h cs ss) := by
  rw [dX3_isWord_46, ey_ok, nx_iconst_11] <;> rfl
theorem qX3_isWord_47 : ey FX3 ini rt fin K0 K (decode cX3_isWord 47) 47 L ([.int x]) h cs ss = (rokI rt x ∧ fin (some (.int x)) h cs ss) := by
  rw [dX3_isWord_47, ey_ok, nx_ireturn_68]
theorem qX3_isWord_48 : ey FX3 ini rt fin K0 K (decode cX3_isWord 48) 48 L (st) h cs ss = (lhas L 2 ∧ isI (lgt L 2) ∧ K 51 (L.set 2 (some (inc (lgt L 2) 1))) st h cs ss) := by
  rw [dX3_isWord_48, ey_ok, nx_iinc_10] <;> rfl
theorem qX3_isWord_51 : ey FX3 ini rt fin K0 K (decode cX3_isWord 51) 51 L (st) h cs ss = (K 20 L st h cs ss) := by
  rw [dX3_isWord_51, ey_ok, nx_goto_29]
  exact and_l (by unfold jok; decide)
theorem qX3_isWord_54 : ey FX3 ini rt fin K0 K (decode cX3_isWord 54) 54 L (st) h cs ss = (K 55 L (.int 1 :: st) h cs ss) := by
  rw [dX3_isWord_54, ey_ok, nx_iconst_11] <;> rfl
theorem qX3_isWord_55 : ey FX3 ini rt fin K0 K (decode cX3_isWord 55) 55 L ([.int x]) h cs ss = (rokI rt x ∧ fin (some (.int x)) h cs ss) := by
  rw [dX3_isWord_55, ey_ok, nx_ireturn_68]
theorem qX3_numberOfWord_0 : ey FX3 ini rt fin K0 K (decode cX3_numberOfWord 0) 0 L (st) h cs ss = (lhas L 0 ∧ isRf (lgt L 0) ∧ K 1 L (lgt L 0 :: st) h cs ss) := by
  rw [dX3_numberOfWord_0, ey_ok, nx_aload_n_3] <;> rfl
theorem qX3_numberOfWord_1 : ey FX3 ini rt fin K0 K (decode cX3_numberOfWord 1) 1 L (.ref a :: r) h cs ss = (h.1 a = some (.inl 3) ∧ K 4 L (h.2 a 3 :: r) h cs ss) := by
  rw [dX3_numberOfWord_1, ey_ok, nx_getfield_54]
  exact and_l rfl
theorem qX3_numberOfWord_4 : ey FX3 ini rt fin K0 K (decode cX3_numberOfWord 4) 4 L (st) h cs ss = (lhas L 0 ∧ isRf (lgt L 0) ∧ K 5 L (lgt L 0 :: st) h cs ss) := by
  rw [dX3_numberOfWord_4, ey_ok, nx_aload_n_3] <;> rfl
theorem qX3_numberOfWord_5 : ey FX3 ini rt fin K0 K (decode cX3_numberOfWord 5) 5 L (.ref a :: r) h cs ss = (h.1 a = some (.inl 3) ∧ K 8 L (h.2 a 2 :: r) h cs ss) := by
  rw [dX3_numberOfWord_5, ey_ok, nx_getfield_54]
  exact and_l rfl
theorem qX3_numberOfWord_8 : ey FX3 ini rt fin K0 K (decode cX3_numberOfWord 8) 8 L (.int y :: .int x :: r) h cs ss = (K 9 L (.int (x - y) :: r) h cs ss) := by
  rw [dX3_numberOfWord_8, ey_ok, nx_isub_17]
theorem qX3_numberOfWord_9 : ey FX3 ini rt fin K0 K (decode cX3_numberOfWord 9) 9 L (.int x :: r) h cs ss = (2 < L.length ∧ K 10 (L.set 2 (some (.int x))) r h cs ss) := by
  rw [dX3_numberOfWord_9, ey_ok, nx_istore_n_5] <;> rfl
theorem qX3_numberOfWord_10 : ey FX3 ini rt fin K0 K (decode cX3_numberOfWord 10) 10 L (st) h cs ss = (lhas L 2 ∧ isI (lgt L 2) ∧ K 11 L (lgt L 2 :: st) h cs ss) := by
  rw [dX3_numberOfWord_10, ey_ok, nx_iload_n_1] <;> rfl
theorem qX3_numberOfWord_11 : ey FX3 ini rt fin K0 K (decode cX3_numberOfWord 11) 11 L (st) h cs ss = (K 12 L (.int 1 :: st) h cs ss) := by
  rw [dX3_numberOfWord_11, ey_ok, nx_iconst_11] <;> rfl
theorem qX3_numberOfWord_12 : ey FX3 ini rt fin K0 K (decode cX3_numberOfWord 12) 12 L (.int y :: .int x :: r) h cs ss = (if x < y then K 20 L r h cs ss else K 15 L r h cs ss) := by
  rw [dX3_numberOfWord_12, ey_ok, nx_if_icmp_38]
  exact and_l (by unfold jok; decide)
theorem qX3_numberOfWord_15 : ey FX3 ini rt fin K0 K (decode cX3_numberOfWord 15) 15 L (st) h cs ss = (lhas L 2 ∧ isI (lgt L 2) ∧ K 16 L (lgt L 2 :: st) h cs ss) := by
  rw [dX3_numberOfWord_15, ey_ok, nx_iload_n_1] <;> rfl
theorem qX3_numberOfWord_16 : ey FX3 ini rt fin K0 K (decode cX3_numberOfWord 16) 16 L (st) h cs ss = (lhas L 1 ∧ isI (lgt L 1) ∧ K 17 L (lgt L 1 :: st) h cs ss) := by
  rw [dX3_numberOfWord_16, ey_ok, nx_iload_n_1] <;> rfl
theorem qX3_numberOfWord_17 : ey FX3 ini rt fin K0 K (decode cX3_numberOfWord 17) 17 L (.int y :: .int x :: r) h cs ss = (if x ≤ y then K 22 L r h cs ss else K 20 L r h cs ss) := by
  rw [dX3_numberOfWord_17, ey_ok, nx_if_icmp_41]
  exact and_l (by unfold jok; decide)
theorem qX3_numberOfWord_20 : ey FX3 ini rt fin K0 K (decode cX3_numberOfWord 20) 20 L (st) h cs ss = (K 21 L (.int (-1) :: st) h cs ss) := by
  rw [dX3_numberOfWord_20, ey_ok, nx_iconst_11] <;> rfl
theorem qX3_numberOfWord_21 : ey FX3 ini rt fin K0 K (decode cX3_numberOfWord 21) 21 L ([.int x]) h cs ss = (rokI rt x ∧ fin (some (.int x)) h cs ss) := by
  rw [dX3_numberOfWord_21, ey_ok, nx_ireturn_68]
theorem qX3_numberOfWord_22 : ey FX3 ini rt fin K0 K (decode cX3_numberOfWord 22) 22 L (st) h cs ss = (K 23 L (.int 0 :: st) h cs ss) := by
  rw [dX3_numberOfWord_22, ey_ok, nx_iconst_11] <;> rfl
theorem qX3_numberOfWord_23 : ey FX3 ini rt fin K0 K (decode cX3_numberOfWord 23) 23 L (.int x :: r) h cs ss = (3 < L.length ∧ K 24 (L.set 3 (some (.int x))) r h cs ss) := by
  rw [dX3_numberOfWord_23, ey_ok, nx_istore_n_5] <;> rfl
theorem qX3_numberOfWord_24 : ey FX3 ini rt fin K0 K (decode cX3_numberOfWord 24) 24 L (st) h cs ss = (lhas L 0 ∧ isRf (lgt L 0) ∧ K 25 L (lgt L 0 :: st) h cs ss) := by
  rw [dX3_numberOfWord_24, ey_ok, nx_aload_n_3] <;> rfl
theorem qX3_numberOfWord_25 : ey FX3 ini rt fin K0 K (decode cX3_numberOfWord 25) 25 L (.ref a :: r) h cs ss = (h.1 a = some (.inl 3) ∧ K 28 L (h.2 a 2 :: r) h cs ss) := by
  rw [dX3_numberOfWord_25, ey_ok, nx_getfield_54]
  exact and_l rfl
theorem qX3_numberOfWord_28 : ey FX3 ini rt fin K0 K (decode cX3_numberOfWord 28) 28 L (.int x :: r) h cs ss = (4 < L.length ∧ K 30 (L.set 4 (some (.int x))) r h cs ss) := by
  rw [dX3_numberOfWord_28, ey_ok, nx_istore_4] <;> rfl
theorem qX3_numberOfWord_30 : ey FX3 ini rt fin K0 K (decode cX3_numberOfWord 30) 30 L (st) h cs ss = (lhas L 4 ∧ isI (lgt L 4) ∧ K 32 L (lgt L 4 :: st) h cs ss) := by
  rw [dX3_numberOfWord_30, ey_ok, nx_iload_0] <;> rfl
theorem qX3_numberOfWord_32 : ey FX3 ini rt fin K0 K (decode cX3_numberOfWord 32) 32 L (st) h cs ss = (lhas L 0 ∧ isRf (lgt L 0) ∧ K 33 L (lgt L 0 :: st) h cs ss) := by
  rw [dX3_numberOfWord_32, ey_ok, nx_aload_n_3] <;> rfl
theorem qX3_numberOfWord_33 : ey FX3 ini rt fin K0 K (decode cX3_numberOfWord 33) 33 L (.ref a :: r) h cs ss = (h.1 a = some (.inl 3) ∧ K 36 L (h.2 a 3 :: r) h cs ss) := by
  rw [dX3_numberOfWord_33, ey_ok, nx_getfield_54]
  exact and_l rfl
theorem qX3_numberOfWord_36 : ey FX3 ini rt fin K0 K (decode cX3_numberOfWord 36) 36 L (.int y :: .int x :: r) h cs ss = (if y ≤ x then K 74 L r h cs ss else K 39 L r h cs ss) := by
  rw [dX3_numberOfWord_36, ey_ok, nx_if_icmp_39]
  exact and_l (by unfold jok; decide)
theorem qX3_numberOfWord_39 : ey FX3 ini rt fin K0 K (decode cX3_numberOfWord 39) 39 L (st) h cs ss = (lhas L 0 ∧ isRf (lgt L 0) ∧ K 40 L (lgt L 0 :: st) h cs ss) := by
  rw [dX3_numberOfWord_39, ey_ok, nx_aload_n_3] <;> rfl
theorem qX3_numberOfWord_40 : ey FX3 ini rt fin K0 K (decode cX3_numberOfWord 40) 40 L (st) h cs ss = (lhas L 4 ∧ isI (lgt L 4) ∧ K 42 L (lgt L 4 :: st) h cs ss) := by
  rw [dX3_numberOfWord_40, ey_ok, nx_iload_0] <;> rfl
theorem qX3_numberOfWord_42 : ey FX3 ini rt fin K0 K (decode cX3_numberOfWord 42) 42 L (st) h cs ss = (K0 42 L st h cs ss) := by
  rw [dX3_numberOfWord_42, ey_ok, nx_invokevirtual_72]
theorem qX3_numberOfWord_45 : ey FX3 ini rt fin K0 K (decode cX3_numberOfWord 45) 45 L (.int x :: r) h cs ss = (5 < L.length ∧ K 47 (L.set 5 (some (.int x))) r h cs ss) := by
  rw [dX3_numberOfWord_45, ey_ok, nx_istore_4] <;> rfl
theorem qX3_numberOfWord_47 : ey FX3 ini rt fin K0 K (decode cX3_numberOfWord 47) 47 L (st) h cs ss = (lhas L 5 ∧ isI (lgt L 5) ∧ K 49 L (lgt L 5 :: st) h cs ss) := by
  rw [dX3_numberOfWord_47, ey_ok, nx_iload_0] <;> rfl
theorem qX3_numberOfWord_49 : ey FX3 ini rt fin K0 K (decode cX3_numberOfWord 49) 49 L (st) h cs ss = (K0 49 L st h cs ss) := by
  rw [dX3_numberOfWord_49, ey_ok, nx_invokestatic_73]
theorem qX3_numberOfWord_52 : ey FX3 ini rt fin K0 K (decode cX3_numberOfWord 52) 52 L (.int x :: r) h cs ss = (if ¬ x = 0 then K 57 L r h cs ss else K 55 L r h cs ss) := by
  rw [dX3_numberOfWord_52, ey_ok, nx_ifond_31]
  exact and_l (by unfold jok; decide)
theorem qX3_numberOfWord_55 : ey FX3 ini rt fin K0 K (decode cX3_numberOfWord 55) 55 L (st) h cs ss = (K 56 L (.int (-1) :: st) h cs ss) := by
  rw [dX3_numberOfWord_55, ey_ok, nx_iconst_11] <;> rfl
theorem qX3_numberOfWord_56 : ey FX3 ini rt fin K0 K (decode cX3_numberOfWord 56) 56 L ([.int x]) h cs ss = (rokI rt x ∧ fin (some (.int x)) h cs ss) := by
  rw [dX3_numberOfWord_56, ey_ok, nx_ireturn_68]
theorem qX3_numberOfWord_57 : ey FX3 ini rt fin K0 K (decode cX3_numberOfWord 57) 57 L (st) h cs ss = (lhas L 3 ∧ isI (lgt L 3) ∧ K 58 L (lgt L 3 :: st) h cs ss) := by
  rw [dX3_numberOfWord_57, ey_ok, nx_iload_n_1] <;> rfl
theorem qX3_numberOfWord_58 : ey FX3 ini rt fin K0 K (decode cX3_numberOfWord 58) 58 L (st) h cs ss = (K 60 L (.int 10 :: st) h cs ss) := by
  rw [dX3_numberOfWord_58, ey_ok, nx_bipush_12] <;> rfl
theorem qX3_numberOfWord_60 : ey FX3 ini rt fin K0 K (decode cX3_numberOfWord 60) 60 L (.int y :: .int x :: r) h cs ss = (K 61 L (.int (x * y) :: r) h cs ss) := by
  rw [dX3_numberOfWord_60, ey_ok, nx_imul_18]
theorem qX3_numberOfWord_61 : ey FX3 ini rt fin K0 K (decode cX3_numberOfWord 61) 61 L (st) h cs ss = (lhas L 5 ∧ isI (lgt L 5) ∧ K 63 L (lgt L 5 :: st) h cs ss) := by
  rw [dX3_numberOfWord_61, ey_ok, nx_iload_0] <;> rfl
theorem qX3_numberOfWord_63 : ey FX3 ini rt fin K0 K (decode cX3_numberOfWord 63) 63 L (st) h cs ss = (K 65 L (.int 48 :: st) h cs ss) := by
  rw [dX3_numberOfWord_63, ey_ok, nx_bipush_12] <;> rfl
theorem qX3_numberOfWord_65 : ey FX3 ini rt fin K0 K (decode cX3_numberOfWord 65) 65 L (.int y :: .int x :: r) h cs ss = (K 66 L (.int (x - y) :: r) h cs ss) := by
  rw [dX3_numberOfWord_65, ey_ok, nx_isub_17]
theorem qX3_numberOfWord_66 : ey FX3 ini rt fin K0 K (decode cX3_numberOfWord 66) 66 L (.int y :: .int x :: r) h cs ss = (K 67 L (.int (x + y) :: r) h cs ss) := by
  rw [dX3_numberOfWord_66, ey_ok, nx_iadd_16]
theorem qX3_numberOfWord_67 : ey FX3 ini rt fin K0 K (decode cX3_numberOfWord 67) 67 L (.int x :: r) h cs ss = (3 < L.length ∧ K 68 (L.set 3 (some (.int x))) r h cs ss) := by
  rw [dX3_numberOfWord_67, ey_ok, nx_istore_n_5] <;> rfl
theorem qX3_numberOfWord_68 : ey FX3 ini rt fin K0 K (decode cX3_numberOfWord 68) 68 L (st) h cs ss = (lhas L 4 ∧ isI (lgt L 4) ∧ K 71 (L.set 4 (some (inc (lgt L 4) 1))) st h cs ss) := by
  rw [dX3_numberOfWord_68, ey_ok, nx_iinc_10] <;> rfl
theorem qX3_numberOfWord_71 : ey FX3 ini rt fin K0 K (decode cX3_numberOfWord 71) 71 L (st) h cs ss = (K 30 L st h cs ss) := by
  rw [dX3_numberOfWord_71, ey_ok, nx_goto_29]
  exact and_l (by unfold jok; decide)
theorem qX3_numberOfWord_74 : ey FX3 ini rt fin K0 K (decode cX3_numberOfWord 74) 74 L (st) h cs ss = (lhas L 3 ∧ isI (lgt L 3) ∧ K 75 L (lgt L 3 :: st) h cs ss) := by
  rw [dX3_numberOfWord_74, ey_ok, nx_iload_n_1] <;> rfl
theorem qX3_numberOfWord_75 : ey FX3 ini rt fin K0 K (decode cX3_numberOfWord 75) 75 L ([.int x]) h cs ss = (rokI rt x ∧ fin (some (.int x)) h cs ss) := by
  rw [dX3_numberOfWord_75, ey_ok, nx_ireturn_68]
end QQ
section QQ
variable {F : Nat → Option Fq} {ini : Option Nat} {rt : Option FieldType} {fin : Option Value → Hp → Nat → Nat → Prop} {K0 K : Kt} {L : List (Option Value)} {h : Hp} {cs ss : Nat} {r st : List Value} {x y i : Int32} {a a2 : Nat} {v v2 : Value} {lx ly : Int64}
theorem qX4_init_0 : ey FX4 ini rt fin K0 K (decode cX4_init 0) 0 L (st) h cs ss = (lhas L 0 ∧ isRf (lgt L 0) ∧ K 1 L (lgt L 0 :: st) h cs ss) := by
  rw [dX4_init_0, ey_ok, nx_aload_n_3] <;> rfl
theorem qX4_init_1 : ey FX4 ini rt fin K0 K (decode cX4_init 1) 1 L (st) h cs ss = (K0 1 L st h cs ss) := by
  rw [dX4_init_1, ey_ok, nx_invokespecial_74]
theorem qX4_init_4 : ey FX4 ini rt fin K0 K (decode cX4_init 4) 4 L (st) h cs ss = (lhas L 0 ∧ isRf (lgt L 0) ∧ K 5 L (lgt L 0 :: st) h cs ss) := by
  rw [dX4_init_4, ey_ok, nx_aload_n_3] <;> rfl
theorem qX4_init_5 : ey FX4 ini rt fin K0 K (decode cX4_init 5) 5 L (st) h cs ss = (lhas L 1 ∧ isI (lgt L 1) ∧ K 6 L (lgt L 1 :: st) h cs ss) := by
  rw [dX4_init_5, ey_ok, nx_iload_n_1] <;> rfl
theorem qX4_init_6 : ey FX4 ini rt fin K0 K (decode cX4_init 6) 6 L (v :: .ref a :: r) h cs ss = (h.1 a = some (.inl 4) ∧ okv (.int) v ∧ (true = true → ini = some 4) ∧ K 9 L r (h.1, hup h.2 a 0 v) cs ss) := by
  rw [dX4_init_6, ey_ok, nx_putfield_55]
  exact and_l rfl
theorem qX4_init_9 : ey FX4 ini rt fin K0 K (decode cX4_init 9) 9 L (st) h cs ss = (lhas L 0 ∧ isRf (lgt L 0) ∧ K 10 L (lgt L 0 :: st) h cs ss) := by
  rw [dX4_init_9, ey_ok, nx_aload_n_3] <;> rfl
theorem qX4_init_10 : ey FX4 ini rt fin K0 K (decode cX4_init 10) 10 L (st) h cs ss = (lhas L 4 ∧ isI (lgt L 4) ∧ K 12 L (lgt L 4 :: st) h cs ss) := by
  rw [dX4_init_10, ey_ok, nx_iload_0] <;> rfl
theorem qX4_init_12 : ey FX4 ini rt fin K0 K (decode cX4_init 12) 12 L (v :: .ref a :: r) h cs ss = (h.1 a = some (.inl 4) ∧ okv (.int) v ∧ (true = true → ini = some 4) ∧ K 15 L r (h.1, hup h.2 a 1 v) cs ss) := by
  rw [dX4_init_12, ey_ok, nx_putfield_55]
  exact and_l rfl
theorem qX4_init_15 : ey FX4 ini rt fin K0 K (decode cX4_init 15) 15 L (st) h cs ss = (lhas L 0 ∧ isRf (lgt L 0) ∧ K 16 L (lgt L 0 :: st) h cs ss) := by
  rw [dX4_init_15, ey_ok, nx_aload_n_3] <;> rfl
theorem qX4_init_16 : ey FX4 ini rt fin K0 K (decode cX4_init 16) 16 L (st) h cs ss = (lhas L 2 ∧ isI (lgt L 2) ∧ K 17 L (lgt L 2 :: st) h cs ss) := by
  rw [dX4_init_16, ey_ok, nx_iload_n_1] <;> rfl
theorem qX4_init_17 : ey FX4 ini rt fin K0 K (decode cX4_init 17) 17 L (v :: .ref a :: r) h cs ss = (h.1 a = some (.inl 4) ∧ okv (.int) v ∧ (true = true → ini = some 4) ∧ K 20 L r (h.1, hup h.2 a 2 v) cs ss) := by
  rw [dX4_init_17, ey_ok, nx_putfield_55]
  exact and_l rfl
theorem qX4_init_20 : ey FX4 ini rt fin K0 K (decode cX4_init 20) 20 L (st) h cs ss = (lhas L 0 ∧ isRf (lgt L 0) ∧ K 21 L (lgt L 0 :: st) h cs ss) := by
  rw [dX4_init_20, ey_ok, nx_aload_n_3] <;> rfl
theorem qX4_init_21 : ey FX4 ini rt fin K0 K (decode cX4_init 21) 21 L (st) h cs ss = (lhas L 2 ∧ isI (lgt L 2) ∧ K 22 L (lgt L 2 :: st) h cs ss) := by
  rw [dX4_init_21, ey_ok, nx_iload_n_1] <;> rfl
theorem qX4_init_22 : ey FX4 ini rt fin K0 K (decode cX4_init 22) 22 L (st) h cs ss = (lhas L 3 ∧ isI (lgt L 3) ∧ K 23 L (lgt L 3 :: st) h cs ss) := by
  rw [dX4_init_22, ey_ok, nx_iload_n_1] <;> rfl
theorem qX4_init_23 : ey FX4 ini rt fin K0 K (decode cX4_init 23) 23 L (.int y :: .int x :: r) h cs ss = (K 24 L (.int (x + y) :: r) h cs ss) := by
  rw [dX4_init_23, ey_ok, nx_iadd_16]
theorem qX4_init_24 : ey FX4 ini rt fin K0 K (decode cX4_init 24) 24 L (v :: .ref a :: r) h cs ss = (h.1 a = some (.inl 4) ∧ okv (.int) v ∧ (true = true → ini = some 4) ∧ K 27 L r (h.1, hup h.2 a 3 v) cs ss) := by
  rw [dX4_init_24, ey_ok, nx_putfield_55]
  exact and_l rfl
theorem qX4_init_27 : ey FX4 ini rt fin K0 K (decode cX4_init 27) 27 L (st) h cs ss = (lhas L 0 ∧ isRf (lgt L 0) ∧ K 28 L (lgt L 0 :: st) h cs ss) := by
  rw [dX4_init_27, ey_ok, nx_aload_n_3] <;> rfl
theorem qX4_init_28 : ey FX4 ini rt fin K0 K (decode cX4_init 28) 28 L (st) h cs ss = (lhas L 2 ∧ isI (lgt L 2) ∧ K 29 L (lgt L 2 :: st) h cs ss) := by
  rw [dX4_init_28, ey_ok, nx_iload_n_1] <;> rfl
theorem qX4_init_29 : ey FX4 ini rt fin K0 K (decode cX4_init 29) 29 L (v :: .ref a :: r) h cs ss = (h.1 a = some (.inl 4) ∧ okv (.int) v ∧ K 32 L r (h.1, hup h.2 a 4 v) cs ss) := by
  rw [dX4_init_29, ey_ok, nx_putfield_55]
  exact (and_l rfl).trans (and_m (fun z => nomatch z))
theorem qX4_init_32 : ey FX4 ini rt fin K0 K (decode cX4_init 32) 32 L (st) h cs ss = (lhas L 0 ∧ isRf (lgt L 0) ∧ K 33 L (lgt L 0 :: st) h cs ss) := by
  rw [dX4_init_32, ey_ok, nx_aload_n_3] <;> rfl
theorem qX4_init_33 : ey FX4 ini rt fin K0 K (decode cX4_init 33) 33 L (st) h cs ss = (lhas L 2 ∧ isI (lgt L 2) ∧ K 34 L (lgt L 2 :: st) h cs ss) := by
  rw [dX4_init_33, ey_ok, nx_iload_n_1] <;> rfl
theorem qX4_init_34 : ey FX4 ini rt fin K0 K (decode cX4_init 34) 34 L (st) h cs ss = (lhas L 3 ∧ isI (lgt L 3) ∧ K 35 L (lgt L 3 :: st) h cs ss) := by
  rw [dX4_init_34, ey_ok, nx_iload_n_1] <;> rfl
theorem qX4_init_35 : ey FX4 ini rt fin K0 K (decode cX4_init 35) 35 L (.int y :: .int x :: r) h cs ss = (K 36 L (.int (x + y) :: r) h cs ss) := by
  rw [dX4_init_35, ey_ok, nx_iadd_16]
theorem qX4_init_36 : ey FX4 ini rt fin K0 K (decode cX4_init 36) 36 L (v :: .ref a :: r) h cs ss = (h.1 a = some (.inl 4) ∧ okv (.int) v ∧ K 39 L r (h.1, hup h.2 a 5 v) cs ss) := by
  rw [dX4_init_36, ey_ok, nx_putfield_55]
  exact (and_l rfl).trans (and_m (fun z => nomatch z))
theorem qX4_init_39 : ey FX4 ini rt fin K0 K (decode cX4_init 39) 39 L ([]) h cs ss = (rt = none ∧ fin none h cs ss) := by
  rw [dX4_init_39, ey_ok, nx_return__71]
theorem qX4_holderNumber_0 : ey FX4 ini rt fin K0 K (decode cX4_holderNumber 0) 0 L (st) h cs ss = (lhas L 0 ∧ isRf (lgt L 0) ∧ K 1 L (lgt L 0 :: st) h cs ss) := by
  rw [dX4_holderNumber_0, ey_ok, nx_aload_n_3] <;> rfl
theorem qX4_holderNumber_1 : ey FX4 ini rt fin K0 K (decode cX4_holderNumber 1) 1 L (.ref a :: r) h cs ss = (h.1 a = some (.inl 4) ∧ K 4 L (h.2 a 6 :: r) h cs ss) := by
  rw [dX4_holderNumber_1, ey_ok, nx_getfield_54]
  exact and_l rfl
theorem qX4_holderNumber_4n : ey FX4 ini rt fin K0 K (decode cX4_holderNumber 4) 4 L (.null :: r) h cs ss = (K 7 L r h cs ss) := by
  rw [dX4_holderNumber_4, ey_ok, nx_ifnonnull_52]
  exact and_l (by unfold jok; decide)
theorem qX4_holderNumber_4r : ey FX4 ini rt fin K0 K (decode cX4_holderNumber 4) 4 L (.ref a :: r) h cs ss = (K 11 L r h cs ss) := by
  rw [dX4_holderNumber_4, ey_ok, nx_ifnonnull_53]
  exact and_l (by unfold jok; decide)
theorem qX4_holderNumber_7 : ey FX4 ini rt fin K0 K (decode cX4_holderNumber 7) 7 L (st) h cs ss = (K 8 L (.int (-1) :: st) h cs ss) := by
  rw [dX4_holderNumber_7, ey_ok, nx_iconst_11] <;> rfl
theorem qX4_holderNumber_8 : ey FX4 ini rt fin K0 K (decode cX4_holderNumber 8) 8 L (st) h cs ss = (K 18 L st h cs ss) := by
  rw [dX4_holderNumber_8, ey_ok, nx_goto_29]
  exact and_l (by unfold jok; decide)
theorem qX4_holderNumber_11 : ey FX4 ini rt fin K0 K (decode cX4_holderNumber 11) 11 L (st) h cs ss = (lhas L 0 ∧ isRf (lgt L 0) ∧ K 12 L (lgt L 0 :: st) h cs ss) := by
  rw [dX4_holderNumber_11, ey_ok, nx_aload_n_3] <;> rfl
theorem qX4_holderNumber_12 : ey FX4 ini rt fin K0 K (decode cX4_holderNumber 12) 12 L (.ref a :: r) h cs ss = (h.1 a = some (.inl 4) ∧ K 15 L (h.2 a 6 :: r) h cs ss) := by
  rw [dX4_holderNumber_12, ey_ok, nx_getfield_54]
  exact and_l rfl
theorem qX4_holderNumber_15 : ey FX4 ini rt fin K0 K (decode cX4_holderNumber 15) 15 L (.ref a :: r) h cs ss = (h.1 a = some (.inl 5) ∧ K 18 L (h.2 a 0 :: r) h cs ss) := by
  rw [dX4_holderNumber_15, ey_ok, nx_getfield_54]
  exact and_l rfl
theorem qX4_holderNumber_18 : ey FX4 ini rt fin K0 K (decode cX4_holderNumber 18) 18 L ([.int x]) h cs ss = (rokI rt x ∧ fin (some (.int x)) h cs ss) := by
  rw [dX4_holderNumber_18, ey_ok, nx_ireturn_68]
theorem qX4_hours_0 : ey FX4 ini rt fin K0 K (decode cX4_hours 0) 0 L (st) h cs ss = (lhas L 0 ∧ isRf (lgt L 0) ∧ K 1 L (lgt L 0 :: st) h cs ss) := by
  rw [dX4_hours_0, ey_ok, nx_aload_n_3] <;> rfl
theorem qX4_hours_1 : ey FX4 ini rt fin K0 K (decode cX4_hours 1) 1 L (.ref a :: r) h cs ss = (h.1 a = some (.inl 4) ∧ K 4 L (h.2 a 5 :: r) h cs ss) := by
  rw [dX4_hours_1, ey_ok, nx_getfield_54]
  exact and_l rfl
theorem qX4_hours_4 : ey FX4 ini rt fin K0 K (decode cX4_hours 4) 4 L (st) h cs ss = (lhas L 0 ∧ isRf (lgt L 0) ∧ K 5 L (lgt L 0 :: st) h cs ss) := by
  rw [dX4_hours_4, ey_ok, nx_aload_n_3] <;> rfl
theorem qX4_hours_5 : ey FX4 ini rt fin K0 K (decode cX4_hours 5) 5 L (.ref a :: r) h cs ss = (h.1 a = some (.inl 4) ∧ K 8 L (h.2 a 4 :: r) h cs ss) := by
  rw [dX4_hours_5, ey_ok, nx_getfield_54]
  exact and_l rfl
theorem qX4_hours_8 : ey FX4 ini rt fin K0 K (decode cX4_hours 8) 8 L (.int y :: .int x :: r) h cs ss = (K 9 L (.int (x - y) :: r) h cs ss) := by
  rw [dX4_hours_8, ey_ok, nx_isub_17]
theorem qX4_hours_9 : ey FX4 ini rt fin K0 K (decode cX4_hours 9) 9 L ([.int x]) h cs ss = (rokI rt x ∧ fin (some (.int x)) h cs ss) := by
  rw [dX4_hours_9, ey_ok, nx_ireturn_68]
theorem qX4_plannedHours_0 : ey FX4 ini rt fin K0 K (decode cX4_plannedHours 0) 0 L (st) h cs ss = (lhas L 0 ∧ isRf (lgt L 0) ∧ K 1 L (lgt L 0 :: st) h cs ss) := by
  rw [dX4_plannedHours_0, ey_ok, nx_aload_n_3] <;> rfl
theorem qX4_plannedHours_1 : ey FX4 ini rt fin K0 K (decode cX4_plannedHours 1) 1 L (.ref a :: r) h cs ss = (h.1 a = some (.inl 4) ∧ K 4 L (h.2 a 3 :: r) h cs ss) := by
  rw [dX4_plannedHours_1, ey_ok, nx_getfield_54]
  exact and_l rfl
theorem qX4_plannedHours_4 : ey FX4 ini rt fin K0 K (decode cX4_plannedHours 4) 4 L (st) h cs ss = (lhas L 0 ∧ isRf (lgt L 0) ∧ K 5 L (lgt L 0 :: st) h cs ss) := by
  rw [dX4_plannedHours_4, ey_ok, nx_aload_n_3] <;> rfl
theorem qX4_plannedHours_5 : ey FX4 ini rt fin K0 K (decode cX4_plannedHours 5) 5 L (.ref a :: r) h cs ss = (h.1 a = some (.inl 4) ∧ K 8 L (h.2 a 2 :: r) h cs ss) := by
  rw [dX4_plannedHours_5, ey_ok, nx_getfield_54]
  exact and_l rfl
theorem qX4_plannedHours_8 : ey FX4 ini rt fin K0 K (decode cX4_plannedHours 8) 8 L (.int y :: .int x :: r) h cs ss = (K 9 L (.int (x - y) :: r) h cs ss) := by
  rw [dX4_plannedHours_8, ey_ok, nx_isub_17]
theorem qX4_plannedHours_9 : ey FX4 ini rt fin K0 K (decode cX4_plannedHours 9) 9 L ([.int x]) h cs ss = (rokI rt x ∧ fin (some (.int x)) h cs ss) := by
  rw [dX4_plannedHours_9, ey_ok, nx_ireturn_68]
theorem qX4_day_0 : ey FX4 ini rt fin K0 K (decode cX4_day 0) 0 L (st) h cs ss = (lhas L 0 ∧ isRf (lgt L 0) ∧ K 1 L (lgt L 0 :: st) h cs ss) := by
  rw [dX4_day_0, ey_ok, nx_aload_n_3] <;> rfl
theorem qX4_day_1 : ey FX4 ini rt fin K0 K (decode cX4_day 1) 1 L (.ref a :: r) h cs ss = (h.1 a = some (.inl 4) ∧ K 4 L (h.2 a 4 :: r) h cs ss) := by
  rw [dX4_day_1, ey_ok, nx_getfield_54]
  exact and_l rfl
theorem qX4_day_4 : ey FX4 ini rt fin K0 K (decode cX4_day 4) 4 L (st) h cs ss = (K 6 L (.int 24 :: st) h cs ss) := by
  rw [dX4_day_4, ey_ok, nx_bipush_12] <;> rfl
theorem qX4_day_6 : ey FX4 ini rt fin K0 K (decode cX4_day 6) 6 L (.int y :: .int x :: r) h cs ss = (¬ y = 0 ∧ K 7 L (.int (x / y) :: r) h cs ss) := by
  rw [dX4_day_6, ey_ok, nx_idiv_23]
theorem qX4_day_7 : ey FX4 ini rt fin K0 K (decode cX4_day 7) 7 L ([.int x]) h cs ss = (rokI rt x ∧ fin (some (.int x)) h cs ss) := by
  rw [dX4_day_7, ey_ok, nx_ireturn_68]
theorem qX4_week_0 : ey FX4 ini rt fin K0 K (decode cX4_week 0) 0 L (st) h cs ss = (lhas L 0 ∧ isRf (lgt L 0) ∧ K 1 L (lgt L 0 :: st) h cs ss) := by
  rw [dX4_week_0, ey_ok, nx_aload_n_3] <;> rfl
theorem qX4_week_1 : ey FX4 ini rt fin K0 K (decode cX4_week 1) 1 L (.ref a :: r) h cs ss = (h.1 a = some (.inl 4) ∧ K 4 L (h.2 a 4 :: r) h cs ss) := by
  rw [dX4_week_1, ey_ok, nx_getfield_54]
  exact and_l rfl
theorem qX4_week_4 : ey FX4 ini rt fin K0 K (decode cX4_week 4) 4 L (st) h cs ss = (K 7 L (.int 168 :: st) h cs ss) := by
  rw [dX4_week_4, ey_ok, nx_sipush_13] <;> rfl
theorem qX4_week_7 : ey FX4 ini rt fin K0 K (decode cX4_week 7) 7 L (.int y :: .int x :: r) h cs ss = (¬ y = 0 ∧ K 8 L (.int (x / y) :: r) h cs ss) := by
  rw [dX4_week_7, ey_ok, nx_idiv_23]
theorem qX4_week_8 : ey FX4 ini rt fin K0 K (decode cX4_week 8) 8 L ([.int x]) h cs ss = (rokI rt x ∧ fin (some (.int x)) h cs ss) := by
  rw [dX4_week_8, ey_ok, nx_ireturn_68]
theorem qX4_overlaps_0 : ey FX4 ini rt fin K0 K (decode cX4_overlaps 0) 0 L (st) h cs ss = (lhas L 0 ∧ isRf (lgt L 0) ∧ K 1 L (lgt L 0 :: st) h cs ss) := by
  rw [dX4_overlaps_0, ey_ok, nx_aload_n_3] <;> rfl
theorem qX4_overlaps_1 : ey FX4 ini rt fin K0 K (decode cX4_overlaps 1) 1 L (.ref a :: r) h cs ss = (h.1 a = some (.inl 4) ∧ K 4 L (h.2 a 2 :: r) h cs ss) := by
  rw [dX4_overlaps_1, ey_ok, nx_getfield_54]
  exact and_l rfl
theorem qX4_overlaps_4 : ey FX4 ini rt fin K0 K (decode cX4_overlaps 4) 4 L (st) h cs ss = (lhas L 1 ∧ isRf (lgt L 1) ∧ K 5 L (lgt L 1 :: st) h cs ss) := by
  rw [dX4_overlaps_4, ey_ok, nx_aload_n_3] <;> rfl
theorem qX4_overlaps_5 : ey FX4 ini rt fin K0 K (decode cX4_overlaps 5) 5 L (.ref a :: r) h cs ss = (h.1 a = some (.inl 4) ∧ K 8 L (h.2 a 3 :: r) h cs ss) := by
  rw [dX4_overlaps_5, ey_ok, nx_getfield_54]
  exact and_l rfl
theorem qX4_overlaps_8 : ey FX4 ini rt fin K0 K (decode cX4_overlaps 8) 8 L (.int y :: .int x :: r) h cs ss = (if y ≤ x then K 26 L r h cs ss else K 11 L r h cs ss) := by
  rw [dX4_overlaps_8, ey_ok, nx_if_icmp_39]
  exact and_l (by unfold jok; decide)
theorem qX4_overlaps_11 : ey FX4 ini rt fin K0 K (decode cX4_overlaps 11) 11 L (st) h cs ss = (lhas L 1 ∧ isRf (lgt L 1) ∧ K 12 L (lgt L 1 :: st) h cs ss) := by
  rw [dX4_overlaps_11, ey_ok, nx_aload_n_3] <;> rfl
theorem qX4_overlaps_12 : ey FX4 ini rt fin K0 K (decode cX4_overlaps 12) 12 L (.ref a :: r) h cs ss = (h.1 a = some (.inl 4) ∧ K 15 L (h.2 a 2 :: r) h cs ss) := by
  rw [dX4_overlaps_12, ey_ok, nx_getfield_54]
  exact and_l rfl
theorem qX4_overlaps_15 : ey FX4 ini rt fin K0 K (decode cX4_overlaps 15) 15 L (st) h cs ss = (lhas L 0 ∧ isRf (lgt L 0) ∧ K 16 L (lgt L 0 :: st) h cs ss) := by
  rw [dX4_overlaps_15, ey_ok, nx_aload_n_3] <;> rfl
theorem qX4_overlaps_16 : ey FX4 ini rt fin K0 K (decode cX4_overlaps 16) 16 L (.ref a :: r) h cs ss = (h.1 a = some (.inl 4) ∧ K 19 L (h.2 a 3 :: r) h cs ss) := by
  rw [dX4_overlaps_16, ey_ok, nx_getfield_54]
  exact and_l rfl
theorem qX4_overlaps_19 : ey FX4 ini rt fin K0 K (decode cX4_overlaps 19) 19 L (.int y :: .int x :: r) h cs ss = (if y ≤ x then K 26 L r h cs ss else K 22 L r h cs ss) := by
  rw [dX4_overlaps_19, ey_ok, nx_if_icmp_39]
  exact and_l (by unfold jok; decide)
theorem qX4_overlaps_22 : ey FX4 ini rt fin K0 K (decode cX4_overlaps 22) 22 L (st) h cs ss = (K 23 L (.int 1 :: st) h cs ss) := by
  rw [dX4_overlaps_22, ey_ok, nx_iconst_11] <;> rfl
theorem qX4_overlaps_23 : ey FX4 ini rt fin K0 K (decode cX4_overlaps 23) 23 L (st) h cs ss = (K 27 L st h cs ss) := by
  rw [dX4_overlaps_23, ey_ok, nx_goto_29]
  exact and_l (by unfold jok; decide)
theorem qX4_overlaps_26 : ey FX4 ini rt fin K0 K (decode cX4_overlaps 26) 26 L (st) h cs ss = (K 27 L (.int 0 :: st) h cs ss) := by
  rw [dX4_overlaps_26, ey_ok, nx_iconst_11] <;> rfl
theorem qX4_overlaps_27 : ey FX4 ini rt fin K0 K (decode cX4_overlaps 27) 27 L ([.int x]) h cs ss = (rokI rt x ∧ fin (some (.int x)) h cs ss) := by
  rw [dX4_overlaps_27, ey_ok, nx_ireturn_68]
theorem qX4_isAheadOf_0 : ey FX4 ini rt fin K0 K (decode cX4_isAheadOf 0) 0 L (st) h cs ss = (lhas L 0 ∧ isRf (lgt L 0) ∧ K 1 L (lgt L 0 :: st) h cs ss) := by
  rw [dX4_isAheadOf_0, ey_ok, nx_aload_n_3] <;> rfl
theorem qX4_isAheadOf_1 : ey FX4 ini rt fin K0 K (decode cX4_isAheadOf 1) 1 L (.ref a :: r) h cs ss = (h.1 a = some (.inl 4) ∧ K 4 L (h.2 a 4 :: r) h cs ss) := by
  rw [dX4_isAheadOf_1, ey_ok, nx_getfield_54]
  exact and_l rfl
theorem qX4_isAheadOf_4 : ey FX4 ini rt fin K0 K (decode cX4_isAheadOf 4) 4 L (st) h cs ss = (lhas L 1 ∧ isRf (lgt L 1) ∧ K 5 L (lgt L 1 :: st) h cs ss) := by
  rw [dX4_isAheadOf_4, ey_ok, nx_aload_n_3] <;> rfl
theorem qX4_isAheadOf_5 : ey FX4 ini rt fin K0 K (decode cX4_isAheadOf 5) 5 L (.ref a :: r) h cs ss = (h.1 a = some (.inl 4) ∧ K 8 L (h.2 a 4 :: r) h cs ss) := by
  rw [dX4_isAheadOf_5, ey_ok, nx_getfield_54]
  exact and_l rfl
theorem qX4_isAheadOf_8 : ey FX4 ini rt fin K0 K (decode cX4_isAheadOf 8) 8 L (.int y :: .int x :: r) h cs ss = (if x < y then K 33 L r h cs ss else K 11 L r h cs ss) := by
  rw [dX4_isAheadOf_8, ey_ok, nx_if_icmp_38]
  exact and_l (by unfold jok; decide)
theorem qX4_isAheadOf_11 : ey FX4 ini rt fin K0 K (decode cX4_isAheadOf 11) 11 L (st) h cs ss = (lhas L 0 ∧ isRf (lgt L 0) ∧ K 12 L (lgt L 0 :: st) h cs ss) := by
  rw [dX4_isAheadOf_11, ey_ok, nx_aload_n_3] <;> rfl
theorem qX4_isAheadOf_12 : ey FX4 ini rt fin K0 K (decode cX4_isAheadOf 12) 12 L (.ref a :: r) h cs ss = (h.1 a = some (.inl 4) ∧ K 15 L (h.2 a 4 :: r) h cs ss) := by
  rw [dX4_isAheadOf_12, ey_ok, nx_getfield_54]
  exact and_l rfl
theorem qX4_isAheadOf_15 : ey FX4 ini rt fin K0 K (decode cX4_isAheadOf 15) 15 L (st) h cs ss = (lhas L 1 ∧ isRf (lgt L 1) ∧ K 16 L (lgt L 1 :: st) h cs ss) := by
  rw [dX4_isAheadOf_15, ey_ok, nx_aload_n_3] <;> rfl
theorem qX4_isAheadOf_16 : ey FX4 ini rt fin K0 K (decode cX4_isAheadOf 16) 16 L (.ref a :: r) h cs ss = (h.1 a = some (.inl 4) ∧ K 19 L (h.2 a 4 :: r) h cs ss) := by
  rw [dX4_isAheadOf_16, ey_ok, nx_getfield_54]
  exact and_l rfl
theorem qX4_isAheadOf_19 : ey FX4 ini rt fin K0 K (decode cX4_isAheadOf 19) 19 L (.int y :: .int x :: r) h cs ss = (if ¬ x = y then K 37 L r h cs ss else K 22 L r h cs ss) := by
  rw [dX4_isAheadOf_19, ey_ok, nx_if_icmp_37]
  exact and_l (by unfold jok; decide)
theorem qX4_isAheadOf_22 : ey FX4 ini rt fin K0 K (decode cX4_isAheadOf 22) 22 L (st) h cs ss = (lhas L 0 ∧ isRf (lgt L 0) ∧ K 23 L (lgt L 0 :: st) h cs ss) := by
  rw [dX4_isAheadOf_22, ey_ok, nx_aload_n_3] <;> rfl
theorem qX4_isAheadOf_23 : ey FX4 ini rt fin K0 K (decode cX4_isAheadOf 23) 23 L (.ref a :: r) h cs ss = (h.1 a = some (.inl 4) ∧ K 26 L (h.2 a 0 :: r) h cs ss) := by
  rw [dX4_isAheadOf_23, ey_ok, nx_getfield_54]
  exact and_l rfl
theorem qX4_isAheadOf_26 : ey FX4 ini rt fin K0 K (decode cX4_isAheadOf 26) 26 L (st) h cs ss = (lhas L 1 ∧ isRf (lgt L 1) ∧ K 27 L (lgt L 1 :: st) h cs ss) := by
  rw [dX4_isAheadOf_26, ey_ok, nx_aload_n_3] <;> rfl
theorem qX4_isAheadOf_27 : ey FX4 ini rt fin K0 K (decode cX4_isAheadOf 27) 27 L (.ref a :: r) h cs ss = (h.1 a = some (.inl 4) ∧ K 30 L (h.2 a 0 :: r) h cs ss) := by
  rw [dX4_isAheadOf_27, ey_ok, nx_getfield_54]
  exact and_l rfl
theorem qX4_isAheadOf_30 : ey FX4 ini rt fin K0 K (decode cX4_isAheadOf 30) 30 L (.int y :: .int x :: r) h cs ss = (if y ≤ x then K 37 L r h cs ss else K 33 L r h cs ss) := by
  rw [dX4_isAheadOf_30, ey_ok, nx_if_icmp_39]
  exact and_l (by unfold jok; decide)
theorem qX4_isAheadOf_33 : ey FX4 ini rt fin K0 K (decode cX4_isAheadOf 33) 33 L (st) h cs ss = (K 34 L (.int 1 :: st) h cs ss) := by
  rw [dX4_isAheadOf_33, ey_ok, nx_iconst_11] <;> rfl
theorem qX4_isAheadOf_34 : ey FX4 ini rt fin K0 K (decode cX4_isAheadOf 34) 34 L (st) h cs ss = (K 38 L st h cs ss) := by
  rw [dX4_isAheadOf_34, ey_ok, nx_goto_29]
  exact and_l (by unfold jok; decide)
theorem qX4_isAheadOf_37 : ey FX4 ini rt fin K0 K (decode cX4_isAheadOf 37) 37 L (st) h cs ss = (K 38 L (.int 0 :: st) h cs ss) := by
  rw [dX4_isAheadOf_37, ey_ok, nx_iconst_11] <;> rfl
theorem qX4_isAheadOf_38 : ey FX4 ini rt fin K0 K (decode cX4_isAheadOf 38) 38 L ([.int x]) h cs ss = (rokI rt x ∧ fin (some (.int x)) h cs ss) := by
  rw [dX4_isAheadOf_38, ey_ok, nx_ireturn_68]
theorem qX4_claimOf_0 : ey FX4 ini rt fin K0 K (decode cX4_claimOf 0) 0 L (st) h cs ss = (lhas L 0 ∧ isRf (lgt L 0) ∧ K 1 L (lgt L 0 :: st) h cs ss) := by
  rw [dX4_claimOf_0, ey_ok, nx_aload_n_3] <;> rfl
theorem qX4_claimOf_1 : ey FX4 ini rt fin K0 K (decode cX4_claimOf 1) 1 L (.ref a :: r) h cs ss = (h.1 a = some (.inl 4) ∧ K 4 L (h.2 a 7 :: r) h cs ss) := by
  rw [dX4_claimOf_1, ey_ok, nx_getfield_54]
  exact and_l rfl
theorem qX4_claimOf_4r : ey FX4 ini rt fin K0 K (decode cX4_claimOf 4) 4 L (.ref a :: r) h cs ss = (3 < L.length ∧ K 5 (L.set 3 (some (.ref a))) r h cs ss) := by
  rw [dX4_claimOf_4, ey_ok, nx_astore_n_8] <;> rfl
theorem qX4_claimOf_4n : ey FX4 ini rt fin K0 K (decode cX4_claimOf 4) 4 L (.null :: r) h cs ss = (3 < L.length ∧ K 5 (L.set 3 (some .null)) r h cs ss) := by
  rw [dX4_claimOf_4, ey_ok, nx_astore_n_9] <;> rfl
theorem qX4_claimOf_5 : ey FX4 ini rt fin K0 K (decode cX4_claimOf 5) 5 L (st) h cs ss = (lhas L 3 ∧ isRf (lgt L 3) ∧ K 6 L (lgt L 3 :: st) h cs ss) := by
  rw [dX4_claimOf_5, ey_ok, nx_aload_n_3] <;> rfl
theorem qX4_claimOf_6n : ey FX4 ini rt fin K0 K (decode cX4_claimOf 6) 6 L (.null :: r) h cs ss = (K 35 L r h cs ss) := by
  rw [dX4_claimOf_6, ey_ok, nx_ifnull_50]
  exact and_l (by unfold jok; decide)
theorem qX4_claimOf_6r : ey FX4 ini rt fin K0 K (decode cX4_claimOf 6) 6 L (.ref a :: r) h cs ss = (K 9 L r h cs ss) := by
  rw [dX4_claimOf_6, ey_ok, nx_ifnull_51]
  exact and_l (by unfold jok; decide)
theorem qX4_claimOf_9 : ey FX4 ini rt fin K0 K (decode cX4_claimOf 9) 9 L (st) h cs ss = (lhas L 3 ∧ isRf (lgt L 3) ∧ K 10 L (lgt L 3 :: st) h cs ss) := by
  rw [dX4_claimOf_9, ey_ok, nx_aload_n_3] <;> rfl
theorem qX4_claimOf_10 : ey FX4 ini rt fin K0 K (decode cX4_claimOf 10) 10 L (.ref a :: r) h cs ss = (h.1 a = some (.inl 0) ∧ K 13 L (h.2 a 0 :: r) h cs ss) := by
  rw [dX4_claimOf_10, ey_ok, nx_getfield_54]
  exact and_l rfl
theorem qX4_claimOf_13 : ey FX4 ini rt fin K0 K (decode cX4_claimOf 13) 13 L (st) h cs ss = (lhas L 1 ∧ isRf (lgt L 1) ∧ K 14 L (lgt L 1 :: st) h cs ss) := by
  rw [dX4_claimOf_13, ey_ok, nx_aload_n_3] <;> rfl
theorem qX4_claimOf_14rr : ey FX4 ini rt fin K0 K (decode cX4_claimOf 14) 14 L (.ref a :: .ref a2 :: r) h cs ss = (if ¬ (a2 = a) then K 27 L r h cs ss else K 17 L r h cs ss) := by
  rw [dX4_claimOf_14, ey_ok, nx_if_acmp_46]
  exact and_l (by unfold jok; decide)
theorem qX4_claimOf_14nn : ey FX4 ini rt fin K0 K (decode cX4_claimOf 14) 14 L (.null :: .null :: r) h cs ss = (K 17 L r h cs ss) := by
  rw [dX4_claimOf_14, ey_ok, nx_if_acmp_47]
  exact and_l (by unfold jok; decide)
theorem qX4_claimOf_14nr : ey FX4 ini rt fin K0 K (decode cX4_claimOf 14) 14 L (.null :: .ref a :: r) h cs ss = (K 27 L r h cs ss) := by
  rw [dX4_claimOf_14, ey_ok, nx_if_acmp_48]
  exact and_l (by unfold jok; decide)
theorem qX4_claimOf_14rn : ey FX4 ini rt fin K0 K (decode cX4_claimOf 14) 14 L (.ref a :: .null :: r) h cs ss = (K 27 L r h cs ss) := by
  rw [dX4_claimOf_14, ey_ok, nx_if_acmp_49]
  exact and_l (by unfold jok; decide)
theorem qX4_claimOf_17 : ey FX4 ini rt fin K0 K (decode cX4_claimOf 17) 17 L (st) h cs ss = (lhas L 3 ∧ isRf (lgt L 3) ∧ K 18 L (lgt L 3 :: st) h cs ss) := by
  rw [dX4_claimOf_17, ey_ok, nx_aload_n_3] <;> rfl
theorem qX4_claimOf_18 : ey FX4 ini rt fin K0 K (decode cX4_claimOf 18) 18 L (.ref a :: r) h cs ss = (h.1 a = some (.inl 0) ∧ K 21 L (h.2 a 2 :: r) h cs ss) := by
  rw [dX4_claimOf_18, ey_ok, nx_getfield_54]
  exact and_l rfl
theorem qX4_claimOf_21 : ey FX4 ini rt fin K0 K (decode cX4_claimOf 21) 21 L (st) h cs ss = (lhas L 2 ∧ isRf (lgt L 2) ∧ K 22 L (lgt L 2 :: st) h cs ss) := by
  rw [dX4_claimOf_21, ey_ok, nx_aload_n_3] <;> rfl
theorem qX4_claimOf_22rr : ey FX4 ini rt fin K0 K (decode cX4_claimOf 22) 22 L (.ref a :: .ref a2 :: r) h cs ss = (if ¬ (a2 = a) then K 27 L r h cs ss else K 25 L r h cs ss) := by
  rw [dX4_claimOf_22, ey_ok, nx_if_acmp_46]
  exact and_l (by unfold jok; decide)
theorem qX4_claimOf_22nn : ey FX4 ini rt fin K0 K (decode cX4_claimOf 22) 22 L (.null :: .null :: r) h cs ss = (K 25 L r h cs ss) := by
  rw [dX4_claimOf_22, ey_ok, nx_if_acmp_47]
  exact and_l (by unfold jok; decide)
theorem qX4_claimOf_22nr : ey FX4 ini rt fin K0 K (decode cX4_claimOf 22) 22 L (.null :: .ref a :: r) h cs ss = (K 27 L r h cs ss) := by
  rw [dX4_claimOf_22, ey_ok, nx_if_acmp_48]
  exact and_l (by unfold jok; decide)
theorem qX4_claimOf_22rn : ey FX4 ini rt fin K0 K (decode cX4_claimOf 22) 22 L (.ref a :: .null :: r) h cs ss = (K 27 L r h cs ss) := by
  rw [dX4_claimOf_22, ey_ok, nx_if_acmp_49]
  exact and_l (by unfold jok; decide)
theorem qX4_claimOf_25 : ey FX4 ini rt fin K0 K (decode cX4_claimOf 25) 25 L (st) h cs ss = (lhas L 3 ∧ isRf (lgt L 3) ∧ K 26 L (lgt L 3 :: st) h cs ss) := by
  rw [dX4_claimOf_25, ey_ok, nx_aload_n_3] <;> rfl
theorem qX4_claimOf_26r : ey FX4 ini rt fin K0 K (decode cX4_claimOf 26) 26 L ([.ref a]) h cs ss = (isR rt ∧ fin (some (.ref a)) h cs ss) := by
  rw [dX4_claimOf_26, ey_ok, nx_areturn_69]
theorem qX4_claimOf_26n : ey FX4 ini rt fin K0 K (decode cX4_claimOf 26) 26 L ([.null]) h cs ss = (isR rt ∧ fin (some .null) h cs ss) := by
  rw [dX4_claimOf_26, ey_ok, nx_areturn_70]
theorem qX4_claimOf_27 : ey FX4 ini rt fin K0 K (decode cX4_claimOf 27) 27 L (st) h cs ss = (lhas L 3 ∧ isRf (lgt L 3) ∧ K 28 L (lgt L 3 :: st) h cs ss) := by
  rw [dX4_claimOf_27, ey_ok, nx_aload_n_3] <;> rfl
theorem qX4_claimOf_28 : ey FX4 ini rt fin K0 K (decode cX4_claimOf 28) 28 L (.ref a :: r) h cs ss = (h.1 a = some (.inl 0) ∧ K 31 L (h.2 a 3 :: r) h cs ss) := by
  rw [dX4_claimOf_28, ey_ok, nx_getfield_54]
  exact and_l rfl
theorem qX4_claimOf_31r : ey FX4 ini rt fin K0 K (decode cX4_claimOf 31) 31 L (.ref a :: r) h cs ss = (3 < L.length ∧ K 32 (L.set 3 (some (.ref a))) r h cs ss) := by
  rw [dX4_claimOf_31, ey_ok, nx_astore_n_8] <;> rfl
theorem qX4_claimOf_31n : ey FX4 ini rt fin K0 K (decode cX4_claimOf 31) 31 L (.null :: r) h cs ss = (3 < L.length ∧ K 32 (L.set 3 (some .null)) r h cs ss) := by
  rw [dX4_claimOf_31, ey_ok, nx_astore_n_9] <;> rfl
theorem qX4_claimOf_32 : ey FX4 ini rt fin K0 K (decode cX4_claimOf 32) 32 L (st) h cs ss = (K 5 L st h cs ss) := by
  rw [dX4_claimOf_32, ey_ok, nx_goto_29]
  exact and_l (by unfold jok; decide)
theorem qX4_claimOf_35 : ey FX4 ini rt fin K0 K (decode cX4_claimOf 35) 35 L (st) h cs ss = (K 36 L (.null :: st) h cs ss) := by
  rw [dX4_claimOf_35, ey_ok, nx_aconst_null_15]
theorem qX4_claimOf_36r : ey FX4 ini rt fin K0 K (decode cX4_claimOf 36) 36 L ([.ref a]) h cs ss = (isR rt ∧ fin (some (.ref a)) h cs ss) := by
  rw [dX4_claimOf_36, ey_ok, nx_areturn_69]
theorem qX4_claimOf_36n : ey FX4 ini rt fin K0 K (decode cX4_claimOf 36) 36 L ([.null]) h cs ss = (isR rt ∧ fin (some .null) h cs ss) := by
  rw [dX4_claimOf_36, ey_ok, nx_areturn_70]
end QQ
section QQ
variable {F : Nat → Option Fq} {ini : Option Nat} {rt : Option FieldType} {fin : Option Value → Hp → Nat → Nat → Prop} {K0 K : Kt} {L : List (Option Value)} {h : Hp} {cs ss : Nat} {r st : List Value} {x y i : Int32} {a a2 : Nat} {v v2 : Value} {lx ly : Int64}
theorem qX5_init_0 : ey FX5 ini rt fin K0 K (decode cX5_init 0) 0 L (st) h cs ss = (lhas L 0 ∧ isRf (lgt L 0) ∧ K 1 L (lgt L 0 :: st) h cs ss) := by
  rw [dX5_init_0, ey_ok, nx_aload_n_3] <;> rfl
theorem qX5_init_1 : ey FX5 ini rt fin K0 K (decode cX5_init 1) 1 L (st) h cs ss = (K0 1 L st h cs ss) := by
  rw [dX5_init_1, ey_ok, nx_invokespecial_74]
theorem qX5_init_4 : ey FX5 ini rt fin K0 K (decode cX5_init 4) 4 L (st) h cs ss = (lhas L 0 ∧ isRf (lgt L 0) ∧ K 5 L (lgt L 0 :: st) h cs ss) := by
  rw [dX5_init_4, ey_ok, nx_aload_n_3] <;> rfl
theorem qX5_init_5 : ey FX5 ini rt fin K0 K (decode cX5_init 5) 5 L (st) h cs ss = (K 7 L (.int 40 :: st) h cs ss) := by
  rw [dX5_init_5, ey_ok, nx_bipush_12] <;> rfl
theorem qX5_init_7 : ey FX5 ini rt fin K0 K (decode cX5_init 7) 7 L (st) h cs ss = (K0 7 L st h cs ss) := by
  rw [dX5_init_7, ey_ok, nx_anewarray_77]
theorem qX5_init_10 : ey FX5 ini rt fin K0 K (decode cX5_init 10) 10 L (v :: .ref a :: r) h cs ss = (h.1 a = some (.inl 5) ∧ okv (.array (.object "UnionClock$Shift")) v ∧ (true = true → ini = some 5) ∧ K 13 L r (h.1, hup h.2 a 1 v) cs ss) := by
  rw [dX5_init_10, ey_ok, nx_putfield_55]
  exact and_l rfl
theorem qX5_init_13 : ey FX5 ini rt fin K0 K (decode cX5_init 13) 13 L (st) h cs ss = (lhas L 0 ∧ isRf (lgt L 0) ∧ K 14 L (lgt L 0 :: st) h cs ss) := by
  rw [dX5_init_13, ey_ok, nx_aload_n_3] <;> rfl
theorem qX5_init_14 : ey FX5 ini rt fin K0 K (decode cX5_init 14) 14 L (st) h cs ss = (K 16 L (.int 10 :: st) h cs ss) := by
  rw [dX5_init_14, ey_ok, nx_bipush_12] <;> rfl
theorem qX5_init_16 : ey FX5 ini rt fin K0 K (decode cX5_init 16) 16 L (v :: .ref a :: r) h cs ss = (h.1 a = some (.inl 5) ∧ okv (.int) v ∧ K 19 L r (h.1, hup h.2 a 3 v) cs ss) := by
  rw [dX5_init_16, ey_ok, nx_putfield_55]
  exact (and_l rfl).trans (and_m (fun z => nomatch z))
theorem qX5_init_19 : ey FX5 ini rt fin K0 K (decode cX5_init 19) 19 L (st) h cs ss = (lhas L 0 ∧ isRf (lgt L 0) ∧ K 20 L (lgt L 0 :: st) h cs ss) := by
  rw [dX5_init_19, ey_ok, nx_aload_n_3] <;> rfl
theorem qX5_init_20 : ey FX5 ini rt fin K0 K (decode cX5_init 20) 20 L (st) h cs ss = (lhas L 1 ∧ isI (lgt L 1) ∧ K 21 L (lgt L 1 :: st) h cs ss) := by
  rw [dX5_init_20, ey_ok, nx_iload_n_1] <;> rfl
theorem qX5_init_21 : ey FX5 ini rt fin K0 K (decode cX5_init 21) 21 L (v :: .ref a :: r) h cs ss = (h.1 a = some (.inl 5) ∧ okv (.int) v ∧ (true = true → ini = some 5) ∧ K 24 L r (h.1, hup h.2 a 0 v) cs ss) := by
  rw [dX5_init_21, ey_ok, nx_putfield_55]
  exact and_l rfl
theorem qX5_init_24 : ey FX5 ini rt fin K0 K (decode cX5_init 24) 24 L ([]) h cs ss = (rt = none ∧ fin none h cs ss) := by
  rw [dX5_init_24, ey_ok, nx_return__71]
theorem qX5_add_0 : ey FX5 ini rt fin K0 K (decode cX5_add 0) 0 L (st) h cs ss = (lhas L 1 ∧ isRf (lgt L 1) ∧ K 1 L (lgt L 1 :: st) h cs ss) := by
  rw [dX5_add_0, ey_ok, nx_aload_n_3] <;> rfl
theorem qX5_add_1r : ey FX5 ini rt fin K0 K (decode cX5_add 1) 1 L (.ref a :: r) h cs ss = (2 < L.length ∧ K 2 (L.set 2 (some (.ref a))) r h cs ss) := by
  rw [dX5_add_1, ey_ok, nx_astore_n_8] <;> rfl
theorem qX5_add_1n : ey FX5 ini rt fin K0 K (decode cX5_add 1) 1 L (.null :: r) h cs ss = (2 < L.length ∧ K 2 (L.set 2 (some .null)) r h cs ss) := by
  rw [dX5_add_1, ey_ok, nx_astore_n_9] <;> rfl
theorem qX5_add_2 : ey FX5 ini rt fin K0 K (decode cX5_add 2) 2 L (st) h cs ss = (K 3 L (.int 0 :: st) h cs ss) := by
  rw [dX5_add_2, ey_ok, nx_iconst_11] <;> rfl
theorem qX5_add_3 : ey FX5 ini rt fin K0 K (decode cX5_add 3) 3 L (.int x :: r) h cs ss = (3 < L.length ∧ K 4 (L.set 3 (some (.int x))) r h cs ss) := by
  rw [dX5_add_3, ey_ok, nx_istore_n_5] <;> rfl
theorem qX5_add_4 : ey FX5 ini rt fin K0 K (decode cX5_add 4) 4 L (st) h cs ss = (lhas L 3 ∧ isI (lgt L 3) ∧ K 5 L (lgt L 3 :: st) h cs ss) := by
  rw [dX5_add_4, ey_ok, nx_iload_n_1] <;> rfl
theorem qX5_add_5 : ey FX5 ini rt fin K0 K (decode cX5_add 5) 5 L (st) h cs ss = (lhas L 0 ∧ isRf (lgt L 0) ∧ K 6 L (lgt L 0 :: st) h cs ss) := by
  rw [dX5_add_5, ey_ok, nx_aload_n_3] <;> rfl
theorem qX5_add_6 : ey FX5 ini rt fin K0 K (decode cX5_add 6) 6 L (.ref a :: r) h cs ss = (h.1 a = some (.inl 5) ∧ K 9 L (h.2 a 1 :: r) h cs ss) := by
  rw [dX5_add_6, ey_ok, nx_getfield_54]
  exact and_l rfl
theorem qX5_add_9 : ey FX5 ini rt fin K0 K (decode cX5_add 9) 9 L (.ref a :: r) h cs ss = (isA (h.1 a) (fun _ _ => True) ∧ K 10 L (.int (nI (alen (h.1 a))) :: r) h cs ss) := by
  rw [dX5_add_9, ey_ok, nx_arraylength_56]
theorem qX5_add_10 : ey FX5 ini rt fin K0 K (decode cX5_add 10) 10 L (.int y :: .int x :: r) h cs ss = (if y ≤ x then K 55 L r h cs ss else K 13 L r h cs ss) := by
  rw [dX5_add_10, ey_ok, nx_if_icmp_39]
  exact and_l (by unfold jok; decide)
theorem qX5_add_13 : ey FX5 ini rt fin K0 K (decode cX5_add 13) 13 L (st) h cs ss = (lhas L 2 ∧ isRf (lgt L 2) ∧ K 14 L (lgt L 2 :: st) h cs ss) := by
  rw [dX5_add_13, ey_ok, nx_aload_n_3] <;> rfl
theorem qX5_add_14n : ey FX5 ini rt fin K0 K (decode cX5_add 14) 14 L (.null :: r) h cs ss = (K 55 L r h cs ss) := by
  rw [dX5_add_14, ey_ok, nx_ifnull_50]
  exact and_l (by unfold jok; decide)
theorem qX5_add_14r : ey FX5 ini rt fin K0 K (decode cX5_add 14) 14 L (.ref a :: r) h cs ss = (K 17 L r h cs ss) := by
  rw [dX5_add_14, ey_ok, nx_ifnull_51]
  exact and_l (by unfold jok; decide)
theorem qX5_add_17 : ey FX5 ini rt fin K0 K (decode cX5_add 17) 17 L (st) h cs ss = (lhas L 0 ∧ isRf (lgt L 0) ∧ K 18 L (lgt L 0 :: st) h cs ss) := by
  rw [dX5_add_17, ey_ok, nx_aload_n_3] <;> rfl
theorem qX5_add_18 : ey FX5 ini rt fin K0 K (decode cX5_add 18) 18 L (.ref a :: r) h cs ss = (h.1 a = some (.inl 5) ∧ K 21 L (h.2 a 1 :: r) h cs ss) := by
  rw [dX5_add_18, ey_ok, nx_getfield_54]
  exact and_l rfl
theorem qX5_add_21 : ey FX5 ini rt fin K0 K (decode cX5_add 21) 21 L (st) h cs ss = (lhas L 3 ∧ isI (lgt L 3) ∧ K 22 L (lgt L 3 :: st) h cs ss) := by
  rw [dX5_add_21, ey_ok, nx_iload_n_1] <;> rfl
theorem qX5_add_22 : ey FX5 ini rt fin K0 K (decode cX5_add 22) 22 L (.int i :: .ref a :: r) h cs ss = (isA (h.1 a) (fun k m => 4 ≤ k ∧ vp_in i m) ∧ K 23 L (h.2 a i.toNatClampNeg :: r) h cs ss) := by
  rw [dX5_add_22, ey_ok, nx_aaload_61]
theorem qX5_add_23r : ey FX5 ini rt fin K0 K (decode cX5_add 23) 23 L (.ref a :: r) h cs ss = (4 < L.length ∧ K 25 (L.set 4 (some (.ref a))) r h cs ss) := by
  rw [dX5_add_23, ey_ok, nx_astore_6] <;> rfl
theorem qX5_add_23n : ey FX5 ini rt fin K0 K (decode cX5_add 23) 23 L (.null :: r) h cs ss = (4 < L.length ∧ K 25 (L.set 4 (some .null)) r h cs ss) := by
  rw [dX5_add_23, ey_ok, nx_astore_7] <;> rfl
theorem qX5_add_25 : ey FX5 ini rt fin K0 K (decode cX5_add 25) 25 L (st) h cs ss = (lhas L 4 ∧ isRf (lgt L 4) ∧ K 27 L (lgt L 4 :: st) h cs ss) := by
  rw [dX5_add_25, ey_ok, nx_aload_2] <;> rfl
theorem qX5_add_27n : ey FX5 ini rt fin K0 K (decode cX5_add 27) 27 L (.null :: r) h cs ss = (K 39 L r h cs ss) := by
  rw [dX5_add_27, ey_ok, nx_ifnull_50]
  exact and_l (by unfold jok; decide)
theorem qX5_add_27r : ey FX5 ini rt fin K0 K (decode cX5_add 27) 27 L (.ref a :: r) h cs ss = (K 30 L r h cs ss) := by
  rw [dX5_add_27, ey_ok, nx_ifnull_51]
  exact and_l (by unfold jok; decide)
theorem qX5_add_30 : ey FX5 ini rt fin K0 K (decode cX5_add 30) 30 L (st) h cs ss = (lhas L 2 ∧ isRf (lgt L 2) ∧ K 31 L (lgt L 2 :: st) h cs ss) := by
  rw [dX5_add_30, ey_ok, nx_aload_n_3] <;> rfl
theorem qX5_add_31 : ey FX5 ini rt fin K0 K (decode cX5_add 31) 31 L (st) h cs ss = (lhas L 4 ∧ isRf (lgt L 4) ∧ K 33 L (lgt L 4 :: st) h cs ss) := by
  rw [dX5_add_31, ey_ok, nx_aload_2] <;> rfl
theorem qX5_add_33 : ey FX5 ini rt fin K0 K (decode cX5_add 33) 33 L (st) h cs ss = (K0 33 L st h cs ss) := by
  rw [dX5_add_33, ey_ok, nx_invokevirtual_72]
theorem qX5_add_36 : ey FX5 ini rt fin K0 K (decode cX5_add 36) 36 L (.int x :: r) h cs ss = (if x = 0 then K 49 L r h cs ss else K 39 L r h cs ss) := by
  rw [dX5_add_36, ey_ok, nx_ifond_30]
  exact and_l (by unfold jok; decide)
theorem qX5_add_39 : ey FX5 ini rt fin K0 K (decode cX5_add 39) 39 L (st) h cs ss = (lhas L 0 ∧ isRf (lgt L 0) ∧ K 40 L (lgt L 0 :: st) h cs ss) := by
  rw [dX5_add_39, ey_ok, nx_aload_n_3] <;> rfl
theorem qX5_add_40 : ey FX5 ini rt fin K0 K (decode cX5_add 40) 40 L (.ref a :: r) h cs ss = (h.1 a = some (.inl 5) ∧ K 43 L (h.2 a 1 :: r) h cs ss) := by
  rw [dX5_add_40, ey_ok, nx_getfield_54]
  exact and_l rfl
theorem qX5_add_43 : ey FX5 ini rt fin K0 K (decode cX5_add 43) 43 L (st) h cs ss = (lhas L 3 ∧ isI (lgt L 3) ∧ K 44 L (lgt L 3 :: st) h cs ss) := by
  rw [dX5_add_43, ey_ok, nx_iload_n_1] <;> rfl
theorem qX5_add_44 : ey FX5 ini rt fin K0 K (decode cX5_add 44) 44 L (st) h cs ss = (lhas L 2 ∧ isRf (lgt L 2) ∧ K 45 L (lgt L 2 :: st) h cs ss) := by
  rw [dX5_add_44, ey_ok, nx_aload_n_3] <;> rfl
theorem qX5_add_45r : ey FX5 ini rt fin K0 K (decode cX5_add 45) 45 L (.ref a2 :: .int i :: .ref a :: r) h cs ss = (isA (h.1 a) (fun t m => 4 ≤ t ∧ h.1 a2 = some (.inl (vec t)) ∧ vp_in i m) ∧ K 46 L r (h.1, hup h.2 a i.toNatClampNeg (.ref a2)) cs ss) := by
  rw [dX5_add_45, ey_ok, nx_aastore_66]
theorem qX5_add_45n : ey FX5 ini rt fin K0 K (decode cX5_add 45) 45 L (.null :: .int i :: .ref a :: r) h cs ss = (isA (h.1 a) (fun t m => 4 ≤ t ∧ vp_in i m) ∧ K 46 L r (h.1, hup h.2 a i.toNatClampNeg .null) cs ss) := by
  rw [dX5_add_45, ey_ok, nx_aastore_67]
theorem qX5_add_46 : ey FX5 ini rt fin K0 K (decode cX5_add 46) 46 L (st) h cs ss = (lhas L 4 ∧ isRf (lgt L 4) ∧ K 48 L (lgt L 4 :: st) h cs ss) := by
  rw [dX5_add_46, ey_ok, nx_aload_2] <;> rfl
theorem qX5_add_48r : ey FX5 ini rt fin K0 K (decode cX5_add 48) 48 L (.ref a :: r) h cs ss = (2 < L.length ∧ K 49 (L.set 2 (some (.ref a))) r h cs ss) := by
  rw [dX5_add_48, ey_ok, nx_astore_n_8] <;> rfl
theorem qX5_add_48n : ey FX5 ini rt fin K0 K (decode cX5_add 48) 48 L (.null :: r) h cs ss = (2 < L.length ∧ K 49 (L.set 2 (some .null)) r h cs ss) := by
  rw [dX5_add_48, ey_ok, nx_astore_n_9] <;> rfl
theorem qX5_add_49 : ey FX5 ini rt fin K0 K (decode cX5_add 49) 49 L (st) h cs ss = (lhas L 3 ∧ isI (lgt L 3) ∧ K 52 (L.set 3 (some (inc (lgt L 3) 1))) st h cs ss) := by
  rw [dX5_add_49, ey_ok, nx_iinc_10] <;> rfl
theorem qX5_add_52 : ey FX5 ini rt fin K0 K (decode cX5_add 52) 52 L (st) h cs ss = (K 4 L st h cs ss) := by
  rw [dX5_add_52, ey_ok, nx_goto_29]
  exact and_l (by unfold jok; decide)
theorem qX5_add_55 : ey FX5 ini rt fin K0 K (decode cX5_add 55) 55 L ([]) h cs ss = (rt = none ∧ fin none h cs ss) := by
  rw [dX5_add_55, ey_ok, nx_return__71]
theorem qX5_remove_0 : ey FX5 ini rt fin K0 K (decode cX5_remove 0) 0 L (st) h cs ss = (K 1 L (.int 0 :: st) h cs ss) := by
  rw [dX5_remove_0, ey_ok, nx_iconst_11] <;> rfl
theorem qX5_remove_1 : ey FX5 ini rt fin K0 K (decode cX5_remove 1) 1 L (.int x :: r) h cs ss = (2 < L.length ∧ K 2 (L.set 2 (some (.int x))) r h cs ss) := by
  rw [dX5_remove_1, ey_ok, nx_istore_n_5] <;> rfl
theorem qX5_remove_2 : ey FX5 ini rt fin K0 K (decode cX5_remove 2) 2 L (st) h cs ss = (K 3 L (.int 0 :: st) h cs ss) := by
  rw [dX5_remove_2, ey_ok, nx_iconst_11] <;> rfl
theorem qX5_remove_3 : ey FX5 ini rt fin K0 K (decode cX5_remove 3) 3 L (.int x :: r) h cs ss = (3 < L.length ∧ K 4 (L.set 3 (some (.int x))) r h cs ss) := by
  rw [dX5_remove_3, ey_ok, nx_istore_n_5] <;> rfl
theorem qX5_remove_4 : ey FX5 ini rt fin K0 K (decode cX5_remove 4) 4 L (st) h cs ss = (lhas L 3 ∧ isI (lgt L 3) ∧ K 5 L (lgt L 3 :: st) h cs ss) := by
  rw [dX5_remove_4, ey_ok, nx_iload_n_1] <;> rfl
theorem qX5_remove_5 : ey FX5 ini rt fin K0 K (decode cX5_remove 5) 5 L (st) h cs ss = (lhas L 0 ∧ isRf (lgt L 0) ∧ K 6 L (lgt L 0 :: st) h cs ss) := by
  rw [dX5_remove_5, ey_ok, nx_aload_n_3] <;> rfl
theorem qX5_remove_6 : ey FX5 ini rt fin K0 K (decode cX5_remove 6) 6 L (.ref a :: r) h cs ss = (h.1 a = some (.inl 5) ∧ K 9 L (h.2 a 1 :: r) h cs ss) := by
  rw [dX5_remove_6, ey_ok, nx_getfield_54]
  exact and_l rfl
theorem qX5_remove_9 : ey FX5 ini rt fin K0 K (decode cX5_remove 9) 9 L (.ref a :: r) h cs ss = (isA (h.1 a) (fun _ _ => True) ∧ K 10 L (.int (nI (alen (h.1 a))) :: r) h cs ss) := by
  rw [dX5_remove_9, ey_ok, nx_arraylength_56]
theorem qX5_remove_10 : ey FX5 ini rt fin K0 K (decode cX5_remove 10) 10 L (.int y :: .int x :: r) h cs ss = (if y ≤ x then K 56 L r h cs ss else K 13 L r h cs ss) := by
  rw [dX5_remove_10, ey_ok, nx_if_icmp_39]
  exact and_l (by unfold jok; decide)
theorem qX5_remove_13 : ey FX5 ini rt fin K0 K (decode cX5_remove 13) 13 L (st) h cs ss = (lhas L 2 ∧ isI (lgt L 2) ∧ K 14 L (lgt L 2 :: st) h cs ss) := by
  rw [dX5_remove_13, ey_ok, nx_iload_n_1] <;> rfl
theorem qX5_remove_14 : ey FX5 ini rt fin K0 K (decode cX5_remove 14) 14 L (.int x :: r) h cs ss = (if ¬ x = 0 then K 27 L r h cs ss else K 17 L r h cs ss) := by
  rw [dX5_remove_14, ey_ok, nx_ifond_31]
  exact and_l (by unfold jok; decide)
theorem qX5_remove_17 : ey FX5 ini rt fin K0 K (decode cX5_remove 17) 17 L (st) h cs ss = (lhas L 0 ∧ isRf (lgt L 0) ∧ K 18 L (lgt L 0 :: st) h cs ss) := by
  rw [dX5_remove_17, ey_ok, nx_aload_n_3] <;> rfl
theorem qX5_remove_18 : ey FX5 ini rt fin K0 K (decode cX5_remove 18) 18 L (.ref a :: r) h cs ss = (h.1 a = some (.inl 5) ∧ K 21 L (h.2 a 1 :: r) h cs ss) := by
  rw [dX5_remove_18, ey_ok, nx_getfield_54]
  exact and_l rfl
theorem qX5_remove_21 : ey FX5 ini rt fin K0 K (decode cX5_remove 21) 21 L (st) h cs ss = (lhas L 3 ∧ isI (lgt L 3) ∧ K 22 L (lgt L 3 :: st) h cs ss) := by
  rw [dX5_remove_21, ey_ok, nx_iload_n_1] <;> rfl
theorem qX5_remove_22 : ey FX5 ini rt fin K0 K (decode cX5_remove 22) 22 L (.int i :: .ref a :: r) h cs ss = (isA (h.1 a) (fun k m => 4 ≤ k ∧ vp_in i m) ∧ K 23 L (h.2 a i.toNatClampNeg :: r) h cs ss) := by
  rw [dX5_remove_22, ey_ok, nx_aaload_61]
theorem qX5_remove_23 : ey FX5 ini rt fin K0 K (decode cX5_remove 23) 23 L (st) h cs ss = (lhas L 1 ∧ isRf (lgt L 1) ∧ K 24 L (lgt L 1 :: st) h cs ss) := by
  rw [dX5_remove_23, ey_ok, nx_aload_n_3] <;> rfl
theorem qX5_remove_24rr : ey FX5 ini rt fin K0 K (decode cX5_remove 24) 24 L (.ref a :: .ref a2 :: r) h cs ss = (if ¬ (a2 = a) then K 31 L r h cs ss else K 27 L r h cs ss) := by
  rw [dX5_remove_24, ey_ok, nx_if_acmp_46]
  exact and_l (by unfold jok; decide)
theorem qX5_remove_24nn : ey FX5 ini rt fin K0 K (decode cX5_remove 24) 24 L (.null :: .null :: r) h cs ss = (K 27 L r h cs ss) := by
  rw [dX5_remove_24, ey_ok, nx_if_acmp_47]
  exact and_l (by unfold jok; decide)
theorem qX5_remove_24nr : ey FX5 ini rt fin K0 K (decode cX5_remove 24) 24 L (.null :: .ref a :: r) h cs ss = (K 31 L r h cs ss) := by
  rw [dX5_remove_24, ey_ok, nx_if_acmp_48]
  exact and_l (by unfold jok; decide)
theorem qX5_remove_24rn : ey FX5 ini rt fin K0 K (decode cX5_remove 24) 24 L (.ref a :: .null :: r) h cs ss = (K 31 L r h cs ss) := by
  rw [dX5_remove_24, ey_ok, nx_if_acmp_49]
  exact and_l (by unfold jok; decide)
theorem qX5_remove_27 : ey FX5 ini rt fin K0 K (decode cX5_remove 27) 27 L (st) h cs ss = (K 28 L (.int 1 :: st) h cs ss) := by
  rw [dX5_remove_27, ey_ok, nx_iconst_11] <;> rfl
theorem qX5_remove_28 : ey FX5 ini rt fin K0 K (decode cX5_remove 28) 28 L (st) h cs ss = (K 32 L st h cs ss) := by
  rw [dX5_remove_28, ey_ok, nx_goto_29]
  exact and_l (by unfold jok; decide)
theorem qX5_remove_31 : ey FX5 ini rt fin K0 K (decode cX5_remove 31) 31 L (st) h cs ss = (K 32 L (.int 0 :: st) h cs ss) := by
  rw [dX5_remove_31, ey_ok, nx_iconst_11] <;> rfl
theorem qX5_remove_32 : ey FX5 ini rt fin K0 K (decode cX5_remove 32) 32 L (.int x :: r) h cs ss = (2 < L.length ∧ K 33 (L.set 2 (some (.int x))) r h cs ss) := by
  rw [dX5_remove_32, ey_ok, nx_istore_n_5] <;> rfl
theorem qX5_remove_33 : ey FX5 ini rt fin K0 K (decode cX5_remove 33) 33 L (st) h cs ss = (lhas L 2 ∧ isI (lgt L 2) ∧ K 34 L (lgt L 2 :: st) h cs ss) := by
  rw [dX5_remove_33, ey_ok, nx_iload_n_1] <;> rfl
theorem qX5_remove_34 : ey FX5 ini rt fin K0 K (decode cX5_remove 34) 34 L (.int x :: r) h cs ss = (if x = 0 then K 50 L r h cs ss else K 37 L r h cs ss) := by
  rw [dX5_remove_34, ey_ok, nx_ifond_30]
  exact and_l (by unfold jok; decide)
theorem qX5_remove_37 : ey FX5 ini rt fin K0 K (decode cX5_remove 37) 37 L (st) h cs ss = (lhas L 0 ∧ isRf (lgt L 0) ∧ K 38 L (lgt L 0 :: st) h cs ss) := by
  rw [dX5_remove_37, ey_ok, nx_aload_n_3] <;> rfl
theorem qX5_remove_38 : ey FX5 ini rt fin K0 K (decode cX5_remove 38) 38 L (.ref a :: r) h cs ss = (h.1 a = some (.inl 5) ∧ K 41 L (h.2 a 1 :: r) h cs ss) := by
  rw [dX5_remove_38, ey_ok, nx_getfield_54]
  exact and_l rfl
theorem qX5_remove_41 : ey FX5 ini rt fin K0 K (decode cX5_remove 41) 41 L (st) h cs ss = (lhas L 3 ∧ isI (lgt L 3) ∧ K 42 L (lgt L 3 :: st) h cs ss) := by
  rw [dX5_remove_41, ey_ok, nx_iload_n_1] <;> rfl
theorem qX5_remove_42 : ey FX5 ini rt fin K0 K (decode cX5_remove 42) 42 L (st) h cs ss = (lhas L 0 ∧ isRf (lgt L 0) ∧ K 43 L (lgt L 0 :: st) h cs ss) := by
  rw [dX5_remove_42, ey_ok, nx_aload_n_3] <;> rfl
theorem qX5_remove_43 : ey FX5 ini rt fin K0 K (decode cX5_remove 43) 43 L (st) h cs ss = (lhas L 3 ∧ isI (lgt L 3) ∧ K 44 L (lgt L 3 :: st) h cs ss) := by
  rw [dX5_remove_43, ey_ok, nx_iload_n_1] <;> rfl
theorem qX5_remove_44 : ey FX5 ini rt fin K0 K (decode cX5_remove 44) 44 L (st) h cs ss = (K 45 L (.int 1 :: st) h cs ss) := by
  rw [dX5_remove_44, ey_ok, nx_iconst_11] <;> rfl
theorem qX5_remove_45 : ey FX5 ini rt fin K0 K (decode cX5_remove 45) 45 L (.int y :: .int x :: r) h cs ss = (K 46 L (.int (x + y) :: r) h cs ss) := by
  rw [dX5_remove_45, ey_ok, nx_iadd_16]
theorem qX5_remove_46 : ey FX5 ini rt fin K0 K (decode cX5_remove 46) 46 L (st) h cs ss = (K0 46 L st h cs ss) := by
  rw [dX5_remove_46, ey_ok, nx_invokevirtual_72]
theorem qX5_remove_49r : ey FX5 ini rt fin K0 K (decode cX5_remove 49) 49 L (.ref a2 :: .int i :: .ref a :: r) h cs ss = (isA (h.1 a) (fun t m => 4 ≤ t ∧ h.1 a2 = some (.inl (vec t)) ∧ vp_in i m) ∧ K 50 L r (h.1, hup h.2 a i.toNatClampNeg (.ref a2)) cs ss) := by
  rw [dX5_remove_49, ey_ok, nx_aastore_66]
theorem qX5_remove_49n : ey FX5 ini rt fin K0 K (decode cX5_remove 49) 49 L (.null :: .int i :: .ref a :: r) h cs ss = (isA (h.1 a) (fun t m => 4 ≤ t ∧ vp_in i m) ∧ K 50 L r (h.1, hup h.2 a i.toNatClampNeg .null) cs ss) := by
  rw [dX5_remove_49, ey_ok, nx_aastore_67]
theorem qX5_remove_50 : ey FX5 ini rt fin K0 K (decode cX5_remove 50) 50 L (st) h cs ss = (lhas L 3 ∧ isI (lgt L 3) ∧ K 53 (L.set 3 (some (inc (lgt L 3) 1))) st h cs ss) := by
  rw [dX5_remove_50, ey_ok, nx_iinc_10] <;> rfl
theorem qX5_remove_53 : ey FX5 ini rt fin K0 K (decode cX5_remove 53) 53 L (st) h cs ss = (K 4 L st h cs ss) := by
  rw [dX5_remove_53, ey_ok, nx_goto_29]
  exact and_l (by unfold jok; decide)
theorem qX5_remove_56 : ey FX5 ini rt fin K0 K (decode cX5_remove 56) 56 L ([]) h cs ss = (rt = none ∧ fin none h cs ss) := by
  rw [dX5_remove_56, ey_ok, nx_return__71]
theorem qX5_shiftAt_0 : ey FX5 ini rt fin K0 K (decode cX5_shiftAt 0) 0 L (st) h cs ss = (lhas L 1 ∧ isI (lgt L 1) ∧ K 1 L (lgt L 1 :: st) h cs ss) := by
  rw [dX5_shiftAt_0, ey_ok, nx_iload_n_1] <;> rfl
theorem qX5_shiftAt_1 : ey FX5 ini rt fin K0 K (decode cX5_shiftAt 1) 1 L (.int x :: r) h cs ss = (if x < 0 then K 13 L r h cs ss else K 4 L r h cs ss) := by
  rw [dX5_shiftAt_1, ey_ok, nx_ifond_32]
  exact and_l (by unfold jok; decide)
theorem qX5_shiftAt_4 : ey FX5 ini rt fin K0 K (decode cX5_shiftAt 4) 4 L (st) h cs ss = (lhas L 1 ∧ isI (lgt L 1) ∧ K 5 L (lgt L 1 :: st) h cs ss) := by
  rw [dX5_shiftAt_4, ey_ok, nx_iload_n_1] <;> rfl
theorem qX5_shiftAt_5 : ey FX5 ini rt fin K0 K (decode cX5_shiftAt 5) 5 L (st) h cs ss = (lhas L 0 ∧ isRf (lgt L 0) ∧ K 6 L (lgt L 0 :: st) h cs ss) := by
  rw [dX5_shiftAt_5, ey_ok, nx_aload_n_3] <;> rfl
theorem qX5_shiftAt_6 : ey FX5 ini rt fin K0 K (decode cX5_shiftAt 6) 6 L (.ref a :: r) h cs ss = (h.1 a = some (.inl 5) ∧ K 9 L (h.2 a 1 :: r) h cs ss) := by
  rw [dX5_shiftAt_6, ey_ok, nx_getfield_54]
  exact and_l rfl
theorem qX5_shiftAt_9 : ey FX5 ini rt fin K0 K (decode cX5_shiftAt 9) 9 L (.ref a :: r) h cs ss = (isA (h.1 a) (fun _ _ => True) ∧ K 10 L (.int (nI (alen (h.1 a))) :: r) h cs ss) := by
  rw [dX5_shiftAt_9, ey_ok, nx_arraylength_56]
theorem qX5_shiftAt_10 : ey FX5 ini rt fin K0 K (decode cX5_shiftAt 10) 10 L (.int y :: .int x :: r) h cs ss = (if x < y then K 17 L r h cs ss else K 13 L r h cs ss) := by
  rw [dX5_shiftAt_10, ey_ok, nx_if_icmp_38]
  exact and_l (by unfold jok; decide)
theorem qX5_shiftAt_13 : ey FX5 ini rt fin K0 K (decode cX5_shiftAt 13) 13 L (st) h cs ss = (K 14 L (.null :: st) h cs ss) := by
  rw [dX5_shiftAt_13, ey_ok, nx_aconst_null_15]
theorem qX5_shiftAt_14 : ey FX5 ini rt fin K0 K (decode cX5_shiftAt 14) 14 L (st) h cs ss = (K 23 L st h cs ss) := by
  rw [dX5_shiftAt_14, ey_ok, nx_goto_29]
  exact and_l (by unfold jok; decide)
theorem qX5_shiftAt_17 : ey FX5 ini rt fin K0 K (decode cX5_shiftAt 17) 17 L (st) h cs ss = (lhas L 0 ∧ isRf (lgt L 0) ∧ K 18 L (lgt L 0 :: st) h cs ss) := by
  rw [dX5_shiftAt_17, ey_ok, nx_aload_n_3] <;> rfl
theorem qX5_shiftAt_18 : ey FX5 ini rt fin K0 K (decode cX5_shiftAt 18) 18 L (.ref a :: r) h cs ss = (h.1 a = some (.inl 5) ∧ K 21 L (h.2 a 1 :: r) h cs ss) := by
  rw [dX5_shiftAt_18, ey_ok, nx_getfield_54]
  exact and_l rfl
theorem qX5_shiftAt_21 : ey FX5 ini rt fin K0 K (decode cX5_shiftAt 21) 21 L (st) h cs ss = (lhas L 1 ∧ isI (lgt L 1) ∧ K 22 L (lgt L 1 :: st) h cs ss) := by
  rw [dX5_shiftAt_21, ey_ok, nx_iload_n_1] <;> rfl
theorem qX5_shiftAt_22 : ey FX5 ini rt fin K0 K (decode cX5_shiftAt 22) 22 L (.int i :: .ref a :: r) h cs ss = (isA (h.1 a) (fun k m => 4 ≤ k ∧ vp_in i m) ∧ K 23 L (h.2 a i.toNatClampNeg :: r) h cs ss) := by
  rw [dX5_shiftAt_22, ey_ok, nx_aaload_61]
theorem qX5_shiftAt_23r : ey FX5 ini rt fin K0 K (decode cX5_shiftAt 23) 23 L ([.ref a]) h cs ss = (isR rt ∧ fin (some (.ref a)) h cs ss) := by
  rw [dX5_shiftAt_23, ey_ok, nx_areturn_69]
theorem qX5_shiftAt_23n : ey FX5 ini rt fin K0 K (decode cX5_shiftAt 23) 23 L ([.null]) h cs ss = (isR rt ∧ fin (some .null) h cs ss) := by
  rw [dX5_shiftAt_23, ey_ok, nx_areturn_70]
theorem qX5_placeOf_0 : ey FX5 ini rt fin K0 K (decode cX5_placeOf 0) 0 L (st) h cs ss = (K 1 L (.int 0 :: st) h cs ss) := by
  rw [dX5_placeOf_0, ey_ok, nx_iconst_11] <;> rfl
theorem qX5_placeOf_1 : ey FX5 ini rt fin K0 K (decode cX5_placeOf 1) 1 L (.int x :: r) h cs ss = (2 < L.length ∧ K 2 (L.set 2 (some (.int x))) r h cs ss) := by
  rw [dX5_placeOf_1, ey_ok, nx_istore_n_5] <;> rfl
theorem qX5_placeOf_2 : ey FX5 ini rt fin K0 K (decode cX5_placeOf 2) 2 L (st) h cs ss = (lhas L 2 ∧ isI (lgt L 2) ∧ K 3 L (lgt L 2 :: st) h cs ss) := by
  rw [dX5_placeOf_2, ey_ok, nx_iload_n_1] <;> rfl
theorem qX5_placeOf_3 : ey FX5 ini rt fin K0 K (decode cX5_placeOf 3) 3 L (st) h cs ss = (lhas L 0 ∧ isRf (lgt L 0) ∧ K 4 L (lgt L 0 :: st) h cs ss) := by
  rw [dX5_placeOf_3, ey_ok, nx_aload_n_3] <;> rfl
theorem qX5_placeOf_4 : ey FX5 ini rt fin K0 K (decode cX5_placeOf 4) 4 L (.ref a :: r) h cs ss = (h.1 a = some (.inl 5) ∧ K 7 L (h.2 a 1 :: r) h cs ss) := by
  rw [dX5_placeOf_4, ey_ok, nx_getfield_54]
  exact and_l rfl
theorem qX5_placeOf_7 : ey FX5 ini rt fin K0 K (decode cX5_placeOf 7) 7 L (.ref a :: r) h cs ss = (isA (h.1 a) (fun _ _ => True) ∧ K 8 L (.int (nI (alen (h.1 a))) :: r) h cs ss) := by
  rw [dX5_placeOf_7, ey_ok, nx_arraylength_56]
theorem qX5_placeOf_8 : ey FX5 ini rt fin K0 K (decode cX5_placeOf 8) 8 L (.int y :: .int x :: r) h cs ss = (if y ≤ x then K 29 L r h cs ss else K 11 L r h cs ss) := by
  rw [dX5_placeOf_8, ey_ok, nx_if_icmp_39]
  exact and_l (by unfold jok; decide)
theorem qX5_placeOf_11 : ey FX5 ini rt fin K0 K (decode cX5_placeOf 11) 11 L (st) h cs ss = (lhas L 0 ∧ isRf (lgt L 0) ∧ K 12 L (lgt L 0 :: st) h cs ss) := by
  rw [dX5_placeOf_11, ey_ok, nx_aload_n_3] <;> rfl
theorem qX5_placeOf_12 : ey FX5 ini rt fin K0 K (decode cX5_placeOf 12) 12 L (.ref a :: r) h cs ss = (h.1 a = some (.inl 5) ∧ K 15 L (h.2 a 1 :: r) h cs ss) := by
  rw [dX5_placeOf_12, ey_ok, nx_getfield_54]
  exact and_l rfl
theorem qX5_placeOf_15 : ey FX5 ini rt fin K0 K (decode cX5_placeOf 15) 15 L (st) h cs ss = (lhas L 2 ∧ isI (lgt L 2) ∧ K 16 L (lgt L 2 :: st) h cs ss) := by
  rw [dX5_placeOf_15, ey_ok, nx_iload_n_1] <;> rfl
theorem qX5_placeOf_16 : ey FX5 ini rt fin K0 K (decode cX5_placeOf 16) 16 L (.int i :: .ref a :: r) h cs ss = (isA (h.1 a) (fun k m => 4 ≤ k ∧ vp_in i m) ∧ K 17 L (h.2 a i.toNatClampNeg :: r) h cs ss) := by
  rw [dX5_placeOf_16, ey_ok, nx_aaload_61]
theorem qX5_placeOf_17 : ey FX5 ini rt fin K0 K (decode cX5_placeOf 17) 17 L (st) h cs ss = (lhas L 1 ∧ isRf (lgt L 1) ∧ K 18 L (lgt L 1 :: st) h cs ss) := by
  rw [dX5_placeOf_17, ey_ok, nx_aload_n_3] <;> rfl
theorem qX5_placeOf_18rr : ey FX5 ini rt fin K0 K (decode cX5_placeOf 18) 18 L (.ref a :: .ref a2 :: r) h cs ss = (if ¬ (a2 = a) then K 23 L r h cs ss else K 21 L r h cs ss) := by
  rw [dX5_placeOf_18, ey_ok, nx_if_acmp_46]
  exact and_l (by unfold jok; decide)
theorem qX5_placeOf_18nn : ey FX5 ini rt fin K0 K (decode cX5_placeOf 18) 18 L (.null :: .null :: r) h cs ss = (K 21 L r h cs ss) := by
  rw [dX5_placeOf_18, ey_ok, nx_if_acmp_47]
  exact and_l (by unfold jok; decide)
theorem qX5_placeOf_18nr : ey FX5 ini rt fin K0 K (decode cX5_placeOf 18) 18 L (.null :: .ref a :: r) h cs ss = (K 23 L r h cs ss) := by
  rw [dX5_placeOf_18, ey_ok, nx_if_acmp_48]
  exact and_l (by unfold jok; decide)
theorem qX5_placeOf_18rn : ey FX5 ini rt fin K0 K (decode cX5_placeOf 18) 18 L (.ref a :: .null :: r) h cs ss = (K 23 L r h cs ss) := by
  rw [dX5_placeOf_18, ey_ok, nx_if_acmp_49]
  exact and_l (by unfold jok; decide)
theorem qX5_placeOf_21 : ey FX5 ini rt fin K0 K (decode cX5_placeOf 21) 21 L (st) h cs ss = (lhas L 2 ∧ isI (lgt L 2) ∧ K 22 L (lgt L 2 :: st) h cs ss) := by
  rw [dX5_placeOf_21, ey_ok, nx_iload_n_1] <;> rfl
theorem qX5_placeOf_22 : ey FX5 ini rt fin K0 K (decode cX5_placeOf 22) 22 L ([.int x]) h cs ss = (rokI rt x ∧ fin (some (.int x)) h cs ss) := by
  rw [dX5_placeOf_22, ey_ok, nx_ireturn_68]
theorem qX5_placeOf_23 : ey FX5 ini rt fin K0 K (decode cX5_placeOf 23) 23 L (st) h cs ss = (lhas L 2 ∧ isI (lgt L 2) ∧ K 26 (L.set 2 (some (inc (lgt L 2) 1))) st h cs ss) := by
  rw [dX5_placeOf_23, ey_ok, nx_iinc_10] <;> rfl
theorem qX5_placeOf_26 : ey FX5 ini rt fin K0 K (decode cX5_placeOf 26) 26 L (st) h cs ss = (K 2 L st h cs ss) := by
  rw [dX5_placeOf_26, ey_ok, nx_goto_29]
  exact and_l (by unfold jok; decide)
theorem qX5_placeOf_29 : ey FX5 ini rt fin K0 K (decode cX5_placeOf 29) 29 L (st) h cs ss = (K 30 L (.int (-1) :: st) h cs ss) := by
  rw [dX5_placeOf_29, ey_ok, nx_iconst_11] <;> rfl
theorem qX5_placeOf_30 : ey FX5 ini rt fin K0 K (decode cX5_placeOf 30) 30 L ([.int x]) h cs ss = (rokI rt x ∧ fin (some (.int x)) h cs ss) := by
  rw [dX5_placeOf_30, ey_ok, nx_ireturn_68]
theorem qX5_canTake_0 : ey FX5 ini rt fin K0 K (decode cX5_canTake 0) 0 L (st) h cs ss = (lhas L 0 ∧ isRf (lgt L 0) ∧ K 1 L (lgt L 0 :: st) h cs ss) := by
  rw [dX5_canTake_0, ey_ok, nx_aload_n_3] <;> rfl
theorem qX5_canTake_1 : ey FX5 ini rt fin K0 K (decode cX5_canTake 1) 1 L (.ref a :: r) h cs ss = (h.1 a = some (.inl 5) ∧ K 4 L (h.2 a 2 :: r) h cs ss) := by
  rw [dX5_canTake_1, ey_ok, nx_getfield_54]
  exact and_l rfl
theorem qX5_canTake_4 : ey FX5 ini rt fin K0 K (decode cX5_canTake 4) 4 L (st) h cs ss = (lhas L 1 ∧ isRf (lgt L 1) ∧ K 5 L (lgt L 1 :: st) h cs ss) := by
  rw [dX5_canTake_4, ey_ok, nx_aload_n_3] <;> rfl
theorem qX5_canTake_5 : ey FX5 ini rt fin K0 K (decode cX5_canTake 5) 5 L (.ref a :: r) h cs ss = (h.1 a = some (.inl 4) ∧ K 8 L (h.2 a 1 :: r) h cs ss) := by
  rw [dX5_canTake_5, ey_ok, nx_getfield_54]
  exact and_l rfl
theorem qX5_canTake_8 : ey FX5 ini rt fin K0 K (decode cX5_canTake 8) 8 L (.int y :: .int x :: r) h cs ss = (K 9 L (.int (x >>> (y &&& 31)) :: r) h cs ss) := by
  rw [dX5_canTake_8, ey_ok, nx_ishr_21]
theorem qX5_canTake_9 : ey FX5 ini rt fin K0 K (decode cX5_canTake 9) 9 L (st) h cs ss = (K 10 L (.int 1 :: st) h cs ss) := by
  rw [dX5_canTake_9, ey_ok, nx_iconst_11] <;> rfl
theorem qX5_canTake_10 : ey FX5 ini rt fin K0 K (decode cX5_canTake 10) 10 L (.int y :: .int x :: r) h cs ss = (K 11 L (.int (x &&& y) :: r) h cs ss) := by
  rw [dX5_canTake_10, ey_ok, nx_iand_19]
theorem qX5_canTake_11 : ey FX5 ini rt fin K0 K (decode cX5_canTake 11) 11 L (.int x :: r) h cs ss = (if ¬ x = 0 then K 16 L r h cs ss else K 14 L r h cs ss) := by
  rw [dX5_canTake_11, ey_ok, nx_ifond_31]
  exact and_l (by unfold jok; decide)
theorem qX5_canTake_14 : ey FX5 ini rt fin K0 K (decode cX5_canTake 14) 14 L (st) h cs ss = (K 15 L (.int 0 :: st) h cs ss) := by
  rw [dX5_canTake_14, ey_ok, nx_iconst_11] <;> rfl
theorem qX5_canTake_15 : ey FX5 ini rt fin K0 K (decode cX5_canTake 15) 15 L ([.int x]) h cs ss = (rokI rt x ∧ fin (some (.int x)) h cs ss) := by
  rw [dX5_canTake_15, ey_ok, nx_ireturn_68]
theorem qX5_canTake_16 : ey FX5 ini rt fin K0 K (decode cX5_canTake 16) 16 L (st) h cs ss = (lhas L 0 ∧ isRf (lgt L 0) ∧ K 17 L (lgt L 0 :: st) h cs ss) := by
  rw [dX5_canTake_16, ey_ok, nx_aload_n_3] <;> rfl
theorem qX5_canTake_17 : ey FX5 ini rt fin K0 K (decode cX5_canTake 17) 17 L (.ref a :: r) h cs ss = (h.1 a = some (.inl 5) ∧ K 20 L (h.2 a 1 :: r) h cs ss) := by
  rw [dX5_canTake_17, ey_ok, nx_getfield_54]
  exact and_l rfl
theorem qX5_canTake_20r : ey FX5 ini rt fin K0 K (decode cX5_canTake 20) 20 L (.ref a :: r) h cs ss = (3 < L.length ∧ K 21 (L.set 3 (some (.ref a))) r h cs ss) := by
  rw [dX5_canTake_20, ey_ok, nx_astore_n_8] <;> rfl
theorem qX5_canTake_20n : ey FX5 ini rt fin K0 K (decode cX5_canTake 20) 20 L (.null :: r) h cs ss = (3 < L.length ∧ K 21 (L.set 3 (some .null)) r h cs ss) := by
  rw [dX5_canTake_20, ey_ok, nx_astore_n_9] <;> rfl
theorem qX5_canTake_21 : ey FX5 ini rt fin K0 K (decode cX5_canTake 21) 21 L (st) h cs ss = (lhas L 3 ∧ isRf (lgt L 3) ∧ K 22 L (lgt L 3 :: st) h cs ss) := by
  rw [dX5_canTake_21, ey_ok, nx_aload_n_3] <;> rfl
theorem qX5_canTake_22 : ey FX5 ini rt fin K0 K (decode cX5_canTake 22) 22 L (.ref a :: r) h cs ss = (isA (h.1 a) (fun _ _ => True) ∧ K 23 L (.int (nI (alen (h.1 a))) :: r) h cs ss) := by
  rw [dX5_canTake_22, ey_ok, nx_arraylength_56]
theorem qX5_canTake_23 : ey FX5 ini rt fin K0 K (decode cX5_canTake 23) 23 L (.int x :: r) h cs ss = (4 < L.length ∧ K 25 (L.set 4 (some (.int x))) r h cs ss) := by
  rw [dX5_canTake_23, ey_ok, nx_istore_4] <;> rfl
theorem qX5_canTake_25 : ey FX5 ini rt fin K0 K (decode cX5_canTake 25) 25 L (st) h cs ss = (K 26 L (.int 0 :: st) h cs ss) := by
  rw [dX5_canTake_25, ey_ok, nx_iconst_11] <;> rfl
theorem qX5_canTake_26 : ey FX5 ini rt fin K0 K (decode cX5_canTake 26) 26 L (.int x :: r) h cs ss = (5 < L.length ∧ K 28 (L.set 5 (some (.int x))) r h cs ss) := by
  rw [dX5_canTake_26, ey_ok, nx_istore_4] <;> rfl
theorem qX5_canTake_28 : ey FX5 ini rt fin K0 K (decode cX5_canTake 28) 28 L (st) h cs ss = (lhas L 5 ∧ isI (lgt L 5) ∧ K 30 L (lgt L 5 :: st) h cs ss) := by
  rw [dX5_canTake_28, ey_ok, nx_iload_0] <;> rfl
theorem qX5_canTake_30 : ey FX5 ini rt fin K0 K (decode cX5_canTake 30) 30 L (st) h cs ss = (lhas L 4 ∧ isI (lgt L 4) ∧ K 32 L (lgt L 4 :: st) h cs ss) := by
  rw [dX5_canTake_30, ey_ok, nx_iload_0] <;> rfl
theorem qX5_canTake_32 : ey FX5 ini rt fin K0 K (decode cX5_canTake 32) 32 L (.int y :: .int x :: r) h cs ss = (if y ≤ x then K 75 L r h cs ss else K 35 L r h cs ss) := by
  rw [dX5_canTake_32, ey_ok, nx_if_icmp_39]
  exact and_l (by unfold jok; decide)
theorem qX5_canTake_35 : ey FX5 ini rt fin K0 K (decode cX5_canTake 35) 35 L (st) h cs ss = (lhas L 3 ∧ isRf (lgt L 3) ∧ K 36 L (lgt L 3 :: st) h cs ss) := by
  rw [dX5_canTake_35, ey_ok, nx_aload_n_3] <;> rfl
theorem qX5_canTake_36 : ey FX5 ini rt fin K0 K (decode cX5_canTake 36) 36 L (st) h cs ss = (lhas L 5 ∧ isI (lgt L 5) ∧ K 38 L (lgt L 5 :: st) h cs ss) := by
  rw [dX5_canTake_36, ey_ok, nx_iload_0] <;> rfl
theorem qX5_canTake_38 : ey FX5 ini rt fin K0 K (decode cX5_canTake 38) 38 L (.int i :: .ref a :: r) h cs ss = (isA (h.1 a) (fun k m => 4 ≤ k ∧ vp_in i m) ∧ K 39 L (h.2 a i.toNatClampNeg :: r) h cs ss) := by
  rw [dX5_canTake_38, ey_ok, nx_aaload_61]
theorem qX5_canTake_39r : ey FX5 ini rt fin K0 K (decode cX5_canTake 39) 39 L (.ref a :: r) h cs ss = (6 < L.length ∧ K 41 (L.set 6 (some (.ref a))) r h cs ss) := by
  rw [dX5_canTake_39, ey_ok, nx_astore_6] <;> rfl
theorem qX5_canTake_39n : ey FX5 ini rt fin K0 K (decode cX5_canTake 39) 39 L (.null :: r) h cs ss = (6 < L.length ∧ K 41 (L.set 6 (some .null)) r h cs ss) := by
  rw [dX5_canTake_39, ey_ok, nx_astore_7] <;> rfl
theorem qX5_canTake_41 : ey FX5 ini rt fin K0 K (decode cX5_canTake 41) 41 L (st) h cs ss = (lhas L 6 ∧ isRf (lgt L 6) ∧ K 43 L (lgt L 6 :: st) h cs ss) := by
  rw [dX5_canTake_41, ey_ok, nx_aload_2] <;> rfl
theorem qX5_canTake_43n : ey FX5 ini rt fin K0 K (decode cX5_canTake 43) 43 L (.null :: r) h cs ss = (K 69 L r h cs ss) := by
  rw [dX5_canTake_43, ey_ok, nx_ifnull_50]
  exact and_l (by unfold jok; decide)
theorem qX5_canTake_43r : ey FX5 ini rt fin K0 K (decode cX5_canTake 43) 43 L (.ref a :: r) h cs ss = (K 46 L r h cs ss) := by
  rw [dX5_canTake_43, ey_ok, nx_ifnull_51]
  exact and_l (by unfold jok; decide)
theorem qX5_canTake_46 : ey FX5 ini rt fin K0 K (decode cX5_canTake 46) 46 L (st) h cs ss = (lhas L 6 ∧ isRf (lgt L 6) ∧ K 48 L (lgt L 6 :: st) h cs ss) := by
  rw [dX5_canTake_46, ey_ok, nx_aload_2] <;> rfl
theorem qX5_canTake_48 : ey FX5 ini rt fin K0 K (decode cX5_canTake 48) 48 L (st) h cs ss = (lhas L 1 ∧ isRf (lgt L 1) ∧ K 49 L (lgt L 1 :: st) h cs ss) := by
  rw [dX5_canTake_48, ey_ok, nx_aload_n_3] <;> rfl
theorem qX5_canTake_49rr : ey FX5 ini rt fin K0 K (decode cX5_canTake 49) 49 L (.ref a :: .ref a2 :: r) h cs ss = (if a2 = a then K 69 L r h cs ss else K 52 L r h cs ss) := by
  rw [dX5_canTake_49, ey_ok, nx_if_acmp_42]
  exact and_l (by unfold jok; decide)
theorem qX5_canTake_49nn : ey FX5 ini rt fin K0 K (decode cX5_canTake 49) 49 L (.null :: .null :: r) h cs ss = (K 69 L r h cs ss) := by
  rw [dX5_canTake_49, ey_ok, nx_if_acmp_43]
  exact and_l (by unfold jok; decide)
theorem qX5_canTake_49nr : ey FX5 ini rt fin K0 K (decode cX5_canTake 49) 49 L (.null :: .ref a :: r) h cs ss = (K 52 L r h cs ss) := by
  rw [dX5_canTake_49, ey_ok, nx_if_acmp_44]
  exact and_l (by unfold jok; decide)
theorem qX5_canTake_49rn : ey FX5 ini rt fin K0 K (decode cX5_canTake 49) 49 L (.ref a :: .null :: r) h cs ss = (K 52 L r h cs ss) := by
  rw [dX5_canTake_49, ey_ok, nx_if_acmp_45]
  exact and_l (by unfold jok; decide)
theorem qX5_canTake_52 : ey FX5 ini rt fin K0 K (decode cX5_canTake 52) 52 L (st) h cs ss = (lhas L 6 ∧ isRf (lgt L 6) ∧ K 54 L (lgt L 6 :: st) h cs ss) := by
  rw [dX5_canTake_52, ey_ok, nx_aload_2] <;> rfl
theorem qX5_canTake_54 : ey FX5 ini rt fin K0 K (decode cX5_canTake 54) 54 L (st) h cs ss = (lhas L 2 ∧ isRf (lgt L 2) ∧ K 55 L (lgt L 2 :: st) h cs ss) := by
  rw [dX5_canTake_54, ey_ok, nx_aload_n_3] <;> rfl
theorem qX5_canTake_55rr : ey FX5 ini rt fin K0 K (decode cX5_canTake 55) 55 L (.ref a :: .ref a2 :: r) h cs ss = (if a2 = a then K 69 L r h cs ss else K 58 L r h cs ss) := by
  rw [dX5_canTake_55, ey_ok, nx_if_acmp_42]
  exact and_l (by unfold jok; decide)
theorem qX5_canTake_55nn : ey FX5 ini rt fin K0 K (decode cX5_canTake 55) 55 L (.null :: .null :: r) h cs ss = (K 69 L r h cs ss) := by
  rw [dX5_canTake_55, ey_ok, nx_if_acmp_43]
  exact and_l (by unfold jok; decide)
theorem qX5_canTake_55nr : ey FX5 ini rt fin K0 K (decode cX5_canTake 55) 55 L (.null :: .ref a :: r) h cs ss = (K 58 L r h cs ss) := by
  rw [dX5_canTake_55, ey_ok, nx_if_acmp_44]
  exact and_l (by unfold jok; decide)
theorem qX5_canTake_55rn : ey FX5 ini rt fin K0 K (decode cX5_canTake 55) 55 L (.ref a :: .null :: r) h cs ss = (K 58 L r h cs ss) := by
  rw [dX5_canTake_55, ey_ok, nx_if_acmp_45]
  exact and_l (by unfold jok; decide)
theorem qX5_canTake_58 : ey FX5 ini rt fin K0 K (decode cX5_canTake 58) 58 L (st) h cs ss = (lhas L 6 ∧ isRf (lgt L 6) ∧ K 60 L (lgt L 6 :: st) h cs ss) := by
  rw [dX5_canTake_58, ey_ok, nx_aload_2] <;> rfl
theorem qX5_canTake_60 : ey FX5 ini rt fin K0 K (decode cX5_canTake 60) 60 L (st) h cs ss = (lhas L 1 ∧ isRf (lgt L 1) ∧ K 61 L (lgt L 1 :: st) h cs ss) := by
  rw [dX5_canTake_60, ey_ok, nx_aload_n_3] <;> rfl
theorem qX5_canTake_61 : ey FX5 ini rt fin K0 K (decode cX5_canTake 61) 61 L (st) h cs ss = (K0 61 L st h cs ss) := by
  rw [dX5_canTake_61, ey_ok, nx_invokevirtual_72]
theorem qX5_canTake_64 : ey FX5 ini rt fin K0 K (decode cX5_canTake 64) 64 L (.int x :: r) h cs ss = (if x = 0 then K 69 L r h cs ss else K 67 L r h cs ss) := by
  rw [dX5_canTake_64, ey_ok, nx_ifond_30]
  exact and_l (by unfold jok; decide)
theorem qX5_canTake_67 : ey FX5 ini rt fin K0 K (decode cX5_canTake 67) 67 L (st) h cs ss = (K 68 L (.int 0 :: st) h cs ss) := by
  rw [dX5_canTake_67, ey_ok, nx_iconst_11] <;> rfl
theorem qX5_canTake_68 : ey FX5 ini rt fin K0 K (decode cX5_canTake 68) 68 L ([.int x]) h cs ss = (rokI rt x ∧ fin (some (.int x)) h cs ss) := by
  rw [dX5_canTake_68, ey_ok, nx_ireturn_68]
theorem qX5_canTake_69 : ey FX5 ini rt fin K0 K (decode cX5_canTake 69) 69 L (st) h cs ss = (lhas L 5 ∧ isI (lgt L 5) ∧ K 72 (L.set 5 (some (inc (lgt L 5) 1))) st h cs ss) := by
  rw [dX5_canTake_69, ey_ok, nx_iinc_10] <;> rfl
theorem qX5_canTake_72 : ey FX5 ini rt fin K0 K (decode cX5_canTake 72) 72 L (st) h cs ss = (K 28 L st h cs ss) := by
  rw [dX5_canTake_72, ey_ok, nx_goto_29]
  exact and_l (by unfold jok; decide)
theorem qX5_canTake_75 : ey FX5 ini rt fin K0 K (decode cX5_canTake 75) 75 L (st) h cs ss = (K 76 L (.int 1 :: st) h cs ss) := by
  rw [dX5_canTake_75, ey_ok, nx_iconst_11] <;> rfl
theorem qX5_canTake_76 : ey FX5 ini rt fin K0 K (decode cX5_canTake 76) 76 L ([.int x]) h cs ss = (rokI rt x ∧ fin (some (.int x)) h cs ss) := by
  rw [dX5_canTake_76, ey_ok, nx_ireturn_68]
theorem qX5_restAhead_0 : ey FX5 ini rt fin K0 K (decode cX5_restAhead 0) 0 L (st) h cs ss = (lhas L 0 ∧ isRf (lgt L 0) ∧ K 1 L (lgt L 0 :: st) h cs ss) := by
  rw [dX5_restAhead_0, ey_ok, nx_aload_n_3] <;> rfl
theorem qX5_restAhead_1 : ey FX5 ini rt fin K0 K (decode cX5_restAhead 1) 1 L (st) h cs ss = (lhas L 0 ∧ isRf (lgt L 0) ∧ K 2 L (lgt L 0 :: st) h cs ss) := by
  rw [dX5_restAhead_1, ey_ok, nx_aload_n_3] <;> rfl
theorem qX5_restAhead_2 : ey FX5 ini rt fin K0 K (decode cX5_restAhead 2) 2 L (st) h cs ss = (lhas L 1 ∧ isRf (lgt L 1) ∧ K 3 L (lgt L 1 :: st) h cs ss) := by
  rw [dX5_restAhead_2, ey_ok, nx_aload_n_3] <;> rfl
theorem qX5_restAhead_3 : ey FX5 ini rt fin K0 K (decode cX5_restAhead 3) 3 L (st) h cs ss = (K0 3 L st h cs ss) := by
  rw [dX5_restAhead_3, ey_ok, nx_invokevirtual_72]
theorem qX5_restAhead_6 : ey FX5 ini rt fin K0 K (decode cX5_restAhead 6) 6 L (st) h cs ss = (K 7 L (.int 1 :: st) h cs ss) := by
  rw [dX5_restAhead_6, ey_ok, nx_iconst_11] <;> rfl
theorem qX5_restAhead_7 : ey FX5 ini rt fin K0 K (decode cX5_restAhead 7) 7 L (.int y :: .int x :: r) h cs ss = (K 8 L (.int (x - y) :: r) h cs ss) := by
  rw [dX5_restAhead_7, ey_ok, nx_isub_17]
theorem qX5_restAhead_8 : ey FX5 ini rt fin K0 K (decode cX5_restAhead 8) 8 L (st) h cs ss = (K0 8 L st h cs ss) := by
  rw [dX5_restAhead_8, ey_ok, nx_invokevirtual_72]
theorem qX5_restAhead_11r : ey FX5 ini rt fin K0 K (decode cX5_restAhead 11) 11 L (.ref a :: r) h cs ss = (2 < L.length ∧ K 12 (L.set 2 (some (.ref a))) r h cs ss) := by
  rw [dX5_restAhead_11, ey_ok, nx_astore_n_8] <;> rfl
theorem qX5_restAhead_11n : ey FX5 ini rt fin K0 K (decode cX5_restAhead 11) 11 L (.null :: r) h cs ss = (2 < L.length ∧ K 12 (L.set 2 (some .null)) r h cs ss) := by
  rw [dX5_restAhead_11, ey_ok, nx_astore_n_9] <;> rfl
theorem qX5_restAhead_12 : ey FX5 ini rt fin K0 K (decode cX5_restAhead 12) 12 L (st) h cs ss = (lhas L 2 ∧ isRf (lgt L 2) ∧ K 13 L (lgt L 2 :: st) h cs ss) := by
  rw [dX5_restAhead_12, ey_ok, nx_aload_n_3] <;> rfl
theorem qX5_restAhead_13n : ey FX5 ini rt fin K0 K (decode cX5_restAhead 13) 13 L (.null :: r) h cs ss = (K 16 L r h cs ss) := by
  rw [dX5_restAhead_13, ey_ok, nx_ifnonnull_52]
  exact and_l (by unfold jok; decide)
theorem qX5_restAhead_13r : ey FX5 ini rt fin K0 K (decode cX5_restAhead 13) 13 L (.ref a :: r) h cs ss = (K 22 L r h cs ss) := by
  rw [dX5_restAhead_13, ey_ok, nx_ifnonnull_53]
  exact and_l (by unfold jok; decide)
theorem qX5_restAhead_16 : ey FX5 ini rt fin K0 K (decode cX5_restAhead 16) 16 L (st) h cs ss = (K 19 L (.int 10000 :: st) h cs ss) := by
  rw [dX5_restAhead_16, ey_ok, nx_sipush_13] <;> rfl
theorem qX5_restAhead_19 : ey FX5 ini rt fin K0 K (decode cX5_restAhead 19) 19 L (st) h cs ss = (K 31 L st h cs ss) := by
  rw [dX5_restAhead_19, ey_ok, nx_goto_29]
  exact and_l (by unfold jok; decide)
theorem qX5_restAhead_22 : ey FX5 ini rt fin K0 K (decode cX5_restAhead 22) 22 L (st) h cs ss = (lhas L 1 ∧ isRf (lgt L 1) ∧ K 23 L (lgt L 1 :: st) h cs ss) := by
  rw [dX5_restAhead_22, ey_ok, nx_aload_n_3] <;> rfl
theorem qX5_restAhead_23 : ey FX5 ini rt fin K0 K (decode cX5_restAhead 23) 23 L (.ref a :: r) h cs ss = (h.1 a = some (.inl 4) ∧ K 26 L (h.2 a 4 :: r) h cs ss) := by
  rw [dX5_restAhead_23, ey_ok, nx_getfield_54]
  exact and_l rfl
theorem qX5_restAhead_26 : ey FX5 ini rt fin K0 K (decode cX5_restAhead 26) 26 L (st) h cs ss = (lhas L 2 ∧ isRf (lgt L 2) ∧ K 27 L (lgt L 2 :: st) h cs ss) := by
  rw [dX5_restAhead_26, ey_ok, nx_aload_n_3] <;> rfl
theorem qX5_restAhead_27 : ey FX5 ini rt fin K0 K (decode cX5_restAhead 27) 27 L (.ref a :: r) h cs ss = (h.1 a = some (.inl 4) ∧ K 30 L (h.2 a 5 :: r) h cs ss) := by
  rw [dX5_restAhead_27, ey_ok, nx_getfield_54]
  exact and_l rfl
theorem qX5_restAhead_30 : ey FX5 ini rt fin K0 K (decode cX5_restAhead 30) 30 L (.int y :: .int x :: r) h cs ss = (K 31 L (.int (x - y) :: r) h cs ss) := by
  rw [dX5_restAhead_30, ey_ok, nx_isub_17]
theorem qX5_restAhead_31 : ey FX5 ini rt fin K0 K (decode cX5_restAhead 31) 31 L ([.int x]) h cs ss = (rokI rt x ∧ fin (some (.int x)) h cs ss) := by
  rw [dX5_restAhead_31, ey_ok, nx_ireturn_68]
theorem qX5_weekHours_0 : ey FX5 ini rt fin K0 K (decode cX5_weekHours 0) 0 L (st) h cs ss = (K 1 L (.int 0 :: st) h cs ss) := by
  rw [dX5_weekHours_0, ey_ok, nx_iconst_11] <;> rfl
theorem qX5_weekHours_1 : ey FX5 ini rt fin K0 K (decode cX5_weekHours 1) 1 L (.int x :: r) h cs ss = (2 < L.length ∧ K 2 (L.set 2 (some (.int x))) r h cs ss) := by
  rw [dX5_weekHours_1, ey_ok, nx_istore_n_5] <;> rfl
theorem qX5_weekHours_2 : ey FX5 ini rt fin K0 K (decode cX5_weekHours 2) 2 L (st) h cs ss = (lhas L 0 ∧ isRf (lgt L 0) ∧ K 3 L (lgt L 0 :: st) h cs ss) := by
  rw [dX5_weekHours_2, ey_ok, nx_aload_n_3] <;> rfl
theorem qX5_weekHours_3 : ey FX5 ini rt fin K0 K (decode cX5_weekHours 3) 3 L (st) h cs ss = (lhas L 1 ∧ isRf (lgt L 1) ∧ K 4 L (lgt L 1 :: st) h cs ss) := by
  rw [dX5_weekHours_3, ey_ok, nx_aload_n_3] <;> rfl
theorem qX5_weekHours_4 : ey FX5 ini rt fin K0 K (decode cX5_weekHours 4) 4 L (st) h cs ss = (K0 4 L st h cs ss) := by
  rw [dX5_weekHours_4, ey_ok, nx_invokevirtual_72]
theorem qX5_weekHours_7 : ey FX5 ini rt fin K0 K (decode cX5_weekHours 7) 7 L (.int x :: r) h cs ss = (3 < L.length ∧ K 8 (L.set 3 (some (.int x))) r h cs ss) := by
  rw [dX5_weekHours_7, ey_ok, nx_istore_n_5] <;> rfl
theorem qX5_weekHours_8 : ey FX5 ini rt fin K0 K (decode cX5_weekHours 8) 8 L (st) h cs ss = (lhas L 3 ∧ isI (lgt L 3) ∧ K 9 L (lgt L 3 :: st) h cs ss) := by
  rw [dX5_weekHours_8, ey_ok, nx_iload_n_1] <;> rfl
theorem qX5_weekHours_9 : ey FX5 ini rt fin K0 K (decode cX5_weekHours 9) 9 L (.int x :: r) h cs ss = (if x < 0 then K 53 L r h cs ss else K 12 L r h cs ss) := by
  rw [dX5_weekHours_9, ey_ok, nx_ifond_32]
  exact and_l (by unfold jok; decide)
theorem qX5_weekHours_12 : ey FX5 ini rt fin K0 K (decode cX5_weekHours 12) 12 L (st) h cs ss = (lhas L 0 ∧ isRf (lgt L 0) ∧ K 13 L (lgt L 0 :: st) h cs ss) := by
  rw [dX5_weekHours_12, ey_ok, nx_aload_n_3] <;> rfl
theorem qX5_weekHours_13 : ey FX5 ini rt fin K0 K (decode cX5_weekHours 13) 13 L (st) h cs ss = (lhas L 3 ∧ isI (lgt L 3) ∧ K 14 L (lgt L 3 :: st) h cs ss) := by
  rw [dX5_weekHours_13, ey_ok, nx_iload_n_1] <;> rfl
theorem qX5_weekHours_14 : ey FX5 ini rt fin K0 K (decode cX5_weekHours 14) 14 L (st) h cs ss = (K0 14 L st h cs ss) := by
  rw [dX5_weekHours_14, ey_ok, nx_invokevirtual_72]
theorem qX5_weekHours_17r : ey FX5 ini rt fin K0 K (decode cX5_weekHours 17) 17 L (.ref a :: r) h cs ss = (4 < L.length ∧ K 19 (L.set 4 (some (.ref a))) r h cs ss) := by
  rw [dX5_weekHours_17, ey_ok, nx_astore_6] <;> rfl
theorem qX5_weekHours_17n : ey FX5 ini rt fin K0 K (decode cX5_weekHours 17) 17 L (.null :: r) h cs ss = (4 < L.length ∧ K 19 (L.set 4 (some .null)) r h cs ss) := by
  rw [dX5_weekHours_17, ey_ok, nx_astore_7] <;> rfl
theorem qX5_weekHours_19 : ey FX5 ini rt fin K0 K (decode cX5_weekHours 19) 19 L (st) h cs ss = (lhas L 4 ∧ isRf (lgt L 4) ∧ K 21 L (lgt L 4 :: st) h cs ss) := by
  rw [dX5_weekHours_19, ey_ok, nx_aload_2] <;> rfl
theorem qX5_weekHours_21n : ey FX5 ini rt fin K0 K (decode cX5_weekHours 21) 21 L (.null :: r) h cs ss = (K 53 L r h cs ss) := by
  rw [dX5_weekHours_21, ey_ok, nx_ifnull_50]
  exact and_l (by unfold jok; decide)
theorem qX5_weekHours_21r : ey FX5 ini rt fin K0 K (decode cX5_weekHours 21) 21 L (.ref a :: r) h cs ss = (K 24 L r h cs ss) := by
  rw [dX5_weekHours_21, ey_ok, nx_ifnull_51]
  exact and_l (by unfold jok; decide)
theorem qX5_weekHours_24 : ey FX5 ini rt fin K0 K (decode cX5_weekHours 24) 24 L (st) h cs ss = (lhas L 4 ∧ isRf (lgt L 4) ∧ K 26 L (lgt L 4 :: st) h cs ss) := by
  rw [dX5_weekHours_24, ey_ok, nx_aload_2] <;> rfl
theorem qX5_weekHours_26 : ey FX5 ini rt fin K0 K (decode cX5_weekHours 26) 26 L (st) h cs ss = (K0 26 L st h cs ss) := by
  rw [dX5_weekHours_26, ey_ok, nx_invokevirtual_72]
theorem qX5_weekHours_29 : ey FX5 ini rt fin K0 K (decode cX5_weekHours 29) 29 L (st) h cs ss = (lhas L 1 ∧ isRf (lgt L 1) ∧ K 30 L (lgt L 1 :: st) h cs ss) := by
  rw [dX5_weekHours_29, ey_ok, nx_aload_n_3] <;> rfl
theorem qX5_weekHours_30 : ey FX5 ini rt fin K0 K (decode cX5_weekHours 30) 30 L (st) h cs ss = (K0 30 L st h cs ss) := by
  rw [dX5_weekHours_30, ey_ok, nx_invokevirtual_72]
theorem qX5_weekHours_33 : ey FX5 ini rt fin K0 K (decode cX5_weekHours 33) 33 L (.int y :: .int x :: r) h cs ss = (if x = y then K 39 L r h cs ss else K 36 L r h cs ss) := by
  rw [dX5_weekHours_33, ey_ok, nx_if_icmp_36]
  exact and_l (by unfold jok; decide)
theorem qX5_weekHours_36 : ey FX5 ini rt fin K0 K (decode cX5_weekHours 36) 36 L (st) h cs ss = (K 53 L st h cs ss) := by
  rw [dX5_weekHours_36, ey_ok, nx_goto_29]
  exact and_l (by unfold jok; decide)
theorem qX5_weekHours_39 : ey FX5 ini rt fin K0 K (decode cX5_weekHours 39) 39 L (st) h cs ss = (lhas L 2 ∧ isI (lgt L 2) ∧ K 40 L (lgt L 2 :: st) h cs ss) := by
  rw [dX5_weekHours_39, ey_ok, nx_iload_n_1] <;> rfl
theorem qX5_weekHours_40 : ey FX5 ini rt fin K0 K (decode cX5_weekHours 40) 40 L (st) h cs ss = (lhas L 4 ∧ isRf (lgt L 4) ∧ K 42 L (lgt L 4 :: st) h cs ss) := by
  rw [dX5_weekHours_40, ey_ok, nx_aload_2] <;> rfl
theorem qX5_weekHours_42 : ey FX5 ini rt fin K0 K (decode cX5_weekHours 42) 42 L (st) h cs ss = (K0 42 L st h cs ss) := by
  rw [dX5_weekHours_42, ey_ok, nx_invokevirtual_72]
theorem qX5_weekHours_45 : ey FX5 ini rt fin K0 K (decode cX5_weekHours 45) 45 L (.int y :: .int x :: r) h cs ss = (K 46 L (.int (x + y) :: r) h cs ss) := by
  rw [dX5_weekHours_45, ey_ok, nx_iadd_16]
theorem qX5_weekHours_46 : ey FX5 ini rt fin K0 K (decode cX5_weekHours 46) 46 L (.int x :: r) h cs ss = (2 < L.length ∧ K 47 (L.set 2 (some (.int x))) r h cs ss) := by
  rw [dX5_weekHours_46, ey_ok, nx_istore_n_5] <;> rfl
theorem qX5_weekHours_47 : ey FX5 ini rt fin K0 K (decode cX5_weekHours 47) 47 L (st) h cs ss = (lhas L 3 ∧ isI (lgt L 3) ∧ K 50 (L.set 3 (some (inc (lgt L 3) (-1)))) st h cs ss) := by
  rw [dX5_weekHours_47, ey_ok, nx_iinc_10] <;> rfl
theorem qX5_weekHours_50 : ey FX5 ini rt fin K0 K (decode cX5_weekHours 50) 50 L (st) h cs ss = (K 8 L st h cs ss) := by
  rw [dX5_weekHours_50, ey_ok, nx_goto_29]
  exact and_l (by unfold jok; decide)
theorem qX5_weekHours_53 : ey FX5 ini rt fin K0 K (decode cX5_weekHours 53) 53 L (st) h cs ss = (lhas L 2 ∧ isI (lgt L 2) ∧ K 54 L (lgt L 2 :: st) h cs ss) := by
  rw [dX5_weekHours_53, ey_ok, nx_iload_n_1] <;> rfl
theorem qX5_weekHours_54 : ey FX5 ini rt fin K0 K (decode cX5_weekHours 54) 54 L ([.int x]) h cs ss = (rokI rt x ∧ fin (some (.int x)) h cs ss) := by
  rw [dX5_weekHours_54, ey_ok, nx_ireturn_68]
theorem qX5_daysAhead_0 : ey FX5 ini rt fin K0 K (decode cX5_daysAhead 0) 0 L (st) h cs ss = (lhas L 1 ∧ isRf (lgt L 1) ∧ K 1 L (lgt L 1 :: st) h cs ss) := by
  rw [dX5_daysAhead_0, ey_ok, nx_aload_n_3] <;> rfl
theorem qX5_daysAhead_1 : ey FX5 ini rt fin K0 K (decode cX5_daysAhead 1) 1 L (st) h cs ss = (K0 1 L st h cs ss) := by
  rw [dX5_daysAhead_1, ey_ok, nx_invokevirtual_72]
theorem qX5_daysAhead_4 : ey FX5 ini rt fin K0 K (decode cX5_daysAhead 4) 4 L (.int x :: r) h cs ss = (2 < L.length ∧ K 5 (L.set 2 (some (.int x))) r h cs ss) := by
  rw [dX5_daysAhead_4, ey_ok, nx_istore_n_5] <;> rfl
theorem qX5_daysAhead_5 : ey FX5 ini rt fin K0 K (decode cX5_daysAhead 5) 5 L (st) h cs ss = (lhas L 0 ∧ isRf (lgt L 0) ∧ K 6 L (lgt L 0 :: st) h cs ss) := by
  rw [dX5_daysAhead_5, ey_ok, nx_aload_n_3] <;> rfl
theorem qX5_daysAhead_6 : ey FX5 ini rt fin K0 K (decode cX5_daysAhead 6) 6 L (st) h cs ss = (lhas L 1 ∧ isRf (lgt L 1) ∧ K 7 L (lgt L 1 :: st) h cs ss) := by
  rw [dX5_daysAhead_6, ey_ok, nx_aload_n_3] <;> rfl
theorem qX5_daysAhead_7 : ey FX5 ini rt fin K0 K (decode cX5_daysAhead 7) 7 L (st) h cs ss = (K0 7 L st h cs ss) := by
  rw [dX5_daysAhead_7, ey_ok, nx_invokevirtual_72]
theorem qX5_daysAhead_10 : ey FX5 ini rt fin K0 K (decode cX5_daysAhead 10) 10 L (st) h cs ss = (K 11 L (.int 1 :: st) h cs ss) := by
  rw [dX5_daysAhead_10, ey_ok, nx_iconst_11] <;> rfl
theorem qX5_daysAhead_11 : ey FX5 ini rt fin K0 K (decode cX5_daysAhead 11) 11 L (.int y :: .int x :: r) h cs ss = (K 12 L (.int (x - y) :: r) h cs ss) := by
  rw [dX5_daysAhead_11, ey_ok, nx_isub_17]
theorem qX5_daysAhead_12 : ey FX5 ini rt fin K0 K (decode cX5_daysAhead 12) 12 L (.int x :: r) h cs ss = (3 < L.length ∧ K 13 (L.set 3 (some (.int x))) r h cs ss) := by
  rw [dX5_daysAhead_12, ey_ok, nx_istore_n_5] <;> rfl
theorem qX5_daysAhead_13 : ey FX5 ini rt fin K0 K (decode cX5_daysAhead 13) 13 L (st) h cs ss = (lhas L 3 ∧ isI (lgt L 3) ∧ K 14 L (lgt L 3 :: st) h cs ss) := by
  rw [dX5_daysAhead_13, ey_ok, nx_iload_n_1] <;> rfl
theorem qX5_daysAhead_14 : ey FX5 ini rt fin K0 K (decode cX5_daysAhead 14) 14 L (.int x :: r) h cs ss = (if x < 0 then K 55 L r h cs ss else K 17 L r h cs ss) := by
  rw [dX5_daysAhead_14, ey_ok, nx_ifond_32]
  exact and_l (by unfold jok; decide)
theorem qX5_daysAhead_17 : ey FX5 ini rt fin K0 K (decode cX5_daysAhead 17) 17 L (st) h cs ss = (lhas L 0 ∧ isRf (lgt L 0) ∧ K 18 L (lgt L 0 :: st) h cs ss) := by
  rw [dX5_daysAhead_17, ey_ok, nx_aload_n_3] <;> rfl
theorem qX5_daysAhead_18 : ey FX5 ini rt fin K0 K (decode cX5_daysAhead 18) 18 L (st) h cs ss = (lhas L 3 ∧ isI (lgt L 3) ∧ K 19 L (lgt L 3 :: st) h cs ss) := by
  rw [dX5_daysAhead_18, ey_ok, nx_iload_n_1] <;> rfl
theorem qX5_daysAhead_19 : ey FX5 ini rt fin K0 K (decode cX5_daysAhead 19) 19 L (st) h cs ss = (K0 19 L st h cs ss) := by
  rw [dX5_daysAhead_19, ey_ok, nx_invokevirtual_72]
theorem qX5_daysAhead_22r : ey FX5 ini rt fin K0 K (decode cX5_daysAhead 22) 22 L (.ref a :: r) h cs ss = (4 < L.length ∧ K 24 (L.set 4 (some (.ref a))) r h cs ss) := by
  rw [dX5_daysAhead_22, ey_ok, nx_astore_6] <;> rfl
theorem qX5_daysAhead_22n : ey FX5 ini rt fin K0 K (decode cX5_daysAhead 22) 22 L (.null :: r) h cs ss = (4 < L.length ∧ K 24 (L.set 4 (some .null)) r h cs ss) := by
  rw [dX5_daysAhead_22, ey_ok, nx_astore_7] <;> rfl
theorem qX5_daysAhead_24 : ey FX5 ini rt fin K0 K (decode cX5_daysAhead 24) 24 L (st) h cs ss = (lhas L 4 ∧ isRf (lgt L 4) ∧ K 26 L (lgt L 4 :: st) h cs ss) := by
  rw [dX5_daysAhead_24, ey_ok, nx_aload_2] <;> rfl
theorem qX5_daysAhead_26n : ey FX5 ini rt fin K0 K (decode cX5_daysAhead 26) 26 L (.null :: r) h cs ss = (K 55 L r h cs ss) := by
  rw [dX5_daysAhead_26, ey_ok, nx_ifnull_50]
  exact and_l (by unfold jok; decide)
theorem qX5_daysAhead_26r : ey FX5 ini rt fin K0 K (decode cX5_daysAhead 26) 26 L (.ref a :: r) h cs ss = (K 29 L r h cs ss) := by
  rw [dX5_daysAhead_26, ey_ok, nx_ifnull_51]
  exact and_l (by unfold jok; decide)
theorem qX5_daysAhead_29 : ey FX5 ini rt fin K0 K (decode cX5_daysAhead 29) 29 L (st) h cs ss = (lhas L 4 ∧ isRf (lgt L 4) ∧ K 31 L (lgt L 4 :: st) h cs ss) := by
  rw [dX5_daysAhead_29, ey_ok, nx_aload_2] <;> rfl
theorem qX5_daysAhead_31 : ey FX5 ini rt fin K0 K (decode cX5_daysAhead 31) 31 L (st) h cs ss = (K0 31 L st h cs ss) := by
  rw [dX5_daysAhead_31, ey_ok, nx_invokevirtual_72]
theorem qX5_daysAhead_34 : ey FX5 ini rt fin K0 K (decode cX5_daysAhead 34) 34 L (st) h cs ss = (lhas L 2 ∧ isI (lgt L 2) ∧ K 35 L (lgt L 2 :: st) h cs ss) := by
  rw [dX5_daysAhead_34, ey_ok, nx_iload_n_1] <;> rfl
theorem qX5_daysAhead_35 : ey FX5 ini rt fin K0 K (decode cX5_daysAhead 35) 35 L (st) h cs ss = (K 36 L (.int 1 :: st) h cs ss) := by
  rw [dX5_daysAhead_35, ey_ok, nx_iconst_11] <;> rfl
theorem qX5_daysAhead_36 : ey FX5 ini rt fin K0 K (decode cX5_daysAhead 36) 36 L (.int y :: .int x :: r) h cs ss = (K 37 L (.int (x - y) :: r) h cs ss) := by
  rw [dX5_daysAhead_36, ey_ok, nx_isub_17]
theorem qX5_daysAhead_37 : ey FX5 ini rt fin K0 K (decode cX5_daysAhead 37) 37 L (.int y :: .int x :: r) h cs ss = (if y ≤ x then K 43 L r h cs ss else K 40 L r h cs ss) := by
  rw [dX5_daysAhead_37, ey_ok, nx_if_icmp_39]
  exact and_l (by unfold jok; decide)
theorem qX5_daysAhead_40 : ey FX5 ini rt fin K0 K (decode cX5_daysAhead 40) 40 L (st) h cs ss = (K 55 L st h cs ss) := by
  rw [dX5_daysAhead_40, ey_ok, nx_goto_29]
  exact and_l (by unfold jok; decide)
theorem qX5_daysAhead_43 : ey FX5 ini rt fin K0 K (decode cX5_daysAhead 43) 43 L (st) h cs ss = (lhas L 4 ∧ isRf (lgt L 4) ∧ K 45 L (lgt L 4 :: st) h cs ss) := by
  rw [dX5_daysAhead_43, ey_ok, nx_aload_2] <;> rfl
theorem qX5_daysAhead_45 : ey FX5 ini rt fin K0 K (decode cX5_daysAhead 45) 45 L (st) h cs ss = (K0 45 L st h cs ss) := by
  rw [dX5_daysAhead_45, ey_ok, nx_invokevirtual_72]
theorem qX5_daysAhead_48 : ey FX5 ini rt fin K0 K (decode cX5_daysAhead 48) 48 L (.int x :: r) h cs ss = (2 < L.length ∧ K 49 (L.set 2 (some (.int x))) r h cs ss) := by
  rw [dX5_daysAhead_48, ey_ok, nx_istore_n_5] <;> rfl
theorem qX5_daysAhead_49 : ey FX5 ini rt fin K0 K (decode cX5_daysAhead 49) 49 L (st) h cs ss = (lhas L 3 ∧ isI (lgt L 3) ∧ K 52 (L.set 3 (some (inc (lgt L 3) (-1)))) st h cs ss) := by
  rw [dX5_daysAhead_49, ey_ok, nx_iinc_10] <;> rfl
theorem qX5_daysAhead_52 : ey FX5 ini rt fin K0 K (decode cX5_daysAhead 52) 52 L (st) h cs ss = (K 13 L st h cs ss) := by
  rw [dX5_daysAhead_52, ey_ok, nx_goto_29]
  exact and_l (by unfold jok; decide)
theorem qX5_daysAhead_55 : ey FX5 ini rt fin K0 K (decode cX5_daysAhead 55) 55 L (st) h cs ss = (lhas L 1 ∧ isRf (lgt L 1) ∧ K 56 L (lgt L 1 :: st) h cs ss) := by
  rw [dX5_daysAhead_55, ey_ok, nx_aload_n_3] <;> rfl
theorem qX5_daysAhead_56 : ey FX5 ini rt fin K0 K (decode cX5_daysAhead 56) 56 L (st) h cs ss = (K0 56 L st h cs ss) := by
  rw [dX5_daysAhead_56, ey_ok, nx_invokevirtual_72]
theorem qX5_daysAhead_59 : ey FX5 ini rt fin K0 K (decode cX5_daysAhead 59) 59 L (st) h cs ss = (lhas L 2 ∧ isI (lgt L 2) ∧ K 60 L (lgt L 2 :: st) h cs ss) := by
  rw [dX5_daysAhead_59, ey_ok, nx_iload_n_1] <;> rfl
theorem qX5_daysAhead_60 : ey FX5 ini rt fin K0 K (decode cX5_daysAhead 60) 60 L (.int y :: .int x :: r) h cs ss = (K 61 L (.int (x - y) :: r) h cs ss) := by
  rw [dX5_daysAhead_60, ey_ok, nx_isub_17]
theorem qX5_daysAhead_61 : ey FX5 ini rt fin K0 K (decode cX5_daysAhead 61) 61 L ([.int x]) h cs ss = (rokI rt x ∧ fin (some (.int x)) h cs ss) := by
  rw [dX5_daysAhead_61, ey_ok, nx_ireturn_68]
theorem qX5_hoursEndedBy_0 : ey FX5 ini rt fin K0 K (decode cX5_hoursEndedBy 0) 0 L (st) h cs ss = (K 1 L (.int 0 :: st) h cs ss) := by
  rw [dX5_hoursEndedBy_0, ey_ok, nx_iconst_11] <;> rfl
theorem qX5_hoursEndedBy_1 : ey FX5 ini rt fin K0 K (decode cX5_hoursEndedBy 1) 1 L (.int x :: r) h cs ss = (2 < L.length ∧ K 2 (L.set 2 (some (.int x))) r h cs ss) := by
  rw [dX5_hoursEndedBy_1, ey_ok, nx_istore_n_5] <;> rfl
theorem qX5_hoursEndedBy_2 : ey FX5 ini rt fin K0 K (decode cX5_hoursEndedBy 2) 2 L (st) h cs ss = (lhas L 0 ∧ isRf (lgt L 0) ∧ K 3 L (lgt L 0 :: st) h cs ss) := by
  rw [dX5_hoursEndedBy_2, ey_ok, nx_aload_n_3] <;> rfl
theorem qX5_hoursEndedBy_3 : ey FX5 ini rt fin K0 K (decode cX5_hoursEndedBy 3) 3 L (.ref a :: r) h cs ss = (h.1 a = some (.inl 5) ∧ K 6 L (h.2 a 1 :: r) h cs ss) := by
  rw [dX5_hoursEndedBy_3, ey_ok, nx_getfield_54]
  exact and_l rfl
theorem qX5_hoursEndedBy_6r : ey FX5 ini rt fin K0 K (decode cX5_hoursEndedBy 6) 6 L (.ref a :: r) h cs ss = (3 < L.length ∧ K 7 (L.set 3 (some (.ref a))) r h cs ss) := by
  rw [dX5_hoursEndedBy_6, ey_ok, nx_astore_n_8] <;> rfl
theorem qX5_hoursEndedBy_6n : ey FX5 ini rt fin K0 K (decode cX5_hoursEndedBy 6) 6 L (.null :: r) h cs ss = (3 < L.length ∧ K 7 (L.set 3 (some .null)) r h cs ss) := by
  rw [dX5_hoursEndedBy_6, ey_ok, nx_astore_n_9] <;> rfl
theorem qX5_hoursEndedBy_7 : ey FX5 ini rt fin K0 K (decode cX5_hoursEndedBy 7) 7 L (st) h cs ss = (lhas L 3 ∧ isRf (lgt L 3) ∧ K 8 L (lgt L 3 :: st) h cs ss) := by
  rw [dX5_hoursEndedBy_7, ey_ok, nx_aload_n_3] <;> rfl
theorem qX5_hoursEndedBy_8 : ey FX5 ini rt fin K0 K (decode cX5_hoursEndedBy 8) 8 L (.ref a :: r) h cs ss = (isA (h.1 a) (fun _ _ => True) ∧ K 9 L (.int (nI (alen (h.1 a))) :: r) h cs ss) := by
  rw [dX5_hoursEndedBy_8, ey_ok, nx_arraylength_56]
theorem qX5_hoursEndedBy_9 : ey FX5 ini rt fin K0 K (decode cX5_hoursEndedBy 9) 9 L (.int x :: r) h cs ss = (4 < L.length ∧ K 11 (L.set 4 (some (.int x))) r h cs ss) := by
  rw [dX5_hoursEndedBy_9, ey_ok, nx_istore_4] <;> rfl
theorem qX5_hoursEndedBy_11 : ey FX5 ini rt fin K0 K (decode cX5_hoursEndedBy 11) 11 L (st) h cs ss = (K 12 L (.int 0 :: st) h cs ss) := by
  rw [dX5_hoursEndedBy_11, ey_ok, nx_iconst_11] <;> rfl
theorem qX5_hoursEndedBy_12 : ey FX5 ini rt fin K0 K (decode cX5_hoursEndedBy 12) 12 L (.int x :: r) h cs ss = (5 < L.length ∧ K 14 (L.set 5 (some (.int x))) r h cs ss) := by
  rw [dX5_hoursEndedBy_12, ey_ok, nx_istore_4] <;> rfl
theorem qX5_hoursEndedBy_14 : ey FX5 ini rt fin K0 K (decode cX5_hoursEndedBy 14) 14 L (st) h cs ss = (lhas L 5 ∧ isI (lgt L 5) ∧ K 16 L (lgt L 5 :: st) h cs ss) := by
  rw [dX5_hoursEndedBy_14, ey_ok, nx_iload_0] <;> rfl
theorem qX5_hoursEndedBy_16 : ey FX5 ini rt fin K0 K (decode cX5_hoursEndedBy 16) 16 L (st) h cs ss = (lhas L 4 ∧ isI (lgt L 4) ∧ K 18 L (lgt L 4 :: st) h cs ss) := by
  rw [dX5_hoursEndedBy_16, ey_ok, nx_iload_0] <;> rfl
theorem qX5_hoursEndedBy_18 : ey FX5 ini rt fin K0 K (decode cX5_hoursEndedBy 18) 18 L (.int y :: .int x :: r) h cs ss = (if y ≤ x then K 55 L r h cs ss else K 21 L r h cs ss) := by
  rw [dX5_hoursEndedBy_18, ey_ok, nx_if_icmp_39]
  exact and_l (by unfold jok; decide)
theorem qX5_hoursEndedBy_21 : ey FX5 ini rt fin K0 K (decode cX5_hoursEndedBy 21) 21 L (st) h cs ss = (lhas L 3 ∧ isRf (lgt L 3) ∧ K 22 L (lgt L 3 :: st) h cs ss) := by
  rw [dX5_hoursEndedBy_21, ey_ok, nx_aload_n_3] <;> rfl
theorem qX5_hoursEndedBy_22 : ey FX5 ini rt fin K0 K (decode cX5_hoursEndedBy 22) 22 L (st) h cs ss = (lhas L 5 ∧ isI (lgt L 5) ∧ K 24 L (lgt L 5 :: st) h cs ss) := by
  rw [dX5_hoursEndedBy_22, ey_ok, nx_iload_0] <;> rfl
theorem qX5_hoursEndedBy_24 : ey FX5 ini rt fin K0 K (decode cX5_hoursEndedBy 24) 24 L (.int i :: .ref a :: r) h cs ss = (isA (h.1 a) (fun k m => 4 ≤ k ∧ vp_in i m) ∧ K 25 L (h.2 a i.toNatClampNeg :: r) h cs ss) := by
  rw [dX5_hoursEndedBy_24, ey_ok, nx_aaload_61]
theorem qX5_hoursEndedBy_25r : ey FX5 ini rt fin K0 K (decode cX5_hoursEndedBy 25) 25 L (.ref a :: r) h cs ss = (6 < L.length ∧ K 27 (L.set 6 (some (.ref a))) r h cs ss) := by
  rw [dX5_hoursEndedBy_25, ey_ok, nx_astore_6] <;> rfl
theorem qX5_hoursEndedBy_25n : ey FX5 ini rt fin K0 K (decode cX5_hoursEndedBy 25) 25 L (.null :: r) h cs ss = (6 < L.length ∧ K 27 (L.set 6 (some .null)) r h cs ss) := by
  rw [dX5_hoursEndedBy_25, ey_ok, nx_astore_7] <;> rfl
theorem qX5_hoursEndedBy_27 : ey FX5 ini rt fin K0 K (decode cX5_hoursEndedBy 27) 27 L (st) h cs ss = (lhas L 6 ∧ isRf (lgt L 6) ∧ K 29 L (lgt L 6 :: st) h cs ss) := by
  rw [dX5_hoursEndedBy_27, ey_ok, nx_aload_2] <;> rfl
theorem qX5_hoursEndedBy_29n : ey FX5 ini rt fin K0 K (decode cX5_hoursEndedBy 29) 29 L (.null :: r) h cs ss = (K 49 L r h cs ss) := by
  rw [dX5_hoursEndedBy_29, ey_ok, nx_ifnull_50]
  exact and_l (by unfold jok; decide)
theorem qX5_hoursEndedBy_29r : ey FX5 ini rt fin K0 K (decode cX5_hoursEndedBy 29) 29 L (.ref a :: r) h cs ss = (K 32 L r h cs ss) := by
  rw [dX5_hoursEndedBy_29, ey_ok, nx_ifnull_51]
  exact and_l (by unfold jok; decide)
theorem qX5_hoursEndedBy_32 : ey FX5 ini rt fin K0 K (decode cX5_hoursEndedBy 32) 32 L (st) h cs ss = (lhas L 6 ∧ isRf (lgt L 6) ∧ K 34 L (lgt L 6 :: st) h cs ss) := by
  rw [dX5_hoursEndedBy_32, ey_ok, nx_aload_2] <;> rfl
theorem qX5_hoursEndedBy_34 : ey FX5 ini rt fin K0 K (decode cX5_hoursEndedBy 34) 34 L (.ref a :: r) h cs ss = (h.1 a = some (.inl 4) ∧ K 37 L (h.2 a 5 :: r) h cs ss) := by
  rw [dX5_hoursEndedBy_34, ey_ok, nx_getfield_54]
  exact and_l rfl
theorem qX5_hoursEndedBy_37 : ey FX5 ini rt fin K0 K (decode cX5_hoursEndedBy 37) 37 L (st) h cs ss = (lhas L 1 ∧ isI (lgt L 1) ∧ K 38 L (lgt L 1 :: st) h cs ss) := by
  rw [dX5_hoursEndedBy_37, ey_ok, nx_iload_n_1] <;> rfl
theorem qX5_hoursEndedBy_38 : ey FX5 ini rt fin K0 K (decode cX5_hoursEndedBy 38) 38 L (.int y :: .int x :: r) h cs ss = (if y < x then K 49 L r h cs ss else K 41 L r h cs ss) := by
  rw [dX5_hoursEndedBy_38, ey_ok, nx_if_icmp_40]
  exact and_l (by unfold jok; decide)
theorem qX5_hoursEndedBy_41 : ey FX5 ini rt fin K0 K (decode cX5_hoursEndedBy 41) 41 L (st) h cs ss = (lhas L 2 ∧ isI (lgt L 2) ∧ K 42 L (lgt L 2 :: st) h cs ss) := by
  rw [dX5_hoursEndedBy_41, ey_ok, nx_iload_n_1] <;> rfl
theorem qX5_hoursEndedBy_42 : ey FX5 ini rt fin K0 K (decode cX5_hoursEndedBy 42) 42 L (st) h cs ss = (lhas L 6 ∧ isRf (lgt L 6) ∧ K 44 L (lgt L 6 :: st) h cs ss) := by
  rw [dX5_hoursEndedBy_42, ey_ok, nx_aload_2] <;> rfl
theorem qX5_hoursEndedBy_44 : ey FX5 ini rt fin K0 K (decode cX5_hoursEndedBy 44) 44 L (st) h cs ss = (K0 44 L st h cs ss) := by
  rw [dX5_hoursEndedBy_44, ey_ok, nx_invokevirtual_72]
theorem qX5_hoursEndedBy_47 : ey FX5 ini rt fin K0 K (decode cX5_hoursEndedBy 47) 47 L (.int y :: .int x :: r) h cs ss = (K 48 L (.int (x + y) :: r) h cs ss) := by
  rw [dX5_hoursEndedBy_47, ey_ok, nx_iadd_16]
theorem qX5_hoursEndedBy_48 : ey FX5 ini rt fin K0 K (decode cX5_hoursEndedBy 48) 48 L (.int x :: r) h cs ss = (2 < L.length ∧ K 49 (L.set 2 (some (.int x))) r h cs ss) := by
  rw [dX5_hoursEndedBy_48, ey_ok, nx_istore_n_5] <;> rfl
theorem qX5_hoursEndedBy_49 : ey FX5 ini rt fin K0 K (decode cX5_hoursEndedBy 49) 49 L (st) h cs ss = (lhas L 5 ∧ isI (lgt L 5) ∧ K 52 (L.set 5 (some (inc (lgt L 5) 1))) st h cs ss) := by
  rw [dX5_hoursEndedBy_49, ey_ok, nx_iinc_10] <;> rfl
theorem qX5_hoursEndedBy_52 : ey FX5 ini rt fin K0 K (decode cX5_hoursEndedBy 52) 52 L (st) h cs ss = (K 14 L st h cs ss) := by
  rw [dX5_hoursEndedBy_52, ey_ok, nx_goto_29]
  exact and_l (by unfold jok; decide)
theorem qX5_hoursEndedBy_55 : ey FX5 ini rt fin K0 K (decode cX5_hoursEndedBy 55) 55 L (st) h cs ss = (lhas L 2 ∧ isI (lgt L 2) ∧ K 56 L (lgt L 2 :: st) h cs ss) := by
  rw [dX5_hoursEndedBy_55, ey_ok, nx_iload_n_1] <;> rfl
theorem qX5_hoursEndedBy_56 : ey FX5 ini rt fin K0 K (decode cX5_hoursEndedBy 56) 56 L ([.int x]) h cs ss = (rokI rt x ∧ fin (some (.int x)) h cs ss) := by
  rw [dX5_hoursEndedBy_56, ey_ok, nx_ireturn_68]
end QQ
section QQ
variable {F : Nat → Option Fq} {ini : Option Nat} {rt : Option FieldType} {fin : Option Value → Hp → Nat → Nat → Prop} {K0 K : Kt} {L : List (Option Value)} {h : Hp} {cs ss : Nat} {r st : List Value} {x y i : Int32} {a a2 : Nat} {v v2 : Value} {lx ly : Int64}
theorem qX6_init_0 : ey FX6 ini rt fin K0 K (decode cX6_init 0) 0 L (st) h cs ss = (lhas L 0 ∧ isRf (lgt L 0) ∧ K 1 L (lgt L 0 :: st) h cs ss) := by
  rw [dX6_init_0, ey_ok, nx_aload_n_3] <;> rfl
theorem qX6_init_1 : ey FX6 ini rt fin K0 K (decode cX6_init 1) 1 L (st) h cs ss = (K0 1 L st h cs ss) := by
  rw [dX6_init_1, ey_ok, nx_invokespecial_74]
theorem qX6_init_4 : ey FX6 ini rt fin K0 K (decode cX6_init 4) 4 L (st) h cs ss = (lhas L 0 ∧ isRf (lgt L 0) ∧ K 5 L (lgt L 0 :: st) h cs ss) := by
  rw [dX6_init_4, ey_ok, nx_aload_n_3] <;> rfl
theorem qX6_init_5 : ey FX6 ini rt fin K0 K (decode cX6_init 5) 5 L (st) h cs ss = (K 7 L (.int 8 :: st) h cs ss) := by
  rw [dX6_init_5, ey_ok, nx_bipush_12] <;> rfl
theorem qX6_init_7 : ey FX6 ini rt fin K0 K (decode cX6_init 7) 7 L (st) h cs ss = (K0 7 L st h cs ss) := by
  rw [dX6_init_7, ey_ok, nx_anewarray_77]
theorem qX6_init_10 : ey FX6 ini rt fin K0 K (decode cX6_init 10) 10 L (v :: .ref a :: r) h cs ss = (h.1 a = some (.inl 6) ∧ okv (.array (.object "UnionClock$Worker")) v ∧ (true = true → ini = some 6) ∧ K 13 L r (h.1, hup h.2 a 0 v) cs ss) := by
  rw [dX6_init_10, ey_ok, nx_putfield_55]
  exact and_l rfl
theorem qX6_init_13 : ey FX6 ini rt fin K0 K (decode cX6_init 13) 13 L (st) h cs ss = (lhas L 0 ∧ isRf (lgt L 0) ∧ K 14 L (lgt L 0 :: st) h cs ss) := by
  rw [dX6_init_13, ey_ok, nx_aload_n_3] <;> rfl
theorem qX6_init_14 : ey FX6 ini rt fin K0 K (decode cX6_init 14) 14 L (st) h cs ss = (K 16 L (.int 40 :: st) h cs ss) := by
  rw [dX6_init_14, ey_ok, nx_bipush_12] <;> rfl
theorem qX6_init_16 : ey FX6 ini rt fin K0 K (decode cX6_init 16) 16 L (st) h cs ss = (K0 16 L st h cs ss) := by
  rw [dX6_init_16, ey_ok, nx_anewarray_77]
theorem qX6_init_19 : ey FX6 ini rt fin K0 K (decode cX6_init 19) 19 L (v :: .ref a :: r) h cs ss = (h.1 a = some (.inl 6) ∧ okv (.array (.object "UnionClock$Shift")) v ∧ (true = true → ini = some 6) ∧ K 22 L r (h.1, hup h.2 a 1 v) cs ss) := by
  rw [dX6_init_19, ey_ok, nx_putfield_55]
  exact and_l rfl
theorem qX6_init_22 : ey FX6 ini rt fin K0 K (decode cX6_init 22) 22 L (st) h cs ss = (lhas L 0 ∧ isRf (lgt L 0) ∧ K 23 L (lgt L 0 :: st) h cs ss) := by
  rw [dX6_init_22, ey_ok, nx_aload_n_3] <;> rfl
theorem qX6_init_23 : ey FX6 ini rt fin K0 K (decode cX6_init 23) 23 L (st) h cs ss = (K 25 L (.int 12 :: st) h cs ss) := by
  rw [dX6_init_23, ey_ok, nx_bipush_12] <;> rfl
theorem qX6_init_25 : ey FX6 ini rt fin K0 K (decode cX6_init 25) 25 L (st) h cs ss = (K0 25 L st h cs ss) := by
  rw [dX6_init_25, ey_ok, nx_anewarray_77]
theorem qX6_init_28 : ey FX6 ini rt fin K0 K (decode cX6_init 28) 28 L (v :: .ref a :: r) h cs ss = (h.1 a = some (.inl 6) ∧ okv (.array (.object "UnionClock$Rule")) v ∧ (true = true → ini = some 6) ∧ K 31 L r (h.1, hup h.2 a 2 v) cs ss) := by
  rw [dX6_init_28, ey_ok, nx_putfield_55]
  exact and_l rfl
theorem qX6_init_31 : ey FX6 ini rt fin K0 K (decode cX6_init 31) 31 L (st) h cs ss = (lhas L 0 ∧ isRf (lgt L 0) ∧ K 32 L (lgt L 0 :: st) h cs ss) := by
  rw [dX6_init_31, ey_ok, nx_aload_n_3] <;> rfl
theorem qX6_init_32 : ey FX6 ini rt fin K0 K (decode cX6_init 32) 32 L (st) h cs ss = (K 35 L (.int 200 :: st) h cs ss) := by
  rw [dX6_init_32, ey_ok, nx_sipush_13] <;> rfl
theorem qX6_init_35 : ey FX6 ini rt fin K0 K (decode cX6_init 35) 35 L (st) h cs ss = (K0 35 L st h cs ss) := by
  rw [dX6_init_35, ey_ok, nx_anewarray_77]
theorem qX6_init_38 : ey FX6 ini rt fin K0 K (decode cX6_init 38) 38 L (v :: .ref a :: r) h cs ss = (h.1 a = some (.inl 6) ∧ okv (.array (.object "UnionClock$Claim")) v ∧ (true = true → ini = some 6) ∧ K 41 L r (h.1, hup h.2 a 3 v) cs ss) := by
  rw [dX6_init_38, ey_ok, nx_putfield_55]
  exact and_l rfl
theorem qX6_init_41 : ey FX6 ini rt fin K0 K (decode cX6_init 41) 41 L (st) h cs ss = (lhas L 0 ∧ isRf (lgt L 0) ∧ K 42 L (lgt L 0 :: st) h cs ss) := by
  rw [dX6_init_41, ey_ok, nx_aload_n_3] <;> rfl
theorem qX6_init_42 : ey FX6 ini rt fin K0 K (decode cX6_init 42) 42 L (st) h cs ss = (K 44 L (.int 40 :: st) h cs ss) := by
  rw [dX6_init_42, ey_ok, nx_bipush_12] <;> rfl
theorem qX6_init_44 : ey FX6 ini rt fin K0 K (decode cX6_init 44) 44 L (st) h cs ss = (K0 44 L st h cs ss) := by
  rw [dX6_init_44, ey_ok, nx_anewarray_77]
theorem qX6_init_47 : ey FX6 ini rt fin K0 K (decode cX6_init 47) 47 L (v :: .ref a :: r) h cs ss = (h.1 a = some (.inl 6) ∧ okv (.array (.object "UnionClock$Offer")) v ∧ (true = true → ini = some 6) ∧ K 50 L r (h.1, hup h.2 a 4 v) cs ss) := by
  rw [dX6_init_47, ey_ok, nx_putfield_55]
  exact and_l rfl
theorem qX6_init_50 : ey FX6 ini rt fin K0 K (decode cX6_init 50) 50 L (st) h cs ss = (lhas L 0 ∧ isRf (lgt L 0) ∧ K 51 L (lgt L 0 :: st) h cs ss) := by
  rw [dX6_init_50, ey_ok, nx_aload_n_3] <;> rfl
theorem qX6_init_51 : ey FX6 ini rt fin K0 K (decode cX6_init 51) 51 L (st) h cs ss = (K 53 L (.int 8 :: st) h cs ss) := by
  rw [dX6_init_51, ey_ok, nx_bipush_12] <;> rfl
theorem qX6_init_53 : ey FX6 ini rt fin K0 K (decode cX6_init 53) 53 L (st) h cs ss = (K0 53 L st h cs ss) := by
  rw [dX6_init_53, ey_ok, nx_anewarray_77]
theorem qX6_init_56 : ey FX6 ini rt fin K0 K (decode cX6_init 56) 56 L (v :: .ref a :: r) h cs ss = (h.1 a = some (.inl 6) ∧ okv (.array (.object "UnionClock$Offer")) v ∧ (true = true → ini = some 6) ∧ K 59 L r (h.1, hup h.2 a 5 v) cs ss) := by
  rw [dX6_init_56, ey_ok, nx_putfield_55]
  exact and_l rfl
theorem qX6_init_59 : ey FX6 ini rt fin K0 K (decode cX6_init 59) 59 L (st) h cs ss = (lhas L 0 ∧ isRf (lgt L 0) ∧ K 60 L (lgt L 0 :: st) h cs ss) := by
  rw [dX6_init_59, ey_ok, nx_aload_n_3] <;> rfl
theorem qX6_init_60 : ey FX6 ini rt fin K0 K (decode cX6_init 60) 60 L (st) h cs ss = (K0 60 L st h cs ss) := by
  rw [dX6_init_60, ey_ok, nx_new_75]
theorem qX6_init_63 : ey FX6 ini rt fin K0 K (decode cX6_init 63) 63 L (v :: r) h cs ss = (v.category = 1 ∧ K 64 L (v :: v :: r) h cs ss) := by
  rw [dX6_init_63, ey_ok, nx_dup_27]
theorem qX6_init_64 : ey FX6 ini rt fin K0 K (decode cX6_init 64) 64 L (st) h cs ss = (K0 64 L st h cs ss) := by
  rw [dX6_init_64, ey_ok, nx_invokespecial_74]
theorem qX6_init_67 : ey FX6 ini rt fin K0 K (decode cX6_init 67) 67 L (v :: .ref a :: r) h cs ss = (h.1 a = some (.inl 6) ∧ okv (.object "UnionClock$RuleText") v ∧ (true = true → ini = some 6) ∧ K 70 L r (h.1, hup h.2 a 6 v) cs ss) := by
  rw [dX6_init_67, ey_ok, nx_putfield_55]
  exact and_l rfl
theorem qX6_init_70 : ey FX6 ini rt fin K0 K (decode cX6_init 70) 70 L (st) h cs ss = (K 71 L (.int 0 :: st) h cs ss) := by
  rw [dX6_init_70, ey_ok, nx_iconst_11] <;> rfl
theorem qX6_init_71 : ey FX6 ini rt fin K0 K (decode cX6_init 71) 71 L (.int x :: r) h cs ss = (1 < L.length ∧ K 72 (L.set 1 (some (.int x))) r h cs ss) := by
  rw [dX6_init_71, ey_ok, nx_istore_n_5] <;> rfl
theorem qX6_init_72 : ey FX6 ini rt fin K0 K (decode cX6_init 72) 72 L (st) h cs ss = (lhas L 1 ∧ isI (lgt L 1) ∧ K 73 L (lgt L 1 :: st) h cs ss) := by
  rw [dX6_init_72, ey_ok, nx_iload_n_1] <;> rfl
theorem qX6_init_73 : ey FX6 ini rt fin K0 K (decode cX6_init 73) 73 L (st) h cs ss = (lhas L 0 ∧ isRf (lgt L 0) ∧ K 74 L (lgt L 0 :: st) h cs ss) := by
  rw [dX6_init_73, ey_ok, nx_aload_n_3] <;> rfl
theorem qX6_init_74 : ey FX6 ini rt fin K0 K (decode cX6_init 74) 74 L (.ref a :: r) h cs ss = (h.1 a = some (.inl 6) ∧ K 77 L (h.2 a 0 :: r) h cs ss) := by
  rw [dX6_init_74, ey_ok, nx_getfield_54]
  exact and_l rfl
theorem qX6_init_77 : ey FX6 ini rt fin K0 K (decode cX6_init 77) 77 L (.ref a :: r) h cs ss = (isA (h.1 a) (fun _ _ => True) ∧ K 78 L (.int (nI (alen (h.1 a))) :: r) h cs ss) := by
  rw [dX6_init_77, ey_ok, nx_arraylength_56]
theorem qX6_init_78 : ey FX6 ini rt fin K0 K (decode cX6_init 78) 78 L (.int y :: .int x :: r) h cs ss = (if y ≤ x then K 101 L r h cs ss else K 81 L r h cs ss) := by
  rw [dX6_init_78, ey_ok, nx_if_icmp_39]
  exact and_l (by unfold jok; decide)
theorem qX6_init_81 : ey FX6 ini rt fin K0 K (decode cX6_init 81) 81 L (st) h cs ss = (lhas L 0 ∧ isRf (lgt L 0) ∧ K 82 L (lgt L 0 :: st) h cs ss) := by
  rw [dX6_init_81, ey_ok, nx_aload_n_3] <;> rfl
theorem qX6_init_82 : ey FX6 ini rt fin K0 K (decode cX6_init 82) 82 L (.ref a :: r) h cs ss = (h.1 a = some (.inl 6) ∧ K 85 L (h.2 a 0 :: r) h cs ss) := by
  rw [dX6_init_82, ey_ok, nx_getfield_54]
  exact and_l rfl
theorem qX6_init_85 : ey FX6 ini rt fin K0 K (decode cX6_init 85) 85 L (st) h cs ss = (lhas L 1 ∧ isI (lgt L 1) ∧ K 86 L (lgt L 1 :: st) h cs ss) := by
  rw [dX6_init_85, ey_ok, nx_iload_n_1] <;> rfl
theorem qX6_init_86 : ey FX6 ini rt fin K0 K (decode cX6_init 86) 86 L (st) h cs ss = (K0 86 L st h cs ss) := by
  rw [dX6_init_86, ey_ok, nx_new_75]
theorem qX6_init_89 : ey FX6 ini rt fin K0 K (decode cX6_init 89) 89 L (v :: r) h cs ss = (v.category = 1 ∧ K 90 L (v :: v :: r) h cs ss) := by
  rw [dX6_init_89, ey_ok, nx_dup_27]
theorem qX6_init_90 : ey FX6 ini rt fin K0 K (decode cX6_init 90) 90 L (st) h cs ss = (lhas L 1 ∧ isI (lgt L 1) ∧ K 91 L (lgt L 1 :: st) h cs ss) := by
  rw [dX6_init_90, ey_ok, nx_iload_n_1] <;> rfl
theorem qX6_init_91 : ey FX6 ini rt fin K0 K (decode cX6_init 91) 91 L (st) h cs ss = (K0 91 L st h cs ss) := by
  rw [dX6_init_91, ey_ok, nx_invokespecial_74]
theorem qX6_init_94r : ey FX6 ini rt fin K0 K (decode cX6_init 94) 94 L (.ref a2 :: .int i :: .ref a :: r) h cs ss = (isA (h.1 a) (fun t m => 4 ≤ t ∧ h.1 a2 = some (.inl (vec t)) ∧ vp_in i m) ∧ K 95 L r (h.1, hup h.2 a i.toNatClampNeg (.ref a2)) cs ss) := by
  rw [dX6_init_94, ey_ok, nx_aastore_66]
theorem qX6_init_94n : ey FX6 ini rt fin K0 K (decode cX6_init 94) 94 L (.null :: .int i :: .ref a :: r) h cs ss = (isA (h.1 a) (fun t m => 4 ≤ t ∧ vp_in i m) ∧ K 95 L r (h.1, hup h.2 a i.toNatClampNeg .null) cs ss) := by
  rw [dX6_init_94, ey_ok, nx_aastore_67]
theorem qX6_init_95 : ey FX6 ini rt fin K0 K (decode cX6_init 95) 95 L (st) h cs ss = (lhas L 1 ∧ isI (lgt L 1) ∧ K 98 (L.set 1 (some (inc (lgt L 1) 1))) st h cs ss) := by
  rw [dX6_init_95, ey_ok, nx_iinc_10] <;> rfl
theorem qX6_init_98 : ey FX6 ini rt fin K0 K (decode cX6_init 98) 98 L (st) h cs ss = (K 72 L st h cs ss) := by
  rw [dX6_init_98, ey_ok, nx_goto_29]
  exact and_l (by unfold jok; decide)
theorem qX6_init_101 : ey FX6 ini rt fin K0 K (decode cX6_init 101) 101 L ([]) h cs ss = (rt = none ∧ fin none h cs ss) := by
  rw [dX6_init_101, ey_ok, nx_return__71]
theorem qX6_pass_0 : ey FX6 ini rt fin K0 K (decode cX6_pass 0) 0 L (st) h cs ss = (lhas L 1 ∧ isI (lgt L 1) ∧ K 1 L (lgt L 1 :: st) h cs ss) := by
  rw [dX6_pass_0, ey_ok, nx_iload_n_1] <;> rfl
theorem qX6_pass_1 : ey FX6 ini rt fin K0 K (decode cX6_pass 1) 1 L (st) h cs ss = (K 2 L (.int 1 :: st) h cs ss) := by
  rw [dX6_pass_1, ey_ok, nx_iconst_11] <;> rfl
theorem qX6_pass_2 : ey FX6 ini rt fin K0 K (decode cX6_pass 2) 2 L (.int y :: .int x :: r) h cs ss = (if x < y then K 12 L r h cs ss else K 5 L r h cs ss) := by
  rw [dX6_pass_2, ey_ok, nx_if_icmp_38]
  exact and_l (by unfold jok; decide)
theorem qX6_pass_5 : ey FX6 ini rt fin K0 K (decode cX6_pass 5) 5 L (st) h cs ss = (lhas L 1 ∧ isI (lgt L 1) ∧ K 6 L (lgt L 1 :: st) h cs ss) := by
  rw [dX6_pass_5, ey_ok, nx_iload_n_1] <;> rfl
theorem qX6_pass_6 : ey FX6 ini rt fin K0 K (decode cX6_pass 6) 6 L (st) h cs ss = (K 9 L (.int 200 :: st) h cs ss) := by
  rw [dX6_pass_6, ey_ok, nx_sipush_13] <;> rfl
theorem qX6_pass_9 : ey FX6 ini rt fin K0 K (decode cX6_pass 9) 9 L (.int y :: .int x :: r) h cs ss = (if x ≤ y then K 22 L r h cs ss else K 12 L r h cs ss) := by
  rw [dX6_pass_9, ey_ok, nx_if_icmp_41]
  exact and_l (by unfold jok; decide)
theorem qX6_pass_12 : ey FX6 ini rt fin K0 K (decode cX6_pass 12) 12 L (st) h cs ss = (K0 12 L st h cs ss) := by
  rw [dX6_pass_12, ey_ok, nx_new_75]
theorem qX6_pass_15 : ey FX6 ini rt fin K0 K (decode cX6_pass 15) 15 L (v :: r) h cs ss = (v.category = 1 ∧ K 16 L (v :: v :: r) h cs ss) := by
  rw [dX6_pass_15, ey_ok, nx_dup_27]
theorem qX6_pass_16 : ey FX6 ini rt fin K0 K (decode cX6_pass 16) 16 L (st) h cs ss = (K0 16 L st h cs ss) := by
  rw [dX6_pass_16, ey_ok, nx_ldc_79]
theorem qX6_pass_18 : ey FX6 ini rt fin K0 K (decode cX6_pass 18) 18 L (st) h cs ss = (K0 18 L st h cs ss) := by
  rw [dX6_pass_18, ey_ok, nx_invokespecial_74]
theorem qX6_pass_21 : ey FX6 ini rt fin K0 K (decode cX6_pass 21) 21 L (st) h cs ss = (K0 21 L st h cs ss) := by
  rw [dX6_pass_21, ey_ok, nx_athrow_80]
theorem qX6_pass_22 : ey FX6 ini rt fin K0 K (decode cX6_pass 22) 22 L (st) h cs ss = (lhas L 0 ∧ isRf (lgt L 0) ∧ K 23 L (lgt L 0 :: st) h cs ss) := by
  rw [dX6_pass_22, ey_ok, nx_aload_n_3] <;> rfl
theorem qX6_pass_23 : ey FX6 ini rt fin K0 K (decode cX6_pass 23) 23 L (.ref a :: r) h cs ss = (h.1 a = some (.inl 6) ∧ K 26 L (h.2 a 11 :: r) h cs ss) := by
  rw [dX6_pass_23, ey_ok, nx_getfield_54]
  exact and_l rfl
theorem qX6_pass_26 : ey FX6 ini rt fin K0 K (decode cX6_pass 26) 26 L (st) h cs ss = (lhas L 1 ∧ isI (lgt L 1) ∧ K 27 L (lgt L 1 :: st) h cs ss) := by
  rw [dX6_pass_26, ey_ok, nx_iload_n_1] <;> rfl
theorem qX6_pass_27 : ey FX6 ini rt fin K0 K (decode cX6_pass 27) 27 L (.int y :: .int x :: r) h cs ss = (K 28 L (.int (x + y) :: r) h cs ss) := by
  rw [dX6_pass_27, ey_ok, nx_iadd_16]
theorem qX6_pass_28 : ey FX6 ini rt fin K0 K (decode cX6_pass 28) 28 L (st) h cs ss = (K 31 L (.int 2000 :: st) h cs ss) := by
  rw [dX6_pass_28, ey_ok, nx_sipush_13] <;> rfl
theorem qX6_pass_31 : ey FX6 ini rt fin K0 K (decode cX6_pass 31) 31 L (.int y :: .int x :: r) h cs ss = (if x ≤ y then K 44 L r h cs ss else K 34 L r h cs ss) := by
  rw [dX6_pass_31, ey_ok, nx_if_icmp_41]
  exact and_l (by unfold jok; decide)
theorem qX6_pass_34 : ey FX6 ini rt fin K0 K (decode cX6_pass 34) 34 L (st) h cs ss = (K0 34 L st h cs ss) := by
  rw [dX6_pass_34, ey_ok, nx_new_75]
theorem qX6_pass_37 : ey FX6 ini rt fin K0 K (decode cX6_pass 37) 37 L (v :: r) h cs ss = (v.category = 1 ∧ K 38 L (v :: v :: r) h cs ss) := by
  rw [dX6_pass_37, ey_ok, nx_dup_27]
theorem qX6_pass_38 : ey FX6 ini rt fin K0 K (decode cX6_pass 38) 38 L (st) h cs ss = (K0 38 L st h cs ss) := by
  rw [dX6_pass_38, ey_ok, nx_ldc_79]
theorem qX6_pass_40 : ey FX6 ini rt fin K0 K (decode cX6_pass 40) 40 L (st) h cs ss = (K0 40 L st h cs ss) := by
  rw [dX6_pass_40, ey_ok, nx_invokespecial_74]
theorem qX6_pass_43 : ey FX6 ini rt fin K0 K (decode cX6_pass 43) 43 L (st) h cs ss = (K0 43 L st h cs ss) := by
  rw [dX6_pass_43, ey_ok, nx_athrow_80]
theorem qX6_pass_44 : ey FX6 ini rt fin K0 K (decode cX6_pass 44) 44 L (st) h cs ss = (lhas L 0 ∧ isRf (lgt L 0) ∧ K 45 L (lgt L 0 :: st) h cs ss) := by
  rw [dX6_pass_44, ey_ok, nx_aload_n_3] <;> rfl
theorem qX6_pass_45 : ey FX6 ini rt fin K0 K (decode cX6_pass 45) 45 L (v :: r) h cs ss = (v.category = 1 ∧ K 46 L (v :: v :: r) h cs ss) := by
  rw [dX6_pass_45, ey_ok, nx_dup_27]
theorem qX6_pass_46 : ey FX6 ini rt fin K0 K (decode cX6_pass 46) 46 L (.ref a :: r) h cs ss = (h.1 a = some (.inl 6) ∧ K 49 L (h.2 a 11 :: r) h cs ss) := by
  rw [dX6_pass_46, ey_ok, nx_getfield_54]
  exact and_l rfl
theorem qX6_pass_49 : ey FX6 ini rt fin K0 K (decode cX6_pass 49) 49 L (st) h cs ss = (lhas L 1 ∧ isI (lgt L 1) ∧ K 50 L (lgt L 1 :: st) h cs ss) := by
  rw [dX6_pass_49, ey_ok, nx_iload_n_1] <;> rfl
theorem qX6_pass_50 : ey FX6 ini rt fin K0 K (decode cX6_pass 50) 50 L (.int y :: .int x :: r) h cs ss = (K 51 L (.int (x + y) :: r) h cs ss) := by
  rw [dX6_pass_50, ey_ok, nx_iadd_16]
theorem qX6_pass_51 : ey FX6 ini rt fin K0 K (decode cX6_pass 51) 51 L (v :: .ref a :: r) h cs ss = (h.1 a = some (.inl 6) ∧ okv (.int) v ∧ K 54 L r (h.1, hup h.2 a 11 v) cs ss) := by
  rw [dX6_pass_51, ey_ok, nx_putfield_55]
  exact (and_l rfl).trans (and_m (fun z => nomatch z))
theorem qX6_pass_54 : ey FX6 ini rt fin K0 K (decode cX6_pass 54) 54 L (st) h cs ss = (lhas L 0 ∧ isRf (lgt L 0) ∧ K 55 L (lgt L 0 :: st) h cs ss) := by
  rw [dX6_pass_54, ey_ok, nx_aload_n_3] <;> rfl
theorem qX6_pass_55 : ey FX6 ini rt fin K0 K (decode cX6_pass 55) 55 L (.ref a :: r) h cs ss = (h.1 a = some (.inl 6) ∧ K 58 L (h.2 a 11 :: r) h cs ss) := by
  rw [dX6_pass_55, ey_ok, nx_getfield_54]
  exact and_l rfl
theorem qX6_pass_58 : ey FX6 ini rt fin K0 K (decode cX6_pass 58) 58 L ([.int x]) h cs ss = (rokI rt x ∧ fin (some (.int x)) h cs ss) := by
  rw [dX6_pass_58, ey_ok, nx_ireturn_68]
theorem qX6_worker_0 : ey FX6 ini rt fin K0 K (decode cX6_worker 0) 0 L (st) h cs ss = (lhas L 0 ∧ isRf (lgt L 0) ∧ K 1 L (lgt L 0 :: st) h cs ss) := by
  rw [dX6_worker_0, ey_ok, nx_aload_n_3] <;> rfl
theorem qX6_worker_1 : ey FX6 ini rt fin K0 K (decode cX6_worker 1) 1 L (st) h cs ss = (lhas L 1 ∧ isI (lgt L 1) ∧ K 2 L (lgt L 1 :: st) h cs ss) := by
  rw [dX6_worker_1, ey_ok, nx_iload_n_1] <;> rfl
theorem qX6_worker_2 : ey FX6 ini rt fin K0 K (decode cX6_worker 2) 2 L (st) h cs ss = (K0 2 L st h cs ss) := by
  rw [dX6_worker_2, ey_ok, nx_invokevirtual_72]
theorem qX6_worker_5r : ey FX6 ini rt fin K0 K (decode cX6_worker 5) 5 L (.ref a :: r) h cs ss = (4 < L.length ∧ K 7 (L.set 4 (some (.ref a))) r h cs ss) := by
  rw [dX6_worker_5, ey_ok, nx_astore_6] <;> rfl
theorem qX6_worker_5n : ey FX6 ini rt fin K0 K (decode cX6_worker 5) 5 L (.null :: r) h cs ss = (4 < L.length ∧ K 7 (L.set 4 (some .null)) r h cs ss) := by
  rw [dX6_worker_5, ey_ok, nx_astore_7] <;> rfl
theorem qX6_worker_7 : ey FX6 ini rt fin K0 K (decode cX6_worker 7) 7 L (st) h cs ss = (lhas L 2 ∧ isI (lgt L 2) ∧ K 8 L (lgt L 2 :: st) h cs ss) := by
  rw [dX6_worker_7, ey_ok, nx_iload_n_1] <;> rfl
theorem qX6_worker_8 : ey FX6 ini rt fin K0 K (decode cX6_worker 8) 8 L (.int x :: r) h cs ss = (if x < 0 then K 28 L r h cs ss else K 11 L r h cs ss) := by
  rw [dX6_worker_8, ey_ok, nx_ifond_32]
  exact and_l (by unfold jok; decide)
theorem qX6_worker_11 : ey FX6 ini rt fin K0 K (decode cX6_worker 11) 11 L (st) h cs ss = (lhas L 2 ∧ isI (lgt L 2) ∧ K 12 L (lgt L 2 :: st) h cs ss) := by
  rw [dX6_worker_11, ey_ok, nx_iload_n_1] <;> rfl
theorem qX6_worker_12 : ey FX6 ini rt fin K0 K (decode cX6_worker 12) 12 L (st) h cs ss = (K 14 L (.int 15 :: st) h cs ss) := by
  rw [dX6_worker_12, ey_ok, nx_bipush_12] <;> rfl
theorem qX6_worker_14 : ey FX6 ini rt fin K0 K (decode cX6_worker 14) 14 L (.int y :: .int x :: r) h cs ss = (if y < x then K 28 L r h cs ss else K 17 L r h cs ss) := by
  rw [dX6_worker_14, ey_ok, nx_if_icmp_40]
  exact and_l (by unfold jok; decide)
theorem qX6_worker_17 : ey FX6 ini rt fin K0 K (decode cX6_worker 17) 17 L (st) h cs ss = (lhas L 3 ∧ isI (lgt L 3) ∧ K 18 L (lgt L 3 :: st) h cs ss) := by
  rw [dX6_worker_17, ey_ok, nx_iload_n_1] <;> rfl
theorem qX6_worker_18 : ey FX6 ini rt fin K0 K (decode cX6_worker 18) 18 L (.int x :: r) h cs ss = (if x < 0 then K 28 L r h cs ss else K 21 L r h cs ss) := by
  rw [dX6_worker_18, ey_ok, nx_ifond_32]
  exact and_l (by unfold jok; decide)
theorem qX6_worker_21 : ey FX6 ini rt fin K0 K (decode cX6_worker 21) 21 L (st) h cs ss = (lhas L 3 ∧ isI (lgt L 3) ∧ K 22 L (lgt L 3 :: st) h cs ss) := by
  rw [dX6_worker_21, ey_ok, nx_iload_n_1] <;> rfl
theorem qX6_worker_22 : ey FX6 ini rt fin K0 K (decode cX6_worker 22) 22 L (st) h cs ss = (K 25 L (.int 1000 :: st) h cs ss) := by
  rw [dX6_worker_22, ey_ok, nx_sipush_13] <;> rfl
theorem qX6_worker_25 : ey FX6 ini rt fin K0 K (decode cX6_worker 25) 25 L (.int y :: .int x :: r) h cs ss = (if x ≤ y then K 38 L r h cs ss else K 28 L r h cs ss) := by
  rw [dX6_worker_25, ey_ok, nx_if_icmp_41]
  exact and_l (by unfold jok; decide)
theorem qX6_worker_28 : ey FX6 ini rt fin K0 K (decode cX6_worker 28) 28 L (st) h cs ss = (K0 28 L st h cs ss) := by
  rw [dX6_worker_28, ey_ok, nx_new_75]
theorem qX6_worker_31 : ey FX6 ini rt fin K0 K (decode cX6_worker 31) 31 L (v :: r) h cs ss = (v.category = 1 ∧ K 32 L (v :: v :: r) h cs ss) := by
  rw [dX6_worker_31, ey_ok, nx_dup_27]
theorem qX6_worker_32 : ey FX6 ini rt fin K0 K (decode cX6_worker 32) 32 L (st) h cs ss = (K0 32 L st h cs ss) := by
  rw [dX6_worker_32, ey_ok, nx_ldc_79]
theorem qX6_worker_34 : ey FX6 ini rt fin K0 K (decode cX6_worker 34) 34 L (st) h cs ss = (K0 34 L st h cs ss) := by
  rw [dX6_worker_34, ey_ok, nx_invokespecial_74]
theorem qX6_worker_37 : ey FX6 ini rt fin K0 K (decode cX6_worker 37) 37 L (st) h cs ss = (K0 37 L st h cs ss) := by
  rw [dX6_worker_37, ey_ok, nx_athrow_80]
theorem qX6_worker_38 : ey FX6 ini rt fin K0 K (decode cX6_worker 38) 38 L (st) h cs ss = (lhas L 4 ∧ isRf (lgt L 4) ∧ K 40 L (lgt L 4 :: st) h cs ss) := by
  rw [dX6_worker_38, ey_ok, nx_aload_2] <;> rfl
theorem qX6_worker_40 : ey FX6 ini rt fin K0 K (decode cX6_worker 40) 40 L (.ref a :: r) h cs ss = (h.1 a = some (.inl 5) ∧ K 43 L (h.2 a 3 :: r) h cs ss) := by
  rw [dX6_worker_40, ey_ok, nx_getfield_54]
  exact and_l rfl
theorem qX6_worker_43 : ey FX6 ini rt fin K0 K (decode cX6_worker 43) 43 L (.int x :: r) h cs ss = (5 < L.length ∧ K 45 (L.set 5 (some (.int x))) r h cs ss) := by
  rw [dX6_worker_43, ey_ok, nx_istore_4] <;> rfl
theorem qX6_worker_45 : ey FX6 ini rt fin K0 K (decode cX6_worker 45) 45 L (st) h cs ss = (lhas L 4 ∧ isRf (lgt L 4) ∧ K 47 L (lgt L 4 :: st) h cs ss) := by
  rw [dX6_worker_45, ey_ok, nx_aload_2] <;> rfl
theorem qX6_worker_47 : ey FX6 ini rt fin K0 K (decode cX6_worker 47) 47 L (st) h cs ss = (lhas L 2 ∧ isI (lgt L 2) ∧ K 48 L (lgt L 2 :: st) h cs ss) := by
  rw [dX6_worker_47, ey_ok, nx_iload_n_1] <;> rfl
theorem qX6_worker_48 : ey FX6 ini rt fin K0 K (decode cX6_worker 48) 48 L (v :: .ref a :: r) h cs ss = (h.1 a = some (.inl 5) ∧ okv (.int) v ∧ K 51 L r (h.1, hup h.2 a 2 v) cs ss) := by
  rw [dX6_worker_48, ey_ok, nx_putfield_55]
  exact (and_l rfl).trans (and_m (fun z => nomatch z))
theorem qX6_worker_51 : ey FX6 ini rt fin K0 K (decode cX6_worker 51) 51 L (st) h cs ss = (lhas L 4 ∧ isRf (lgt L 4) ∧ K 53 L (lgt L 4 :: st) h cs ss) := by
  rw [dX6_worker_51, ey_ok, nx_aload_2] <;> rfl
theorem qX6_worker_53 : ey FX6 ini rt fin K0 K (decode cX6_worker 53) 53 L (st) h cs ss = (lhas L 3 ∧ isI (lgt L 3) ∧ K 54 L (lgt L 3 :: st) h cs ss) := by
  rw [dX6_worker_53, ey_ok, nx_iload_n_1] <;> rfl
theorem qX6_worker_54 : ey FX6 ini rt fin K0 K (decode cX6_worker 54) 54 L (v :: .ref a :: r) h cs ss = (h.1 a = some (.inl 5) ∧ okv (.int) v ∧ K 57 L r (h.1, hup h.2 a 3 v) cs ss) := by
  rw [dX6_worker_54, ey_ok, nx_putfield_55]
  exact (and_l rfl).trans (and_m (fun z => nomatch z))
theorem qX6_worker_57 : ey FX6 ini rt fin K0 K (decode cX6_worker 57) 57 L (st) h cs ss = (lhas L 5 ∧ isI (lgt L 5) ∧ K 59 L (lgt L 5 :: st) h cs ss) := by
  rw [dX6_worker_57, ey_ok, nx_iload_0] <;> rfl
theorem qX6_worker_59 : ey FX6 ini rt fin K0 K (decode cX6_worker 59) 59 L ([.int x]) h cs ss = (rokI rt x ∧ fin (some (.int x)) h cs ss) := by
  rw [dX6_worker_59, ey_ok, nx_ireturn_68]
theorem qX6_shift_0 : ey FX6 ini rt fin K0 K (decode cX6_shift 0) 0 L (st) h cs ss = (lhas L 1 ∧ isI (lgt L 1) ∧ K 1 L (lgt L 1 :: st) h cs ss) := by
  rw [dX6_shift_0, ey_ok, nx_iload_n_1] <;> rfl
theorem qX6_shift_1 : ey FX6 ini rt fin K0 K (decode cX6_shift 1) 1 L (.int x :: r) h cs ss = (if x < 0 then K 31 L r h cs ss else K 4 L r h cs ss) := by
  rw [dX6_shift_1, ey_ok, nx_ifond_32]
  exact and_l (by unfold jok; decide)
theorem qX6_shift_4 : ey FX6 ini rt fin K0 K (decode cX6_shift 4) 4 L (st) h cs ss = (lhas L 1 ∧ isI (lgt L 1) ∧ K 5 L (lgt L 1 :: st) h cs ss) := by
  rw [dX6_shift_4, ey_ok, nx_iload_n_1] <;> rfl
theorem qX6_shift_5 : ey FX6 ini rt fin K0 K (decode cX6_shift 5) 5 L (st) h cs ss = (K 8 L (.int 2000 :: st) h cs ss) := by
  rw [dX6_shift_5, ey_ok, nx_sipush_13] <;> rfl
theorem qX6_shift_8 : ey FX6 ini rt fin K0 K (decode cX6_shift 8) 8 L (.int y :: .int x :: r) h cs ss = (if y < x then K 31 L r h cs ss else K 11 L r h cs ss) := by
  rw [dX6_shift_8, ey_ok, nx_if_icmp_40]
  exact and_l (by unfold jok; decide)
theorem qX6_shift_11 : ey FX6 ini rt fin K0 K (decode cX6_shift 11) 11 L (st) h cs ss = (lhas L 2 ∧ isI (lgt L 2) ∧ K 12 L (lgt L 2 :: st) h cs ss) := by
  rw [dX6_shift_11, ey_ok, nx_iload_n_1] <;> rfl
theorem qX6_shift_12 : ey FX6 ini rt fin K0 K (decode cX6_shift 12) 12 L (st) h cs ss = (K 13 L (.int 1 :: st) h cs ss) := by
  rw [dX6_shift_12, ey_ok, nx_iconst_11] <;> rfl
theorem qX6_shift_13 : ey FX6 ini rt fin K0 K (decode cX6_shift 13) 13 L (.int y :: .int x :: r) h cs ss = (if x < y then K 31 L r h cs ss else K 16 L r h cs ss) := by
  rw [dX6_shift_13, ey_ok, nx_if_icmp_38]
  exact and_l (by unfold jok; decide)
theorem qX6_shift_16 : ey FX6 ini rt fin K0 K (decode cX6_shift 16) 16 L (st) h cs ss = (lhas L 2 ∧ isI (lgt L 2) ∧ K 17 L (lgt L 2 :: st) h cs ss) := by
  rw [dX6_shift_16, ey_ok, nx_iload_n_1] <;> rfl
theorem qX6_shift_17 : ey FX6 ini rt fin K0 K (decode cX6_shift 17) 17 L (st) h cs ss = (K 19 L (.int 16 :: st) h cs ss) := by
  rw [dX6_shift_17, ey_ok, nx_bipush_12] <;> rfl
theorem qX6_shift_19 : ey FX6 ini rt fin K0 K (decode cX6_shift 19) 19 L (.int y :: .int x :: r) h cs ss = (if y < x then K 31 L r h cs ss else K 22 L r h cs ss) := by
  rw [dX6_shift_19, ey_ok, nx_if_icmp_40]
  exact and_l (by unfold jok; decide)
theorem qX6_shift_22 : ey FX6 ini rt fin K0 K (decode cX6_shift 22) 22 L (st) h cs ss = (lhas L 3 ∧ isI (lgt L 3) ∧ K 23 L (lgt L 3 :: st) h cs ss) := by
  rw [dX6_shift_22, ey_ok, nx_iload_n_1] <;> rfl
theorem qX6_shift_23 : ey FX6 ini rt fin K0 K (decode cX6_shift 23) 23 L (.int x :: r) h cs ss = (if x < 0 then K 31 L r h cs ss else K 26 L r h cs ss) := by
  rw [dX6_shift_23, ey_ok, nx_ifond_32]
  exact and_l (by unfold jok; decide)
theorem qX6_shift_26 : ey FX6 ini rt fin K0 K (decode cX6_shift 26) 26 L (st) h cs ss = (lhas L 3 ∧ isI (lgt L 3) ∧ K 27 L (lgt L 3 :: st) h cs ss) := by
  rw [dX6_shift_26, ey_ok, nx_iload_n_1] <;> rfl
theorem qX6_shift_27 : ey FX6 ini rt fin K0 K (decode cX6_shift 27) 27 L (st) h cs ss = (K 28 L (.int 3 :: st) h cs ss) := by
  rw [dX6_shift_27, ey_ok, nx_iconst_11] <;> rfl
theorem qX6_shift_28 : ey FX6 ini rt fin K0 K (decode cX6_shift 28) 28 L (.int y :: .int x :: r) h cs ss = (if x ≤ y then K 41 L r h cs ss else K 31 L r h cs ss) := by
  rw [dX6_shift_28, ey_ok, nx_if_icmp_41]
  exact and_l (by unfold jok; decide)
theorem qX6_shift_31 : ey FX6 ini rt fin K0 K (decode cX6_shift 31) 31 L (st) h cs ss = (K0 31 L st h cs ss) := by
  rw [dX6_shift_31, ey_ok, nx_new_75]
theorem qX6_shift_34 : ey FX6 ini rt fin K0 K (decode cX6_shift 34) 34 L (v :: r) h cs ss = (v.category = 1 ∧ K 35 L (v :: v :: r) h cs ss) := by
  rw [dX6_shift_34, ey_ok, nx_dup_27]
theorem qX6_shift_35 : ey FX6 ini rt fin K0 K (decode cX6_shift 35) 35 L (st) h cs ss = (K0 35 L st h cs ss) := by
  rw [dX6_shift_35, ey_ok, nx_ldc_79]
theorem qX6_shift_37 : ey FX6 ini rt fin K0 K (decode cX6_shift 37) 37 L (st) h cs ss = (K0 37 L st h cs ss) := by
  rw [dX6_shift_37, ey_ok, nx_invokespecial_74]
theorem qX6_shift_40 : ey FX6 ini rt fin K0 K (decode cX6_shift 40) 40 L (st) h cs ss = (K0 40 L st h cs ss) := by
  rw [dX6_shift_40, ey_ok, nx_athrow_80]
theorem qX6_shift_41 : ey FX6 ini rt fin K0 K (decode cX6_shift 41) 41 L (st) h cs ss = (lhas L 0 ∧ isRf (lgt L 0) ∧ K 42 L (lgt L 0 :: st) h cs ss) := by
  rw [dX6_shift_41, ey_ok, nx_aload_n_3] <;> rfl
theorem qX6_shift_42 : ey FX6 ini rt fin K0 K (decode cX6_shift 42) 42 L (.ref a :: r) h cs ss = (h.1 a = some (.inl 6) ∧ K 45 L (h.2 a 7 :: r) h cs ss) := by
  rw [dX6_shift_42, ey_ok, nx_getfield_54]
  exact and_l rfl
theorem qX6_shift_45 : ey FX6 ini rt fin K0 K (decode cX6_shift 45) 45 L (st) h cs ss = (lhas L 0 ∧ isRf (lgt L 0) ∧ K 46 L (lgt L 0 :: st) h cs ss) := by
  rw [dX6_shift_45, ey_ok, nx_aload_n_3] <;> rfl
theorem qX6_shift_46 : ey FX6 ini rt fin K0 K (decode cX6_shift 46) 46 L (.ref a :: r) h cs ss = (h.1 a = some (.inl 6) ∧ K 49 L (h.2 a 1 :: r) h cs ss) := by
  rw [dX6_shift_46, ey_ok, nx_getfield_54]
  exact and_l rfl
theorem qX6_shift_49 : ey FX6 ini rt fin K0 K (decode cX6_shift 49) 49 L (.ref a :: r) h cs ss = (isA (h.1 a) (fun _ _ => True) ∧ K 50 L (.int (nI (alen (h.1 a))) :: r) h cs ss) := by
  rw [dX6_shift_49, ey_ok, nx_arraylength_56]
theorem qX6_shift_50 : ey FX6 ini rt fin K0 K (decode cX6_shift 50) 50 L (.int y :: .int x :: r) h cs ss = (if x < y then K 63 L r h cs ss else K 53 L r h cs ss) := by
  rw [dX6_shift_50, ey_ok, nx_if_icmp_38]
  exact and_l (by unfold jok; decide)
theorem qX6_shift_53 : ey FX6 ini rt fin K0 K (decode cX6_shift 53) 53 L (st) h cs ss = (K0 53 L st h cs ss) := by
  rw [dX6_shift_53, ey_ok, nx_new_75]
theorem qX6_shift_56 : ey FX6 ini rt fin K0 K (decode cX6_shift 56) 56 L (v :: r) h cs ss = (v.category = 1 ∧ K 57 L (v :: v :: r) h cs ss) := by
  rw [dX6_shift_56, ey_ok, nx_dup_27]
theorem qX6_shift_57 : ey FX6 ini rt fin K0 K (decode cX6_shift 57) 57 L (st) h cs ss = (K0 57 L st h cs ss) := by
  rw [dX6_shift_57, ey_ok, nx_ldc_79]
theorem qX6_shift_59 : ey FX6 ini rt fin K0 K (decode cX6_shift 59) 59 L (st) h cs ss = (K0 59 L st h cs ss) := by
  rw [dX6_shift_59, ey_ok, nx_invokespecial_74]
theorem qX6_shift_62 : ey FX6 ini rt fin K0 K (decode cX6_shift 62) 62 L (st) h cs ss = (K0 62 L st h cs ss) := by
  rw [dX6_shift_62, ey_ok, nx_athrow_80]
theorem qX6_shift_63 : ey FX6 ini rt fin K0 K (decode cX6_shift 63) 63 L (st) h cs ss = (lhas L 0 ∧ isRf (lgt L 0) ∧ K 64 L (lgt L 0 :: st) h cs ss) := by
  rw [dX6_shift_63, ey_ok, nx_aload_n_3] <;> rfl
theorem qX6_shift_64 : ey FX6 ini rt fin K0 K (decode cX6_shift 64) 64 L (.ref a :: r) h cs ss = (h.1 a = some (.inl 6) ∧ K 67 L (h.2 a 7 :: r) h cs ss) := by
  rw [dX6_shift_64, ey_ok, nx_getfield_54]
  exact and_l rfl
theorem qX6_shift_67 : ey FX6 ini rt fin K0 K (decode cX6_shift 67) 67 L (.int x :: r) h cs ss = (4 < L.length ∧ K 69 (L.set 4 (some (.int x))) r h cs ss) := by
  rw [dX6_shift_67, ey_ok, nx_istore_4] <;> rfl
theorem qX6_shift_69 : ey FX6 ini rt fin K0 K (decode cX6_shift 69) 69 L (st) h cs ss = (lhas L 0 ∧ isRf (lgt L 0) ∧ K 70 L (lgt L 0 :: st) h cs ss) := by
  rw [dX6_shift_69, ey_ok, nx_aload_n_3] <;> rfl
theorem qX6_shift_70 : ey FX6 ini rt fin K0 K (decode cX6_shift 70) 70 L (.ref a :: r) h cs ss = (h.1 a = some (.inl 6) ∧ K 73 L (h.2 a 1 :: r) h cs ss) := by
  rw [dX6_shift_70, ey_ok, nx_getfield_54]
  exact and_l rfl
theorem qX6_shift_73 : ey FX6 ini rt fin K0 K (decode cX6_shift 73) 73 L (st) h cs ss = (lhas L 4 ∧ isI (lgt L 4) ∧ K 75 L (lgt L 4 :: st) h cs ss) := by
  rw [dX6_shift_73, ey_ok, nx_iload_0] <;> rfl
theorem qX6_shift_75 : ey FX6 ini rt fin K0 K (decode cX6_shift 75) 75 L (st) h cs ss = (K0 75 L st h cs ss) := by
  rw [dX6_shift_75, ey_ok, nx_new_75]
theorem qX6_shift_78 : ey FX6 ini rt fin K0 K (decode cX6_shift 78) 78 L (v :: r) h cs ss = (v.category = 1 ∧ K 79 L (v :: v :: r) h cs ss) := by
  rw [dX6_shift_78, ey_ok, nx_dup_27]
theorem qX6_shift_79 : ey FX6 ini rt fin K0 K (decode cX6_shift 79) 79 L (st) h cs ss = (lhas L 4 ∧ isI (lgt L 4) ∧ K 81 L (lgt L 4 :: st) h cs ss) := by
  rw [dX6_shift_79, ey_ok, nx_iload_0] <;> rfl
theorem qX6_shift_81 : ey FX6 ini rt fin K0 K (decode cX6_shift 81) 81 L (st) h cs ss = (lhas L 1 ∧ isI (lgt L 1) ∧ K 82 L (lgt L 1 :: st) h cs ss) := by
  rw [dX6_shift_81, ey_ok, nx_iload_n_1] <;> rfl
theorem qX6_shift_82 : ey FX6 ini rt fin K0 K (decode cX6_shift 82) 82 L (st) h cs ss = (lhas L 2 ∧ isI (lgt L 2) ∧ K 83 L (lgt L 2 :: st) h cs ss) := by
  rw [dX6_shift_82, ey_ok, nx_iload_n_1] <;> rfl
theorem qX6_shift_83 : ey FX6 ini rt fin K0 K (decode cX6_shift 83) 83 L (st) h cs ss = (lhas L 3 ∧ isI (lgt L 3) ∧ K 84 L (lgt L 3 :: st) h cs ss) := by
  rw [dX6_shift_83, ey_ok, nx_iload_n_1] <;> rfl
theorem qX6_shift_84 : ey FX6 ini rt fin K0 K (decode cX6_shift 84) 84 L (st) h cs ss = (K0 84 L st h cs ss) := by
  rw [dX6_shift_84, ey_ok, nx_invokespecial_74]
theorem qX6_shift_87r : ey FX6 ini rt fin K0 K (decode cX6_shift 87) 87 L (.ref a2 :: .int i :: .ref a :: r) h cs ss = (isA (h.1 a) (fun t m => 4 ≤ t ∧ h.1 a2 = some (.inl (vec t)) ∧ vp_in i m) ∧ K 88 L r (h.1, hup h.2 a i.toNatClampNeg (.ref a2)) cs ss) := by
  rw [dX6_shift_87, ey_ok, nx_aastore_66]
theorem qX6_shift_87n : ey FX6 ini rt fin K0 K (decode cX6_shift 87) 87 L (.null :: .int i :: .ref a :: r) h cs ss = (isA (h.1 a) (fun t m => 4 ≤ t ∧ vp_in i m) ∧ K 88 L r (h.1, hup h.2 a i.toNatClampNeg .null) cs ss) := by
  rw [dX6_shift_87, ey_ok, nx_aastore_67]
theorem qX6_shift_88 : ey FX6 ini rt fin K0 K (decode cX6_shift 88) 88 L (st) h cs ss = (lhas L 0 ∧ isRf (lgt L 0) ∧ K 89 L (lgt L 0 :: st) h cs ss) := by
  rw [dX6_shift_88, ey_ok, nx_aload_n_3] <;> rfl
theorem qX6_shift_89 : ey FX6 ini rt fin K0 K (decode cX6_shift 89) 89 L (v :: r) h cs ss = (v.category = 1 ∧ K 90 L (v :: v :: r) h cs ss) := by
  rw [dX6_shift_89, ey_ok, nx_dup_27]
theorem qX6_shift_90 : ey FX6 ini rt fin K0 K (decode cX6_shift 90) 90 L (.ref a :: r) h cs ss = (h.1 a = some (.inl 6) ∧ K 93 L (h.2 a 7 :: r) h cs ss) := by
  rw [dX6_shift_90, ey_ok, nx_getfield_54]
  exact and_l rfl
theorem qX6_shift_93 : ey FX6 ini rt fin K0 K (decode cX6_shift 93) 93 L (st) h cs ss = (K 94 L (.int 1 :: st) h cs ss) := by
  rw [dX6_shift_93, ey_ok, nx_iconst_11] <;> rfl
theorem qX6_shift_94 : ey FX6 ini rt fin K0 K (decode cX6_shift 94) 94 L (.int y :: .int x :: r) h cs ss = (K 95 L (.int (x + y) :: r) h cs ss) := by
  rw [dX6_shift_94, ey_ok, nx_iadd_16]
theorem qX6_shift_95 : ey FX6 ini rt fin K0 K (decode cX6_shift 95) 95 L (v :: .ref a :: r) h cs ss = (h.1 a = some (.inl 6) ∧ okv (.int) v ∧ K 98 L r (h.1, hup h.2 a 7 v) cs ss) := by
  rw [dX6_shift_95, ey_ok, nx_putfield_55]
  exact (and_l rfl).trans (and_m (fun z => nomatch z))
theorem qX6_shift_98 : ey FX6 ini rt fin K0 K (decode cX6_shift 98) 98 L (st) h cs ss = (lhas L 4 ∧ isI (lgt L 4) ∧ K 100 L (lgt L 4 :: st) h cs ss) := by
  rw [dX6_shift_98, ey_ok, nx_iload_0] <;> rfl
theorem qX6_shift_100 : ey FX6 ini rt fin K0 K (decode cX6_shift 100) 100 L ([.int x]) h cs ss = (rokI rt x ∧ fin (some (.int x)) h cs ss) := by
  rw [dX6_shift_100, ey_ok, nx_ireturn_68]
theorem qX6_hold_0 : ey FX6 ini rt fin K0 K (decode cX6_hold 0) 0 L (st) h cs ss = (lhas L 0 ∧ isRf (lgt L 0) ∧ K 1 L (lgt L 0 :: st) h cs ss) := by
  rw [dX6_hold_0, ey_ok, nx_aload_n_3] <;> rfl
theorem qX6_hold_1 : ey FX6 ini rt fin K0 K (decode cX6_hold 1) 1 L (st) h cs ss = (lhas L 1 ∧ isI (lgt L 1) ∧ K 2 L (lgt L 1 :: st) h cs ss) := by
  rw [dX6_hold_1, ey_ok, nx_iload_n_1] <;> rfl
theorem qX6_hold_2 : ey FX6 ini rt fin K0 K (decode cX6_hold 2) 2 L (st) h cs ss = (K0 2 L st h cs ss) := by
  rw [dX6_hold_2, ey_ok, nx_invokevirtual_72]
theorem qX6_hold_5r : ey FX6 ini rt fin K0 K (decode cX6_hold 5) 5 L (.ref a :: r) h cs ss = (3 < L.length ∧ K 6 (L.set 3 (some (.ref a))) r h cs ss) := by
  rw [dX6_hold_5, ey_ok, nx_astore_n_8] <;> rfl
theorem qX6_hold_5n : ey FX6 ini rt fin K0 K (decode cX6_hold 5) 5 L (.null :: r) h cs ss = (3 < L.length ∧ K 6 (L.set 3 (some .null)) r h cs ss) := by
  rw [dX6_hold_5, ey_ok, nx_astore_n_9] <;> rfl
theorem qX6_hold_6 : ey FX6 ini rt fin K0 K (decode cX6_hold 6) 6 L (st) h cs ss = (lhas L 2 ∧ isI (lgt L 2) ∧ K 7 L (lgt L 2 :: st) h cs ss) := by
  rw [dX6_hold_6, ey_ok, nx_iload_n_1] <;> rfl
theorem qX6_hold_7 : ey FX6 ini rt fin K0 K (decode cX6_hold 7) 7 L (st) h cs ss = (K 8 L (.int (-1) :: st) h cs ss) := by
  rw [dX6_hold_7, ey_ok, nx_iconst_11] <;> rfl
theorem qX6_hold_8 : ey FX6 ini rt fin K0 K (decode cX6_hold 8) 8 L (.int y :: .int x :: r) h cs ss = (if ¬ x = y then K 15 L r h cs ss else K 11 L r h cs ss) := by
  rw [dX6_hold_8, ey_ok, nx_if_icmp_37]
  exact and_l (by unfold jok; decide)
theorem qX6_hold_11 : ey FX6 ini rt fin K0 K (decode cX6_hold 11) 11 L (st) h cs ss = (K 12 L (.null :: st) h cs ss) := by
  rw [dX6_hold_11, ey_ok, nx_aconst_null_15]
theorem qX6_hold_12 : ey FX6 ini rt fin K0 K (decode cX6_hold 12) 12 L (st) h cs ss = (K 20 L st h cs ss) := by
  rw [dX6_hold_12, ey_ok, nx_goto_29]
  exact and_l (by unfold jok; decide)
theorem qX6_hold_15 : ey FX6 ini rt fin K0 K (decode cX6_hold 15) 15 L (st) h cs ss = (lhas L 0 ∧ isRf (lgt L 0) ∧ K 16 L (lgt L 0 :: st) h cs ss) := by
  rw [dX6_hold_15, ey_ok, nx_aload_n_3] <;> rfl
theorem qX6_hold_16 : ey FX6 ini rt fin K0 K (decode cX6_hold 16) 16 L (st) h cs ss = (lhas L 2 ∧ isI (lgt L 2) ∧ K 17 L (lgt L 2 :: st) h cs ss) := by
  rw [dX6_hold_16, ey_ok, nx_iload_n_1] <;> rfl
theorem qX6_hold_17 : ey FX6 ini rt fin K0 K (decode cX6_hold 17) 17 L (st) h cs ss = (K0 17 L st h cs ss) := by
  rw [dX6_hold_17, ey_ok, nx_invokevirtual_72]
theorem qX6_hold_20r : ey FX6 ini rt fin K0 K (decode cX6_hold 20) 20 L (.ref a :: r) h cs ss = (4 < L.length ∧ K 22 (L.set 4 (some (.ref a))) r h cs ss) := by
  rw [dX6_hold_20, ey_ok, nx_astore_6] <;> rfl
theorem qX6_hold_20n : ey FX6 ini rt fin K0 K (decode cX6_hold 20) 20 L (.null :: r) h cs ss = (4 < L.length ∧ K 22 (L.set 4 (some .null)) r h cs ss) := by
  rw [dX6_hold_20, ey_ok, nx_astore_7] <;> rfl
theorem qX6_hold_22 : ey FX6 ini rt fin K0 K (decode cX6_hold 22) 22 L (st) h cs ss = (lhas L 4 ∧ isRf (lgt L 4) ∧ K 24 L (lgt L 4 :: st) h cs ss) := by
  rw [dX6_hold_22, ey_ok, nx_aload_2] <;> rfl
theorem qX6_hold_24n : ey FX6 ini rt fin K0 K (decode cX6_hold 24) 24 L (.null :: r) h cs ss = (K 47 L r h cs ss) := by
  rw [dX6_hold_24, ey_ok, nx_ifnull_50]
  exact and_l (by unfold jok; decide)
theorem qX6_hold_24r : ey FX6 ini rt fin K0 K (decode cX6_hold 24) 24 L (.ref a :: r) h cs ss = (K 27 L r h cs ss) := by
  rw [dX6_hold_24, ey_ok, nx_ifnull_51]
  exact and_l (by unfold jok; decide)
theorem qX6_hold_27 : ey FX6 ini rt fin K0 K (decode cX6_hold 27) 27 L (st) h cs ss = (lhas L 4 ∧ isRf (lgt L 4) ∧ K 29 L (lgt L 4 :: st) h cs ss) := by
  rw [dX6_hold_27, ey_ok, nx_aload_2] <;> rfl
theorem qX6_hold_29 : ey FX6 ini rt fin K0 K (decode cX6_hold 29) 29 L (st) h cs ss = (lhas L 3 ∧ isRf (lgt L 3) ∧ K 30 L (lgt L 3 :: st) h cs ss) := by
  rw [dX6_hold_29, ey_ok, nx_aload_n_3] <;> rfl
theorem qX6_hold_30 : ey FX6 ini rt fin K0 K (decode cX6_hold 30) 30 L (st) h cs ss = (K 31 L (.null :: st) h cs ss) := by
  rw [dX6_hold_30, ey_ok, nx_aconst_null_15]
theorem qX6_hold_31 : ey FX6 ini rt fin K0 K (decode cX6_hold 31) 31 L (st) h cs ss = (K0 31 L st h cs ss) := by
  rw [dX6_hold_31, ey_ok, nx_invokevirtual_72]
theorem qX6_hold_34 : ey FX6 ini rt fin K0 K (decode cX6_hold 34) 34 L (.int x :: r) h cs ss = (if ¬ x = 0 then K 47 L r h cs ss else K 37 L r h cs ss) := by
  rw [dX6_hold_34, ey_ok, nx_ifond_31]
  exact and_l (by unfold jok; decide)
theorem qX6_hold_37 : ey FX6 ini rt fin K0 K (decode cX6_hold 37) 37 L (st) h cs ss = (K0 37 L st h cs ss) := by
  rw [dX6_hold_37, ey_ok, nx_new_75]
theorem qX6_hold_40 : ey FX6 ini rt fin K0 K (decode cX6_hold 40) 40 L (v :: r) h cs ss = (v.category = 1 ∧ K 41 L (v :: v :: r) h cs ss) := by
  rw [dX6_hold_40, ey_ok, nx_dup_27]
theorem qX6_hold_41 : ey FX6 ini rt fin K0 K (decode cX6_hold 41) 41 L (st) h cs ss = (K0 41 L st h cs ss) := by
  rw [dX6_hold_41, ey_ok, nx_ldc_79]
theorem qX6_hold_43 : ey FX6 ini rt fin K0 K (decode cX6_hold 43) 43 L (st) h cs ss = (K0 43 L st h cs ss) := by
  rw [dX6_hold_43, ey_ok, nx_invokespecial_74]
theorem qX6_hold_46 : ey FX6 ini rt fin K0 K (decode cX6_hold 46) 46 L (st) h cs ss = (K0 46 L st h cs ss) := by
  rw [dX6_hold_46, ey_ok, nx_athrow_80]
theorem qX6_hold_47 : ey FX6 ini rt fin K0 K (decode cX6_hold 47) 47 L (st) h cs ss = (lhas L 3 ∧ isRf (lgt L 3) ∧ K 48 L (lgt L 3 :: st) h cs ss) := by
  rw [dX6_hold_47, ey_ok, nx_aload_n_3] <;> rfl
theorem qX6_hold_48 : ey FX6 ini rt fin K0 K (decode cX6_hold 48) 48 L (st) h cs ss = (K0 48 L st h cs ss) := by
  rw [dX6_hold_48, ey_ok, nx_invokevirtual_72]
theorem qX6_hold_51 : ey FX6 ini rt fin K0 K (decode cX6_hold 51) 51 L (.int x :: r) h cs ss = (5 < L.length ∧ K 53 (L.set 5 (some (.int x))) r h cs ss) := by
  rw [dX6_hold_51, ey_ok, nx_istore_4] <;> rfl
theorem qX6_hold_53 : ey FX6 ini rt fin K0 K (decode cX6_hold 53) 53 L (st) h cs ss = (lhas L 3 ∧ isRf (lgt L 3) ∧ K 54 L (lgt L 3 :: st) h cs ss) := by
  rw [dX6_hold_53, ey_ok, nx_aload_n_3] <;> rfl
theorem qX6_hold_54 : ey FX6 ini rt fin K0 K (decode cX6_hold 54) 54 L (.ref a :: r) h cs ss = (h.1 a = some (.inl 4) ∧ K 57 L (h.2 a 6 :: r) h cs ss) := by
  rw [dX6_hold_54, ey_ok, nx_getfield_54]
  exact and_l rfl
theorem qX6_hold_57 : ey FX6 ini rt fin K0 K (decode cX6_hold 57) 57 L (st) h cs ss = (lhas L 4 ∧ isRf (lgt L 4) ∧ K 59 L (lgt L 4 :: st) h cs ss) := by
  rw [dX6_hold_57, ey_ok, nx_aload_2] <;> rfl
theorem qX6_hold_59rr : ey FX6 ini rt fin K0 K (decode cX6_hold 59) 59 L (.ref a :: .ref a2 :: r) h cs ss = (if a2 = a then K 74 L r h cs ss else K 62 L r h cs ss) := by
  rw [dX6_hold_59, ey_ok, nx_if_acmp_42]
  exact and_l (by unfold jok; decide)
theorem qX6_hold_59nn : ey FX6 ini rt fin K0 K (decode cX6_hold 59) 59 L (.null :: .null :: r) h cs ss = (K 74 L r h cs ss) := by
  rw [dX6_hold_59, ey_ok, nx_if_acmp_43]
  exact and_l (by unfold jok; decide)
theorem qX6_hold_59nr : ey FX6 ini rt fin K0 K (decode cX6_hold 59) 59 L (.null :: .ref a :: r) h cs ss = (K 62 L r h cs ss) := by
  rw [dX6_hold_59, ey_ok, nx_if_acmp_44]
  exact and_l (by unfold jok; decide)
theorem qX6_hold_59rn : ey FX6 ini rt fin K0 K (decode cX6_hold 59) 59 L (.ref a :: .null :: r) h cs ss = (K 62 L r h cs ss) := by
  rw [dX6_hold_59, ey_ok, nx_if_acmp_45]
  exact and_l (by unfold jok; decide)
theorem qX6_hold_62 : ey FX6 ini rt fin K0 K (decode cX6_hold 62) 62 L (st) h cs ss = (lhas L 0 ∧ isRf (lgt L 0) ∧ K 63 L (lgt L 0 :: st) h cs ss) := by
  rw [dX6_hold_62, ey_ok, nx_aload_n_3] <;> rfl
theorem qX6_hold_63 : ey FX6 ini rt fin K0 K (decode cX6_hold 63) 63 L (st) h cs ss = (lhas L 3 ∧ isRf (lgt L 3) ∧ K 64 L (lgt L 3 :: st) h cs ss) := by
  rw [dX6_hold_63, ey_ok, nx_aload_n_3] <;> rfl
theorem qX6_hold_64 : ey FX6 ini rt fin K0 K (decode cX6_hold 64) 64 L (st) h cs ss = (lhas L 4 ∧ isRf (lgt L 4) ∧ K 66 L (lgt L 4 :: st) h cs ss) := by
  rw [dX6_hold_64, ey_ok, nx_aload_2] <;> rfl
theorem qX6_hold_66 : ey FX6 ini rt fin K0 K (decode cX6_hold 66) 66 L (st) h cs ss = (K0 66 L st h cs ss) := by
  rw [dX6_hold_66, ey_ok, nx_invokevirtual_72]
theorem qX6_hold_69 : ey FX6 ini rt fin K0 K (decode cX6_hold 69) 69 L (st) h cs ss = (lhas L 0 ∧ isRf (lgt L 0) ∧ K 70 L (lgt L 0 :: st) h cs ss) := by
  rw [dX6_hold_69, ey_ok, nx_aload_n_3] <;> rfl
theorem qX6_hold_70 : ey FX6 ini rt fin K0 K (decode cX6_hold 70) 70 L (st) h cs ss = (K0 70 L st h cs ss) := by
  rw [dX6_hold_70, ey_ok, nx_invokevirtual_72]
theorem qX6_hold_73 : ey FX6 ini rt fin K0 K (decode cX6_hold 73) 73 L (v :: r) h cs ss = (v.category = 1 ∧ K 74 L r h cs ss) := by
  rw [dX6_hold_73, ey_ok, nx_pop_28]
theorem qX6_hold_74 : ey FX6 ini rt fin K0 K (decode cX6_hold 74) 74 L (st) h cs ss = (lhas L 5 ∧ isI (lgt L 5) ∧ K 76 L (lgt L 5 :: st) h cs ss) := by
  rw [dX6_hold_74, ey_ok, nx_iload_0] <;> rfl
theorem qX6_hold_76 : ey FX6 ini rt fin K0 K (decode cX6_hold 76) 76 L ([.int x]) h cs ss = (rokI rt x ∧ fin (some (.int x)) h cs ss) := by
  rw [dX6_hold_76, ey_ok, nx_ireturn_68]
theorem qX6_stamp_0 : ey FX6 ini rt fin K0 K (decode cX6_stamp 0) 0 L (st) h cs ss = (lhas L 0 ∧ isRf (lgt L 0) ∧ K 1 L (lgt L 0 :: st) h cs ss) := by
  rw [dX6_stamp_0, ey_ok, nx_aload_n_3] <;> rfl
theorem qX6_stamp_1 : ey FX6 ini rt fin K0 K (decode cX6_stamp 1) 1 L (st) h cs ss = (lhas L 1 ∧ isI (lgt L 1) ∧ K 2 L (lgt L 1 :: st) h cs ss) := by
  rw [dX6_stamp_1, ey_ok, nx_iload_n_1] <;> rfl
theorem qX6_stamp_2 : ey FX6 ini rt fin K0 K (decode cX6_stamp 2) 2 L (st) h cs ss = (K0 2 L st h cs ss) := by
  rw [dX6_stamp_2, ey_ok, nx_invokevirtual_72]
theorem qX6_stamp_5r : ey FX6 ini rt fin K0 K (decode cX6_stamp 5) 5 L (.ref a :: r) h cs ss = (4 < L.length ∧ K 7 (L.set 4 (some (.ref a))) r h cs ss) := by
  rw [dX6_stamp_5, ey_ok, nx_astore_6] <;> rfl
theorem qX6_stamp_5n : ey FX6 ini rt fin K0 K (decode cX6_stamp 5) 5 L (.null :: r) h cs ss = (4 < L.length ∧ K 7 (L.set 4 (some .null)) r h cs ss) := by
  rw [dX6_stamp_5, ey_ok, nx_astore_7] <;> rfl
theorem qX6_stamp_7 : ey FX6 ini rt fin K0 K (decode cX6_stamp 7) 7 L (st) h cs ss = (lhas L 2 ∧ isI (lgt L 2) ∧ K 8 L (lgt L 2 :: st) h cs ss) := by
  rw [dX6_stamp_7, ey_ok, nx_iload_n_1] <;> rfl
theorem qX6_stamp_8 : ey FX6 ini rt fin K0 K (decode cX6_stamp 8) 8 L (.int x :: r) h cs ss = (if x < 0 then K 40 L r h cs ss else K 11 L r h cs ss) := by
  rw [dX6_stamp_8, ey_ok, nx_ifond_32]
  exact and_l (by unfold jok; decide)
theorem qX6_stamp_11 : ey FX6 ini rt fin K0 K (decode cX6_stamp 11) 11 L (st) h cs ss = (lhas L 2 ∧ isI (lgt L 2) ∧ K 12 L (lgt L 2 :: st) h cs ss) := by
  rw [dX6_stamp_11, ey_ok, nx_iload_n_1] <;> rfl
theorem qX6_stamp_12 : ey FX6 ini rt fin K0 K (decode cX6_stamp 12) 12 L (st) h cs ss = (lhas L 0 ∧ isRf (lgt L 0) ∧ K 13 L (lgt L 0 :: st) h cs ss) := by
  rw [dX6_stamp_12, ey_ok, nx_aload_n_3] <;> rfl
theorem qX6_stamp_13 : ey FX6 ini rt fin K0 K (decode cX6_stamp 13) 13 L (.ref a :: r) h cs ss = (h.1 a = some (.inl 6) ∧ K 16 L (h.2 a 11 :: r) h cs ss) := by
  rw [dX6_stamp_13, ey_ok, nx_getfield_54]
  exact and_l rfl
theorem qX6_stamp_16 : ey FX6 ini rt fin K0 K (decode cX6_stamp 16) 16 L (.int y :: .int x :: r) h cs ss = (if y < x then K 40 L r h cs ss else K 19 L r h cs ss) := by
  rw [dX6_stamp_16, ey_ok, nx_if_icmp_40]
  exact and_l (by unfold jok; decide)
theorem qX6_stamp_19 : ey FX6 ini rt fin K0 K (decode cX6_stamp 19) 19 L (st) h cs ss = (lhas L 3 ∧ isI (lgt L 3) ∧ K 20 L (lgt L 3 :: st) h cs ss) := by
  rw [dX6_stamp_19, ey_ok, nx_iload_n_1] <;> rfl
theorem qX6_stamp_20 : ey FX6 ini rt fin K0 K (decode cX6_stamp 20) 20 L (st) h cs ss = (lhas L 2 ∧ isI (lgt L 2) ∧ K 21 L (lgt L 2 :: st) h cs ss) := by
  rw [dX6_stamp_20, ey_ok, nx_iload_n_1] <;> rfl
theorem qX6_stamp_21 : ey FX6 ini rt fin K0 K (decode cX6_stamp 21) 21 L (.int y :: .int x :: r) h cs ss = (if x ≤ y then K 40 L r h cs ss else K 24 L r h cs ss) := by
  rw [dX6_stamp_21, ey_ok, nx_if_icmp_41]
  exact and_l (by unfold jok; decide)
theorem qX6_stamp_24 : ey FX6 ini rt fin K0 K (decode cX6_stamp 24) 24 L (st) h cs ss = (lhas L 3 ∧ isI (lgt L 3) ∧ K 25 L (lgt L 3 :: st) h cs ss) := by
  rw [dX6_stamp_24, ey_ok, nx_iload_n_1] <;> rfl
theorem qX6_stamp_25 : ey FX6 ini rt fin K0 K (decode cX6_stamp 25) 25 L (st) h cs ss = (lhas L 2 ∧ isI (lgt L 2) ∧ K 26 L (lgt L 2 :: st) h cs ss) := by
  rw [dX6_stamp_25, ey_ok, nx_iload_n_1] <;> rfl
theorem qX6_stamp_26 : ey FX6 ini rt fin K0 K (decode cX6_stamp 26) 26 L (st) h cs ss = (K 28 L (.int 24 :: st) h cs ss) := by
  rw [dX6_stamp_26, ey_ok, nx_bipush_12] <;> rfl
theorem qX6_stamp_28 : ey FX6 ini rt fin K0 K (decode cX6_stamp 28) 28 L (.int y :: .int x :: r) h cs ss = (K 29 L (.int (x + y) :: r) h cs ss) := by
  rw [dX6_stamp_28, ey_ok, nx_iadd_16]
theorem qX6_stamp_29 : ey FX6 ini rt fin K0 K (decode cX6_stamp 29) 29 L (.int y :: .int x :: r) h cs ss = (if y < x then K 40 L r h cs ss else K 32 L r h cs ss) := by
  rw [dX6_stamp_29, ey_ok, nx_if_icmp_40]
  exact and_l (by unfold jok; decide)
theorem qX6_stamp_32 : ey FX6 ini rt fin K0 K (decode cX6_stamp 32) 32 L (st) h cs ss = (lhas L 3 ∧ isI (lgt L 3) ∧ K 33 L (lgt L 3 :: st) h cs ss) := by
  rw [dX6_stamp_32, ey_ok, nx_iload_n_1] <;> rfl
theorem qX6_stamp_33 : ey FX6 ini rt fin K0 K (decode cX6_stamp 33) 33 L (st) h cs ss = (lhas L 0 ∧ isRf (lgt L 0) ∧ K 34 L (lgt L 0 :: st) h cs ss) := by
  rw [dX6_stamp_33, ey_ok, nx_aload_n_3] <;> rfl
theorem qX6_stamp_34 : ey FX6 ini rt fin K0 K (decode cX6_stamp 34) 34 L (.ref a :: r) h cs ss = (h.1 a = some (.inl 6) ∧ K 37 L (h.2 a 11 :: r) h cs ss) := by
  rw [dX6_stamp_34, ey_ok, nx_getfield_54]
  exact and_l rfl
theorem qX6_stamp_37 : ey FX6 ini rt fin K0 K (decode cX6_stamp 37) 37 L (.int y :: .int x :: r) h cs ss = (if x ≤ y then K 50 L r h cs ss else K 40 L r h cs ss) := by
  rw [dX6_stamp_37, ey_ok, nx_if_icmp_41]
  exact and_l (by unfold jok; decide)
theorem qX6_stamp_40 : ey FX6 ini rt fin K0 K (decode cX6_stamp 40) 40 L (st) h cs ss = (K0 40 L st h cs ss) := by
  rw [dX6_stamp_40, ey_ok, nx_new_75]
theorem qX6_stamp_43 : ey FX6 ini rt fin K0 K (decode cX6_stamp 43) 43 L (v :: r) h cs ss = (v.category = 1 ∧ K 44 L (v :: v :: r) h cs ss) := by
  rw [dX6_stamp_43, ey_ok, nx_dup_27]
theorem qX6_stamp_44 : ey FX6 ini rt fin K0 K (decode cX6_stamp 44) 44 L (st) h cs ss = (K0 44 L st h cs ss) := by
  rw [dX6_stamp_44, ey_ok, nx_ldc_79]
theorem qX6_stamp_46 : ey FX6 ini rt fin K0 K (decode cX6_stamp 46) 46 L (st) h cs ss = (K0 46 L st h cs ss) := by
  rw [dX6_stamp_46, ey_ok, nx_invokespecial_74]
theorem qX6_stamp_49 : ey FX6 ini rt fin K0 K (decode cX6_stamp 49) 49 L (st) h cs ss = (K0 49 L st h cs ss) := by
  rw [dX6_stamp_49, ey_ok, nx_athrow_80]
theorem qX6_stamp_50 : ey FX6 ini rt fin K0 K (decode cX6_stamp 50) 50 L (st) h cs ss = (lhas L 4 ∧ isRf (lgt L 4) ∧ K 52 L (lgt L 4 :: st) h cs ss) := by
  rw [dX6_stamp_50, ey_ok, nx_aload_2] <;> rfl
theorem qX6_stamp_52 : ey FX6 ini rt fin K0 K (decode cX6_stamp 52) 52 L (.ref a :: r) h cs ss = (h.1 a = some (.inl 4) ∧ K 55 L (h.2 a 6 :: r) h cs ss) := by
  rw [dX6_stamp_52, ey_ok, nx_getfield_54]
  exact and_l rfl
theorem qX6_stamp_55r : ey FX6 ini rt fin K0 K (decode cX6_stamp 55) 55 L (.ref a :: r) h cs ss = (5 < L.length ∧ K 57 (L.set 5 (some (.ref a))) r h cs ss) := by
  rw [dX6_stamp_55, ey_ok, nx_astore_6] <;> rfl
theorem qX6_stamp_55n : ey FX6 ini rt fin K0 K (decode cX6_stamp 55) 55 L (.null :: r) h cs ss = (5 < L.length ∧ K 57 (L.set 5 (some .null)) r h cs ss) := by
  rw [dX6_stamp_55, ey_ok, nx_astore_7] <;> rfl
theorem qX6_stamp_57 : ey FX6 ini rt fin K0 K (decode cX6_stamp 57) 57 L (st) h cs ss = (lhas L 5 ∧ isRf (lgt L 5) ∧ K 59 L (lgt L 5 :: st) h cs ss) := by
  rw [dX6_stamp_57, ey_ok, nx_aload_2] <;> rfl
theorem qX6_stamp_59n : ey FX6 ini rt fin K0 K (decode cX6_stamp 59) 59 L (.null :: r) h cs ss = (K 77 L r h cs ss) := by
  rw [dX6_stamp_59, ey_ok, nx_ifnull_50]
  exact and_l (by unfold jok; decide)
theorem qX6_stamp_59r : ey FX6 ini rt fin K0 K (decode cX6_stamp 59) 59 L (.ref a :: r) h cs ss = (K 62 L r h cs ss) := by
  rw [dX6_stamp_59, ey_ok, nx_ifnull_51]
  exact and_l (by unfold jok; decide)
theorem qX6_stamp_62 : ey FX6 ini rt fin K0 K (decode cX6_stamp 62) 62 L (st) h cs ss = (lhas L 0 ∧ isRf (lgt L 0) ∧ K 63 L (lgt L 0 :: st) h cs ss) := by
  rw [dX6_stamp_62, ey_ok, nx_aload_n_3] <;> rfl
theorem qX6_stamp_63 : ey FX6 ini rt fin K0 K (decode cX6_stamp 63) 63 L (.ref a :: r) h cs ss = (h.1 a = some (.inl 6) ∧ K 66 L (h.2 a 11 :: r) h cs ss) := by
  rw [dX6_stamp_63, ey_ok, nx_getfield_54]
  exact and_l rfl
theorem qX6_stamp_66 : ey FX6 ini rt fin K0 K (decode cX6_stamp 66) 66 L (st) h cs ss = (lhas L 4 ∧ isRf (lgt L 4) ∧ K 68 L (lgt L 4 :: st) h cs ss) := by
  rw [dX6_stamp_66, ey_ok, nx_aload_2] <;> rfl
theorem qX6_stamp_68 : ey FX6 ini rt fin K0 K (decode cX6_stamp 68) 68 L (.ref a :: r) h cs ss = (h.1 a = some (.inl 4) ∧ K 71 L (h.2 a 3 :: r) h cs ss) := by
  rw [dX6_stamp_68, ey_ok, nx_getfield_54]
  exact and_l rfl
theorem qX6_stamp_71 : ey FX6 ini rt fin K0 K (decode cX6_stamp 71) 71 L (st) h cs ss = (K 73 L (.int 100 :: st) h cs ss) := by
  rw [dX6_stamp_71, ey_ok, nx_bipush_12] <;> rfl
theorem qX6_stamp_73 : ey FX6 ini rt fin K0 K (decode cX6_stamp 73) 73 L (.int y :: .int x :: r) h cs ss = (K 74 L (.int (x + y) :: r) h cs ss) := by
  rw [dX6_stamp_73, ey_ok, nx_iadd_16]
theorem qX6_stamp_74 : ey FX6 ini rt fin K0 K (decode cX6_stamp 74) 74 L (.int y :: .int x :: r) h cs ss = (if x ≤ y then K 87 L r h cs ss else K 77 L r h cs ss) := by
  rw [dX6_stamp_74, ey_ok, nx_if_icmp_41]
  exact and_l (by unfold jok; decide)
theorem qX6_stamp_77 : ey FX6 ini rt fin K0 K (decode cX6_stamp 77) 77 L (st) h cs ss = (K0 77 L st h cs ss) := by
  rw [dX6_stamp_77, ey_ok, nx_new_75]
theorem qX6_stamp_80 : ey FX6 ini rt fin K0 K (decode cX6_stamp 80) 80 L (v :: r) h cs ss = (v.category = 1 ∧ K 81 L (v :: v :: r) h cs ss) := by
  rw [dX6_stamp_80, ey_ok, nx_dup_27]
theorem qX6_stamp_81 : ey FX6 ini rt fin K0 K (decode cX6_stamp 81) 81 L (st) h cs ss = (K0 81 L st h cs ss) := by
  rw [dX6_stamp_81, ey_ok, nx_ldc_79]
theorem qX6_stamp_83 : ey FX6 ini rt fin K0 K (decode cX6_stamp 83) 83 L (st) h cs ss = (K0 83 L st h cs ss) := by
  rw [dX6_stamp_83, ey_ok, nx_invokespecial_74]
theorem qX6_stamp_86 : ey FX6 ini rt fin K0 K (decode cX6_stamp 86) 86 L (st) h cs ss = (K0 86 L st h cs ss) := by
  rw [dX6_stamp_86, ey_ok, nx_athrow_80]
theorem qX6_stamp_87 : ey FX6 ini rt fin K0 K (decode cX6_stamp 87) 87 L (st) h cs ss = (lhas L 5 ∧ isRf (lgt L 5) ∧ K 89 L (lgt L 5 :: st) h cs ss) := by
  rw [dX6_stamp_87, ey_ok, nx_aload_2] <;> rfl
theorem qX6_stamp_89 : ey FX6 ini rt fin K0 K (decode cX6_stamp 89) 89 L (st) h cs ss = (lhas L 4 ∧ isRf (lgt L 4) ∧ K 91 L (lgt L 4 :: st) h cs ss) := by
  rw [dX6_stamp_89, ey_ok, nx_aload_2] <;> rfl
theorem qX6_stamp_91 : ey FX6 ini rt fin K0 K (decode cX6_stamp 91) 91 L (st) h cs ss = (K0 91 L st h cs ss) := by
  rw [dX6_stamp_91, ey_ok, nx_invokevirtual_72]
theorem qX6_stamp_94 : ey FX6 ini rt fin K0 K (decode cX6_stamp 94) 94 L (st) h cs ss = (lhas L 4 ∧ isRf (lgt L 4) ∧ K 96 L (lgt L 4 :: st) h cs ss) := by
  rw [dX6_stamp_94, ey_ok, nx_aload_2] <;> rfl
theorem qX6_stamp_96 : ey FX6 ini rt fin K0 K (decode cX6_stamp 96) 96 L (st) h cs ss = (lhas L 2 ∧ isI (lgt L 2) ∧ K 97 L (lgt L 2 :: st) h cs ss) := by
  rw [dX6_stamp_96, ey_ok, nx_iload_n_1] <;> rfl
theorem qX6_stamp_97 : ey FX6 ini rt fin K0 K (decode cX6_stamp 97) 97 L (v :: .ref a :: r) h cs ss = (h.1 a = some (.inl 4) ∧ okv (.int) v ∧ K 100 L r (h.1, hup h.2 a 4 v) cs ss) := by
  rw [dX6_stamp_97, ey_ok, nx_putfield_55]
  exact (and_l rfl).trans (and_m (fun z => nomatch z))
theorem qX6_stamp_100 : ey FX6 ini rt fin K0 K (decode cX6_stamp 100) 100 L (st) h cs ss = (lhas L 4 ∧ isRf (lgt L 4) ∧ K 102 L (lgt L 4 :: st) h cs ss) := by
  rw [dX6_stamp_100, ey_ok, nx_aload_2] <;> rfl
theorem qX6_stamp_102 : ey FX6 ini rt fin K0 K (decode cX6_stamp 102) 102 L (st) h cs ss = (lhas L 3 ∧ isI (lgt L 3) ∧ K 103 L (lgt L 3 :: st) h cs ss) := by
  rw [dX6_stamp_102, ey_ok, nx_iload_n_1] <;> rfl
theorem qX6_stamp_103 : ey FX6 ini rt fin K0 K (decode cX6_stamp 103) 103 L (v :: .ref a :: r) h cs ss = (h.1 a = some (.inl 4) ∧ okv (.int) v ∧ K 106 L r (h.1, hup h.2 a 5 v) cs ss) := by
  rw [dX6_stamp_103, ey_ok, nx_putfield_55]
  exact (and_l rfl).trans (and_m (fun z => nomatch z))
theorem qX6_stamp_106 : ey FX6 ini rt fin K0 K (decode cX6_stamp 106) 106 L (st) h cs ss = (lhas L 5 ∧ isRf (lgt L 5) ∧ K 108 L (lgt L 5 :: st) h cs ss) := by
  rw [dX6_stamp_106, ey_ok, nx_aload_2] <;> rfl
theorem qX6_stamp_108 : ey FX6 ini rt fin K0 K (decode cX6_stamp 108) 108 L (st) h cs ss = (lhas L 4 ∧ isRf (lgt L 4) ∧ K 110 L (lgt L 4 :: st) h cs ss) := by
  rw [dX6_stamp_108, ey_ok, nx_aload_2] <;> rfl
theorem qX6_stamp_110 : ey FX6 ini rt fin K0 K (decode cX6_stamp 110) 110 L (st) h cs ss = (K0 110 L st h cs ss) := by
  rw [dX6_stamp_110, ey_ok, nx_invokevirtual_72]
theorem qX6_stamp_113 : ey FX6 ini rt fin K0 K (decode cX6_stamp 113) 113 L (st) h cs ss = (lhas L 0 ∧ isRf (lgt L 0) ∧ K 114 L (lgt L 0 :: st) h cs ss) := by
  rw [dX6_stamp_113, ey_ok, nx_aload_n_3] <;> rfl
theorem qX6_stamp_114 : ey FX6 ini rt fin K0 K (decode cX6_stamp 114) 114 L (st) h cs ss = (K0 114 L st h cs ss) := by
  rw [dX6_stamp_114, ey_ok, nx_invokevirtual_72]
theorem qX6_stamp_117 : ey FX6 ini rt fin K0 K (decode cX6_stamp 117) 117 L (v :: r) h cs ss = (v.category = 1 ∧ K 118 L r h cs ss) := by
  rw [dX6_stamp_117, ey_ok, nx_pop_28]
theorem qX6_stamp_118 : ey FX6 ini rt fin K0 K (decode cX6_stamp 118) 118 L (st) h cs ss = (lhas L 4 ∧ isRf (lgt L 4) ∧ K 120 L (lgt L 4 :: st) h cs ss) := by
  rw [dX6_stamp_118, ey_ok, nx_aload_2] <;> rfl
theorem qX6_stamp_120 : ey FX6 ini rt fin K0 K (decode cX6_stamp 120) 120 L (st) h cs ss = (K0 120 L st h cs ss) := by
  rw [dX6_stamp_120, ey_ok, nx_invokevirtual_72]
theorem qX6_stamp_123 : ey FX6 ini rt fin K0 K (decode cX6_stamp 123) 123 L (st) h cs ss = (lhas L 4 ∧ isRf (lgt L 4) ∧ K 125 L (lgt L 4 :: st) h cs ss) := by
  rw [dX6_stamp_123, ey_ok, nx_aload_2] <;> rfl
theorem qX6_stamp_125 : ey FX6 ini rt fin K0 K (decode cX6_stamp 125) 125 L (st) h cs ss = (K0 125 L st h cs ss) := by
  rw [dX6_stamp_125, ey_ok, nx_invokevirtual_72]
theorem qX6_stamp_128 : ey FX6 ini rt fin K0 K (decode cX6_stamp 128) 128 L (.int y :: .int x :: r) h cs ss = (K 129 L (.int (x - y) :: r) h cs ss) := by
  rw [dX6_stamp_128, ey_ok, nx_isub_17]
theorem qX6_stamp_129 : ey FX6 ini rt fin K0 K (decode cX6_stamp 129) 129 L ([.int x]) h cs ss = (rokI rt x ∧ fin (some (.int x)) h cs ss) := by
  rw [dX6_stamp_129, ey_ok, nx_ireturn_68]
theorem qX6_holder_0 : ey FX6 ini rt fin K0 K (decode cX6_holder 0) 0 L (st) h cs ss = (lhas L 0 ∧ isRf (lgt L 0) ∧ K 1 L (lgt L 0 :: st) h cs ss) := by
  rw [dX6_holder_0, ey_ok, nx_aload_n_3] <;> rfl
theorem qX6_holder_1 : ey FX6 ini rt fin K0 K (decode cX6_holder 1) 1 L (st) h cs ss = (lhas L 1 ∧ isI (lgt L 1) ∧ K 2 L (lgt L 1 :: st) h cs ss) := by
  rw [dX6_holder_1, ey_ok, nx_iload_n_1] <;> rfl
theorem qX6_holder_2 : ey FX6 ini rt fin K0 K (decode cX6_holder 2) 2 L (st) h cs ss = (K0 2 L st h cs ss) := by
  rw [dX6_holder_2, ey_ok, nx_invokevirtual_72]
theorem qX6_holder_5 : ey FX6 ini rt fin K0 K (decode cX6_holder 5) 5 L (st) h cs ss = (K0 5 L st h cs ss) := by
  rw [dX6_holder_5, ey_ok, nx_invokevirtual_72]
theorem qX6_holder_8 : ey FX6 ini rt fin K0 K (decode cX6_holder 8) 8 L ([.int x]) h cs ss = (rokI rt x ∧ fin (some (.int x)) h cs ss) := by
  rw [dX6_holder_8, ey_ok, nx_ireturn_68]
theorem qX6_shiftOf_0 : ey FX6 ini rt fin K0 K (decode cX6_shiftOf 0) 0 L (st) h cs ss = (lhas L 0 ∧ isRf (lgt L 0) ∧ K 1 L (lgt L 0 :: st) h cs ss) := by
  rw [dX6_shiftOf_0, ey_ok, nx_aload_n_3] <;> rfl
theorem qX6_shiftOf_1 : ey FX6 ini rt fin K0 K (decode cX6_shiftOf 1) 1 L (st) h cs ss = (lhas L 1 ∧ isI (lgt L 1) ∧ K 2 L (lgt L 1 :: st) h cs ss) := by
  rw [dX6_shiftOf_1, ey_ok, nx_iload_n_1] <;> rfl
theorem qX6_shiftOf_2 : ey FX6 ini rt fin K0 K (decode cX6_shiftOf 2) 2 L (st) h cs ss = (K0 2 L st h cs ss) := by
  rw [dX6_shiftOf_2, ey_ok, nx_invokevirtual_72]
theorem qX6_shiftOf_5 : ey FX6 ini rt fin K0 K (decode cX6_shiftOf 5) 5 L (st) h cs ss = (lhas L 2 ∧ isI (lgt L 2) ∧ K 6 L (lgt L 2 :: st) h cs ss) := by
  rw [dX6_shiftOf_5, ey_ok, nx_iload_n_1] <;> rfl
theorem qX6_shiftOf_6 : ey FX6 ini rt fin K0 K (decode cX6_shiftOf 6) 6 L (st) h cs ss = (K0 6 L st h cs ss) := by
  rw [dX6_shiftOf_6, ey_ok, nx_invokevirtual_72]
theorem qX6_shiftOf_9r : ey FX6 ini rt fin K0 K (decode cX6_shiftOf 9) 9 L (.ref a :: r) h cs ss = (3 < L.length ∧ K 10 (L.set 3 (some (.ref a))) r h cs ss) := by
  rw [dX6_shiftOf_9, ey_ok, nx_astore_n_8] <;> rfl
theorem qX6_shiftOf_9n : ey FX6 ini rt fin K0 K (decode cX6_shiftOf 9) 9 L (.null :: r) h cs ss = (3 < L.length ∧ K 10 (L.set 3 (some .null)) r h cs ss) := by
  rw [dX6_shiftOf_9, ey_ok, nx_astore_n_9] <;> rfl
theorem qX6_shiftOf_10 : ey FX6 ini rt fin K0 K (decode cX6_shiftOf 10) 10 L (st) h cs ss = (lhas L 3 ∧ isRf (lgt L 3) ∧ K 11 L (lgt L 3 :: st) h cs ss) := by
  rw [dX6_shiftOf_10, ey_ok, nx_aload_n_3] <;> rfl
theorem qX6_shiftOf_11n : ey FX6 ini rt fin K0 K (decode cX6_shiftOf 11) 11 L (.null :: r) h cs ss = (K 14 L r h cs ss) := by
  rw [dX6_shiftOf_11, ey_ok, nx_ifnonnull_52]
  exact and_l (by unfold jok; decide)
theorem qX6_shiftOf_11r : ey FX6 ini rt fin K0 K (decode cX6_shiftOf 11) 11 L (.ref a :: r) h cs ss = (K 24 L r h cs ss) := by
  rw [dX6_shiftOf_11, ey_ok, nx_ifnonnull_53]
  exact and_l (by unfold jok; decide)
theorem qX6_shiftOf_14 : ey FX6 ini rt fin K0 K (decode cX6_shiftOf 14) 14 L (st) h cs ss = (K0 14 L st h cs ss) := by
  rw [dX6_shiftOf_14, ey_ok, nx_new_75]
theorem qX6_shiftOf_17 : ey FX6 ini rt fin K0 K (decode cX6_shiftOf 17) 17 L (v :: r) h cs ss = (v.category = 1 ∧ K 18 L (v :: v :: r) h cs ss) := by
  rw [dX6_shiftOf_17, ey_ok, nx_dup_27]
theorem qX6_shiftOf_18 : ey FX6 ini rt fin K0 K (decode cX6_shiftOf 18) 18 L (st) h cs ss = (K0 18 L st h cs ss) := by
  rw [dX6_shiftOf_18, ey_ok, nx_ldc_79]
theorem qX6_shiftOf_20 : ey FX6 ini rt fin K0 K (decode cX6_shiftOf 20) 20 L (st) h cs ss = (K0 20 L st h cs ss) := by
  rw [dX6_shiftOf_20, ey_ok, nx_invokespecial_74]
theorem qX6_shiftOf_23 : ey FX6 ini rt fin K0 K (decode cX6_shiftOf 23) 23 L (st) h cs ss = (K0 23 L st h cs ss) := by
  rw [dX6_shiftOf_23, ey_ok, nx_athrow_80]
theorem qX6_shiftOf_24 : ey FX6 ini rt fin K0 K (decode cX6_shiftOf 24) 24 L (st) h cs ss = (lhas L 3 ∧ isRf (lgt L 3) ∧ K 25 L (lgt L 3 :: st) h cs ss) := by
  rw [dX6_shiftOf_24, ey_ok, nx_aload_n_3] <;> rfl
theorem qX6_shiftOf_25 : ey FX6 ini rt fin K0 K (decode cX6_shiftOf 25) 25 L (.ref a :: r) h cs ss = (h.1 a = some (.inl 4) ∧ K 28 L (h.2 a 0 :: r) h cs ss) := by
  rw [dX6_shiftOf_25, ey_ok, nx_getfield_54]
  exact and_l rfl
theorem qX6_shiftOf_28 : ey FX6 ini rt fin K0 K (decode cX6_shiftOf 28) 28 L ([.int x]) h cs ss = (rokI rt x ∧ fin (some (.int x)) h cs ss) := by
  rw [dX6_shiftOf_28, ey_ok, nx_ireturn_68]
theorem qX6_rest_0 : ey FX6 ini rt fin K0 K (decode cX6_rest 0) 0 L (st) h cs ss = (lhas L 0 ∧ isRf (lgt L 0) ∧ K 1 L (lgt L 0 :: st) h cs ss) := by
  rw [dX6_rest_0, ey_ok, nx_aload_n_3] <;> rfl
theorem qX6_rest_1 : ey FX6 ini rt fin K0 K (decode cX6_rest 1) 1 L (st) h cs ss = (lhas L 1 ∧ isI (lgt L 1) ∧ K 2 L (lgt L 1 :: st) h cs ss) := by
  rw [dX6_rest_1, ey_ok, nx_iload_n_1] <;> rfl
theorem qX6_rest_2 : ey FX6 ini rt fin K0 K (decode cX6_rest 2) 2 L (st) h cs ss = (K0 2 L st h cs ss) := by
  rw [dX6_rest_2, ey_ok, nx_invokevirtual_72]
theorem qX6_rest_5r : ey FX6 ini rt fin K0 K (decode cX6_rest 5) 5 L (.ref a :: r) h cs ss = (2 < L.length ∧ K 6 (L.set 2 (some (.ref a))) r h cs ss) := by
  rw [dX6_rest_5, ey_ok, nx_astore_n_8] <;> rfl
theorem qX6_rest_5n : ey FX6 ini rt fin K0 K (decode cX6_rest 5) 5 L (.null :: r) h cs ss = (2 < L.length ∧ K 6 (L.set 2 (some .null)) r h cs ss) := by
  rw [dX6_rest_5, ey_ok, nx_astore_n_9] <;> rfl
theorem qX6_rest_6 : ey FX6 ini rt fin K0 K (decode cX6_rest 6) 6 L (st) h cs ss = (lhas L 2 ∧ isRf (lgt L 2) ∧ K 7 L (lgt L 2 :: st) h cs ss) := by
  rw [dX6_rest_6, ey_ok, nx_aload_n_3] <;> rfl
theorem qX6_rest_7 : ey FX6 ini rt fin K0 K (decode cX6_rest 7) 7 L (.ref a :: r) h cs ss = (h.1 a = some (.inl 4) ∧ K 10 L (h.2 a 6 :: r) h cs ss) := by
  rw [dX6_rest_7, ey_ok, nx_getfield_54]
  exact and_l rfl
theorem qX6_rest_10n : ey FX6 ini rt fin K0 K (decode cX6_rest 10) 10 L (.null :: r) h cs ss = (K 13 L r h cs ss) := by
  rw [dX6_rest_10, ey_ok, nx_ifnonnull_52]
  exact and_l (by unfold jok; decide)
theorem qX6_rest_10r : ey FX6 ini rt fin K0 K (decode cX6_rest 10) 10 L (.ref a :: r) h cs ss = (K 19 L r h cs ss) := by
  rw [dX6_rest_10, ey_ok, nx_ifnonnull_53]
  exact and_l (by unfold jok; decide)
theorem qX6_rest_13 : ey FX6 ini rt fin K0 K (decode cX6_rest 13) 13 L (st) h cs ss = (K 16 L (.int 10000 :: st) h cs ss) := by
  rw [dX6_rest_13, ey_ok, nx_sipush_13] <;> rfl
theorem qX6_rest_16 : ey FX6 ini rt fin K0 K (decode cX6_rest 16) 16 L (st) h cs ss = (K 27 L st h cs ss) := by
  rw [dX6_rest_16, ey_ok, nx_goto_29]
  exact and_l (by unfold jok; decide)
theorem qX6_rest_19 : ey FX6 ini rt fin K0 K (decode cX6_rest 19) 19 L (st) h cs ss = (lhas L 2 ∧ isRf (lgt L 2) ∧ K 20 L (lgt L 2 :: st) h cs ss) := by
  rw [dX6_rest_19, ey_ok, nx_aload_n_3] <;> rfl
theorem qX6_rest_20 : ey FX6 ini rt fin K0 K (decode cX6_rest 20) 20 L (.ref a :: r) h cs ss = (h.1 a = some (.inl 4) ∧ K 23 L (h.2 a 6 :: r) h cs ss) := by
  rw [dX6_rest_20, ey_ok, nx_getfield_54]
  exact and_l rfl
theorem qX6_rest_23 : ey FX6 ini rt fin K0 K (decode cX6_rest 23) 23 L (st) h cs ss = (lhas L 2 ∧ isRf (lgt L 2) ∧ K 24 L (lgt L 2 :: st) h cs ss) := by
  rw [dX6_rest_23, ey_ok, nx_aload_n_3] <;> rfl
theorem qX6_rest_24 : ey FX6 ini rt fin K0 K (decode cX6_rest 24) 24 L (st) h cs ss = (K0 24 L st h cs ss) := by
  rw [dX6_rest_24, ey_ok, nx_invokevirtual_72]
theorem qX6_rest_27 : ey FX6 ini rt fin K0 K (decode cX6_rest 27) 27 L ([.int x]) h cs ss = (rokI rt x ∧ fin (some (.int x)) h cs ss) := by
  rw [dX6_rest_27, ey_ok, nx_ireturn_68]
theorem qX6_put_0 : ey FX6 ini rt fin K0 K (decode cX6_put 0) 0 L (st) h cs ss = (lhas L 1 ∧ isI (lgt L 1) ∧ K 1 L (lgt L 1 :: st) h cs ss) := by
  rw [dX6_put_0, ey_ok, nx_iload_n_1] <;> rfl
theorem qX6_put_1 : ey FX6 ini rt fin K0 K (decode cX6_put 1) 1 L (st) h cs ss = (K0 1 L st h cs ss) := by
  rw [dX6_put_1, ey_ok, nx_invokestatic_73]
theorem qX6_put_4 : ey FX6 ini rt fin K0 K (decode cX6_put 4) 4 L (.int x :: r) h cs ss = (if ¬ x = 0 then K 17 L r h cs ss else K 7 L r h cs ss) := by
  rw [dX6_put_4, ey_ok, nx_ifond_31]
  exact and_l (by unfold jok; decide)
theorem qX6_put_7 : ey FX6 ini rt fin K0 K (decode cX6_put 7) 7 L (st) h cs ss = (K0 7 L st h cs ss) := by
  rw [dX6_put_7, ey_ok, nx_new_75]
theorem qX6_put_10 : ey FX6 ini rt fin K0 K (decode cX6_put 10) 10 L (v :: r) h cs ss = (v.category = 1 ∧ K 11 L (v :: v :: r) h cs ss) := by
  rw [dX6_put_10, ey_ok, nx_dup_27]
theorem qX6_put_11 : ey FX6 ini rt fin K0 K (decode cX6_put 11) 11 L (st) h cs ss = (K0 11 L st h cs ss) := by
  rw [dX6_put_11, ey_ok, nx_ldc_79]
theorem qX6_put_13 : ey FX6 ini rt fin K0 K (decode cX6_put 13) 13 L (st) h cs ss = (K0 13 L st h cs ss) := by
  rw [dX6_put_13, ey_ok, nx_invokespecial_74]
theorem qX6_put_16 : ey FX6 ini rt fin K0 K (decode cX6_put 16) 16 L (st) h cs ss = (K0 16 L st h cs ss) := by
  rw [dX6_put_16, ey_ok, nx_athrow_80]
theorem qX6_put_17 : ey FX6 ini rt fin K0 K (decode cX6_put 17) 17 L (st) h cs ss = (lhas L 0 ∧ isRf (lgt L 0) ∧ K 18 L (lgt L 0 :: st) h cs ss) := by
  rw [dX6_put_17, ey_ok, nx_aload_n_3] <;> rfl
theorem qX6_put_18 : ey FX6 ini rt fin K0 K (decode cX6_put 18) 18 L (.ref a :: r) h cs ss = (h.1 a = some (.inl 6) ∧ K 21 L (h.2 a 6 :: r) h cs ss) := by
  rw [dX6_put_18, ey_ok, nx_getfield_54]
  exact and_l rfl
theorem qX6_put_21 : ey FX6 ini rt fin K0 K (decode cX6_put 21) 21 L (st) h cs ss = (K0 21 L st h cs ss) := by
  rw [dX6_put_21, ey_ok, nx_invokevirtual_72]
theorem qX6_put_24 : ey FX6 ini rt fin K0 K (decode cX6_put 24) 24 L (.int x :: r) h cs ss = (if x = 0 then K 37 L r h cs ss else K 27 L r h cs ss) := by
  rw [dX6_put_24, ey_ok, nx_ifond_30]
  exact and_l (by unfold jok; decide)
theorem qX6_put_27 : ey FX6 ini rt fin K0 K (decode cX6_put 27) 27 L (st) h cs ss = (K0 27 L st h cs ss) := by
  rw [dX6_put_27, ey_ok, nx_new_75]
theorem qX6_put_30 : ey FX6 ini rt fin K0 K (decode cX6_put 30) 30 L (v :: r) h cs ss = (v.category = 1 ∧ K 31 L (v :: v :: r) h cs ss) := by
  rw [dX6_put_30, ey_ok, nx_dup_27]
theorem qX6_put_31 : ey FX6 ini rt fin K0 K (decode cX6_put 31) 31 L (st) h cs ss = (K0 31 L st h cs ss) := by
  rw [dX6_put_31, ey_ok, nx_ldc_79]
theorem qX6_put_33 : ey FX6 ini rt fin K0 K (decode cX6_put 33) 33 L (st) h cs ss = (K0 33 L st h cs ss) := by
  rw [dX6_put_33, ey_ok, nx_invokespecial_74]
theorem qX6_put_36 : ey FX6 ini rt fin K0 K (decode cX6_put 36) 36 L (st) h cs ss = (K0 36 L st h cs ss) := by
  rw [dX6_put_36, ey_ok, nx_athrow_80]
theorem qX6_put_37 : ey FX6 ini rt fin K0 K (decode cX6_put 37) 37 L (st) h cs ss = (lhas L 0 ∧ isRf (lgt L 0) ∧ K 38 L (lgt L 0 :: st) h cs ss) := by
  rw [dX6_put_37, ey_ok, nx_aload_n_3] <;> rfl
theorem qX6_put_38 : ey FX6 ini rt fin K0 K (decode cX6_put 38) 38 L (.ref a :: r) h cs ss = (h.1 a = some (.inl 6) ∧ K 41 L (h.2 a 6 :: r) h cs ss) := by
  rw [dX6_put_38, ey_ok, nx_getfield_54]
  exact and_l rfl
theorem qX6_put_41 : ey FX6 ini rt fin K0 K (decode cX6_put 41) 41 L (st) h cs ss = (lhas L 1 ∧ isI (lgt L 1) ∧ K 42 L (lgt L 1 :: st) h cs ss) := by
  rw [dX6_put_41, ey_ok, nx_iload_n_1] <;> rfl
theorem qX6_put_42 : ey FX6 ini rt fin K0 K (decode cX6_put 42) 42 L (st) h cs ss = (K0 42 L st h cs ss) := by
  rw [dX6_put_42, ey_ok, nx_invokevirtual_72]
theorem qX6_put_45 : ey FX6 ini rt fin K0 K (decode cX6_put 45) 45 L (st) h cs ss = (lhas L 0 ∧ isRf (lgt L 0) ∧ K 46 L (lgt L 0 :: st) h cs ss) := by
  rw [dX6_put_45, ey_ok, nx_aload_n_3] <;> rfl
theorem qX6_put_46 : ey FX6 ini rt fin K0 K (decode cX6_put 46) 46 L (.ref a :: r) h cs ss = (h.1 a = some (.inl 6) ∧ K 49 L (h.2 a 6 :: r) h cs ss) := by
  rw [dX6_put_46, ey_ok, nx_getfield_54]
  exact and_l rfl
theorem qX6_put_49 : ey FX6 ini rt fin K0 K (decode cX6_put 49) 49 L (.ref a :: r) h cs ss = (h.1 a = some (.inl 3) ∧ K 52 L (h.2 a 1 :: r) h cs ss) := by
  rw [dX6_put_49, ey_ok, nx_getfield_54]
  exact and_l rfl
theorem qX6_put_52 : ey FX6 ini rt fin K0 K (decode cX6_put 52) 52 L ([.int x]) h cs ss = (rokI rt x ∧ fin (some (.int x)) h cs ss) := by
  rw [dX6_put_52, ey_ok, nx_ireturn_68]
theorem qX6_empty_0 : ey FX6 ini rt fin K0 K (decode cX6_empty 0) 0 L (st) h cs ss = (lhas L 0 ∧ isRf (lgt L 0) ∧ K 1 L (lgt L 0 :: st) h cs ss) := by
  rw [dX6_empty_0, ey_ok, nx_aload_n_3] <;> rfl
theorem qX6_empty_1 : ey FX6 ini rt fin K0 K (decode cX6_empty 1) 1 L (.ref a :: r) h cs ss = (h.1 a = some (.inl 6) ∧ K 4 L (h.2 a 6 :: r) h cs ss) := by
  rw [dX6_empty_1, ey_ok, nx_getfield_54]
  exact and_l rfl
theorem qX6_empty_4 : ey FX6 ini rt fin K0 K (decode cX6_empty 4) 4 L (.ref a :: r) h cs ss = (h.1 a = some (.inl 3) ∧ K 7 L (h.2 a 1 :: r) h cs ss) := by
  rw [dX6_empty_4, ey_ok, nx_getfield_54]
  exact and_l rfl
theorem qX6_empty_7 : ey FX6 ini rt fin K0 K (decode cX6_empty 7) 7 L (.int x :: r) h cs ss = (1 < L.length ∧ K 8 (L.set 1 (some (.int x))) r h cs ss) := by
  rw [dX6_empty_7, ey_ok, nx_istore_n_5] <;> rfl
theorem qX6_empty_8 : ey FX6 ini rt fin K0 K (decode cX6_empty 8) 8 L (st) h cs ss = (lhas L 0 ∧ isRf (lgt L 0) ∧ K 9 L (lgt L 0 :: st) h cs ss) := by
  rw [dX6_empty_8, ey_ok, nx_aload_n_3] <;> rfl
theorem qX6_empty_9 : ey FX6 ini rt fin K0 K (decode cX6_empty 9) 9 L (.ref a :: r) h cs ss = (h.1 a = some (.inl 6) ∧ K 12 L (h.2 a 6 :: r) h cs ss) := by
  rw [dX6_empty_9, ey_ok, nx_getfield_54]
  exact and_l rfl
theorem qX6_empty_12 : ey FX6 ini rt fin K0 K (decode cX6_empty 12) 12 L (st) h cs ss = (K0 12 L st h cs ss) := by
  rw [dX6_empty_12, ey_ok, nx_invokevirtual_72]
theorem qX6_empty_15 : ey FX6 ini rt fin K0 K (decode cX6_empty 15) 15 L (st) h cs ss = (lhas L 1 ∧ isI (lgt L 1) ∧ K 16 L (lgt L 1 :: st) h cs ss) := by
  rw [dX6_empty_15, ey_ok, nx_iload_n_1] <;> rfl
theorem qX6_empty_16 : ey FX6 ini rt fin K0 K (decode cX6_empty 16) 16 L ([.int x]) h cs ss = (rokI rt x ∧ fin (some (.int x)) h cs ss) := by
  rw [dX6_empty_16, ey_ok, nx_ireturn_68]
theorem qX6_wrongAt_0 : ey FX6 ini rt fin K0 K (decode cX6_wrongAt 0) 0 L (st) h cs ss = (lhas L 0 ∧ isRf (lgt L 0) ∧ K 1 L (lgt L 0 :: st) h cs ss) := by
  rw [dX6_wrongAt_0, ey_ok, nx_aload_n_3] <;> rfl
theorem qX6_wrongAt_1 : ey FX6 ini rt fin K0 K (decode cX6_wrongAt 1) 1 L (.ref a :: r) h cs ss = (h.1 a = some (.inl 6) ∧ K 4 L (h.2 a 6 :: r) h cs ss) := by
  rw [dX6_wrongAt_1, ey_ok, nx_getfield_54]
  exact and_l rfl
theorem qX6_wrongAt_4 : ey FX6 ini rt fin K0 K (decode cX6_wrongAt 4) 4 L (st) h cs ss = (K0 4 L st h cs ss) := by
  rw [dX6_wrongAt_4, ey_ok, nx_invokevirtual_72]
theorem qX6_wrongAt_7 : ey FX6 ini rt fin K0 K (decode cX6_wrongAt 7) 7 L ([.int x]) h cs ss = (rokI rt x ∧ fin (some (.int x)) h cs ss) := by
  rw [dX6_wrongAt_7, ey_ok, nx_ireturn_68]
theorem qX6_read_0 : ey FX6 ini rt fin K0 K (decode cX6_read 0) 0 L (st) h cs ss = (lhas L 0 ∧ isRf (lgt L 0) ∧ K 1 L (lgt L 0 :: st) h cs ss) := by
  rw [dX6_read_0, ey_ok, nx_aload_n_3] <;> rfl
theorem qX6_read_1 : ey FX6 ini rt fin K0 K (decode cX6_read 1) 1 L (.ref a :: r) h cs ss = (h.1 a = some (.inl 6) ∧ K 4 L (h.2 a 6 :: r) h cs ss) := by
  rw [dX6_read_1, ey_ok, nx_getfield_54]
  exact and_l rfl
theorem qX6_read_4 : ey FX6 ini rt fin K0 K (decode cX6_read 4) 4 L (st) h cs ss = (K0 4 L st h cs ss) := by
  rw [dX6_read_4, ey_ok, nx_invokevirtual_72]
theorem qX6_read_7 : ey FX6 ini rt fin K0 K (decode cX6_read 7) 7 L (st) h cs ss = (K 8 L (.int (-1) :: st) h cs ss) := by
  rw [dX6_read_7, ey_ok, nx_iconst_11] <;> rfl
theorem qX6_read_8 : ey FX6 ini rt fin K0 K (decode cX6_read 8) 8 L (.int y :: .int x :: r) h cs ss = (if x = y then K 21 L r h cs ss else K 11 L r h cs ss) := by
  rw [dX6_read_8, ey_ok, nx_if_icmp_36]
  exact and_l (by unfold jok; decide)
theorem qX6_read_11 : ey FX6 ini rt fin K0 K (decode cX6_read 11) 11 L (st) h cs ss = (K0 11 L st h cs ss) := by
  rw [dX6_read_11, ey_ok, nx_new_75]
theorem qX6_read_14 : ey FX6 ini rt fin K0 K (decode cX6_read 14) 14 L (v :: r) h cs ss = (v.category = 1 ∧ K 15 L (v :: v :: r) h cs ss) := by
  rw [dX6_read_14, ey_ok, nx_dup_27]
theorem qX6_read_15 : ey FX6 ini rt fin K0 K (decode cX6_read 15) 15 L (st) h cs ss = (K0 15 L st h cs ss) := by
  rw [dX6_read_15, ey_ok, nx_ldc_79]
theorem qX6_read_17 : ey FX6 ini rt fin K0 K (decode cX6_read 17) 17 L (st) h cs ss = (K0 17 L st h cs ss) := by
  rw [dX6_read_17, ey_ok, nx_invokespecial_74]
theorem qX6_read_20 : ey FX6 ini rt fin K0 K (decode cX6_read 20) 20 L (st) h cs ss = (K0 20 L st h cs ss) := by
  rw [dX6_read_20, ey_ok, nx_athrow_80]
theorem qX6_read_21 : ey FX6 ini rt fin K0 K (decode cX6_read 21) 21 L (st) h cs ss = (lhas L 0 ∧ isRf (lgt L 0) ∧ K 22 L (lgt L 0 :: st) h cs ss) := by
  rw [dX6_read_21, ey_ok, nx_aload_n_3] <;> rfl
theorem qX6_read_22 : ey FX6 ini rt fin K0 K (decode cX6_read 22) 22 L (.ref a :: r) h cs ss = (h.1 a = some (.inl 6) ∧ K 25 L (h.2 a 8 :: r) h cs ss) := by
  rw [dX6_read_22, ey_ok, nx_getfield_54]
  exact and_l rfl
theorem qX6_read_25 : ey FX6 ini rt fin K0 K (decode cX6_read 25) 25 L (st) h cs ss = (lhas L 0 ∧ isRf (lgt L 0) ∧ K 26 L (lgt L 0 :: st) h cs ss) := by
  rw [dX6_read_25, ey_ok, nx_aload_n_3] <;> rfl
theorem qX6_read_26 : ey FX6 ini rt fin K0 K (decode cX6_read 26) 26 L (.ref a :: r) h cs ss = (h.1 a = some (.inl 6) ∧ K 29 L (h.2 a 2 :: r) h cs ss) := by
  rw [dX6_read_26, ey_ok, nx_getfield_54]
  exact and_l rfl
theorem qX6_read_29 : ey FX6 ini rt fin K0 K (decode cX6_read 29) 29 L (.ref a :: r) h cs ss = (isA (h.1 a) (fun _ _ => True) ∧ K 30 L (.int (nI (alen (h.1 a))) :: r) h cs ss) := by
  rw [dX6_read_29, ey_ok, nx_arraylength_56]
theorem qX6_read_30 : ey FX6 ini rt fin K0 K (decode cX6_read 30) 30 L (.int y :: .int x :: r) h cs ss = (if x < y then K 43 L r h cs ss else K 33 L r h cs ss) := by
  rw [dX6_read_30, ey_ok, nx_if_icmp_38]
  exact and_l (by unfold jok; decide)
theorem qX6_read_33 : ey FX6 ini rt fin K0 K (decode cX6_read 33) 33 L (st) h cs ss = (K0 33 L st h cs ss) := by
  rw [dX6_read_33, ey_ok, nx_new_75]
theorem qX6_read_36 : ey FX6 ini rt fin K0 K (decode cX6_read 36) 36 L (v :: r) h cs ss = (v.category = 1 ∧ K 37 L (v :: v :: r) h cs ss) := by
  rw [dX6_read_36, ey_ok, nx_dup_27]
theorem qX6_read_37 : ey FX6 ini rt fin K0 K (decode cX6_read 37) 37 L (st) h cs ss = (K0 37 L st h cs ss) := by
  rw [dX6_read_37, ey_ok, nx_ldc_79]
theorem qX6_read_39 : ey FX6 ini rt fin K0 K (decode cX6_read 39) 39 L (st) h cs ss = (K0 39 L st h cs ss) := by
  rw [dX6_read_39, ey_ok, nx_invokespecial_74]
theorem qX6_read_42 : ey FX6 ini rt fin K0 K (decode cX6_read 42) 42 L (st) h cs ss = (K0 42 L st h cs ss) := by
  rw [dX6_read_42, ey_ok, nx_athrow_80]
theorem qX6_read_43 : ey FX6 ini rt fin K0 K (decode cX6_read 43) 43 L (st) h cs ss = (lhas L 0 ∧ isRf (lgt L 0) ∧ K 44 L (lgt L 0 :: st) h cs ss) := by
  rw [dX6_read_43, ey_ok, nx_aload_n_3] <;> rfl
theorem qX6_read_44 : ey FX6 ini rt fin K0 K (decode cX6_read 44) 44 L (.ref a :: r) h cs ss = (h.1 a = some (.inl 6) ∧ K 47 L (h.2 a 8 :: r) h cs ss) := by
  rw [dX6_read_44, ey_ok, nx_getfield_54]
  exact and_l rfl
theorem qX6_read_47 : ey FX6 ini rt fin K0 K (decode cX6_read 47) 47 L (.int x :: r) h cs ss = (1 < L.length ∧ K 48 (L.set 1 (some (.int x))) r h cs ss) := by
  rw [dX6_read_47, ey_ok, nx_istore_n_5] <;> rfl
theorem qX6_read_48 : ey FX6 ini rt fin K0 K (decode cX6_read 48) 48 L (st) h cs ss = (lhas L 0 ∧ isRf (lgt L 0) ∧ K 49 L (lgt L 0 :: st) h cs ss) := by
  rw [dX6_read_48, ey_ok, nx_aload_n_3] <;> rfl
theorem qX6_read_49 : ey FX6 ini rt fin K0 K (decode cX6_read 49) 49 L (.ref a :: r) h cs ss = (h.1 a = some (.inl 6) ∧ K 52 L (h.2 a 2 :: r) h cs ss) := by
  rw [dX6_read_49, ey_ok, nx_getfield_54]
  exact and_l rfl
theorem qX6_read_52 : ey FX6 ini rt fin K0 K (decode cX6_read 52) 52 L (st) h cs ss = (lhas L 1 ∧ isI (lgt L 1) ∧ K 53 L (lgt L 1 :: st) h cs ss) := by
  rw [dX6_read_52, ey_ok, nx_iload_n_1] <;> rfl
theorem qX6_read_53 : ey FX6 ini rt fin K0 K (decode cX6_read 53) 53 L (st) h cs ss = (K0 53 L st h cs ss) := by
  rw [dX6_read_53, ey_ok, nx_new_75]
theorem qX6_read_56 : ey FX6 ini rt fin K0 K (decode cX6_read 56) 56 L (v :: r) h cs ss = (v.category = 1 ∧ K 57 L (v :: v :: r) h cs ss) := by
  rw [dX6_read_56, ey_ok, nx_dup_27]
theorem qX6_read_57 : ey FX6 ini rt fin K0 K (decode cX6_read 57) 57 L (st) h cs ss = (lhas L 1 ∧ isI (lgt L 1) ∧ K 58 L (lgt L 1 :: st) h cs ss) := by
  rw [dX6_read_57, ey_ok, nx_iload_n_1] <;> rfl
theorem qX6_read_58 : ey FX6 ini rt fin K0 K (decode cX6_read 58) 58 L (st) h cs ss = (lhas L 0 ∧ isRf (lgt L 0) ∧ K 59 L (lgt L 0 :: st) h cs ss) := by
  rw [dX6_read_58, ey_ok, nx_aload_n_3] <;> rfl
theorem qX6_read_59 : ey FX6 ini rt fin K0 K (decode cX6_read 59) 59 L (.ref a :: r) h cs ss = (h.1 a = some (.inl 6) ∧ K 62 L (h.2 a 6 :: r) h cs ss) := by
  rw [dX6_read_59, ey_ok, nx_getfield_54]
  exact and_l rfl
theorem qX6_read_62 : ey FX6 ini rt fin K0 K (decode cX6_read 62) 62 L (st) h cs ss = (K0 62 L st h cs ss) := by
  rw [dX6_read_62, ey_ok, nx_invokespecial_74]
theorem qX6_read_65r : ey FX6 ini rt fin K0 K (decode cX6_read 65) 65 L (.ref a2 :: .int i :: .ref a :: r) h cs ss = (isA (h.1 a) (fun t m => 4 ≤ t ∧ h.1 a2 = some (.inl (vec t)) ∧ vp_in i m) ∧ K 66 L r (h.1, hup h.2 a i.toNatClampNeg (.ref a2)) cs ss) := by
  rw [dX6_read_65, ey_ok, nx_aastore_66]
theorem qX6_read_65n : ey FX6 ini rt fin K0 K (decode cX6_read 65) 65 L (.null :: .int i :: .ref a :: r) h cs ss = (isA (h.1 a) (fun t m => 4 ≤ t ∧ vp_in i m) ∧ K 66 L r (h.1, hup h.2 a i.toNatClampNeg .null) cs ss) := by
  rw [dX6_read_65, ey_ok, nx_aastore_67]
theorem qX6_read_66 : ey FX6 ini rt fin K0 K (decode cX6_read 66) 66 L (st) h cs ss = (lhas L 0 ∧ isRf (lgt L 0) ∧ K 67 L (lgt L 0 :: st) h cs ss) := by
  rw [dX6_read_66, ey_ok, nx_aload_n_3] <;> rfl
theorem qX6_read_67 : ey FX6 ini rt fin K0 K (decode cX6_read 67) 67 L (v :: r) h cs ss = (v.category = 1 ∧ K 68 L (v :: v :: r) h cs ss) := by
  rw [dX6_read_67, ey_ok, nx_dup_27]
theorem qX6_read_68 : ey FX6 ini rt fin K0 K (decode cX6_read 68) 68 L (.ref a :: r) h cs ss = (h.1 a = some (.inl 6) ∧ K 71 L (h.2 a 8 :: r) h cs ss) := by
  rw [dX6_read_68, ey_ok, nx_getfield_54]
  exact and_l rfl
theorem qX6_read_71 : ey FX6 ini rt fin K0 K (decode cX6_read 71) 71 L (st) h cs ss = (K 72 L (.int 1 :: st) h cs ss) := by
  rw [dX6_read_71, ey_ok, nx_iconst_11] <;> rfl
theorem qX6_read_72 : ey FX6 ini rt fin K0 K (decode cX6_read 72) 72 L (.int y :: .int x :: r) h cs ss = (K 73 L (.int (x + y) :: r) h cs ss) := by
  rw [dX6_read_72, ey_ok, nx_iadd_16]
theorem qX6_read_73 : ey FX6 ini rt fin K0 K (decode cX6_read 73) 73 L (v :: .ref a :: r) h cs ss = (h.1 a = some (.inl 6) ∧ okv (.int) v ∧ K 76 L r (h.1, hup h.2 a 8 v) cs ss) := by
  rw [dX6_read_73, ey_ok, nx_putfield_55]
  exact (and_l rfl).trans (and_m (fun z => nomatch z))
theorem qX6_read_76 : ey FX6 ini rt fin K0 K (decode cX6_read 76) 76 L (st) h cs ss = (lhas L 0 ∧ isRf (lgt L 0) ∧ K 77 L (lgt L 0 :: st) h cs ss) := by
  rw [dX6_read_76, ey_ok, nx_aload_n_3] <;> rfl
theorem qX6_read_77 : ey FX6 ini rt fin K0 K (decode cX6_read 77) 77 L (.ref a :: r) h cs ss = (h.1 a = some (.inl 6) ∧ K 80 L (h.2 a 6 :: r) h cs ss) := by
  rw [dX6_read_77, ey_ok, nx_getfield_54]
  exact and_l rfl
theorem qX6_read_80 : ey FX6 ini rt fin K0 K (decode cX6_read 80) 80 L (st) h cs ss = (K0 80 L st h cs ss) := by
  rw [dX6_read_80, ey_ok, nx_invokevirtual_72]
theorem qX6_read_83 : ey FX6 ini rt fin K0 K (decode cX6_read 83) 83 L (st) h cs ss = (lhas L 0 ∧ isRf (lgt L 0) ∧ K 84 L (lgt L 0 :: st) h cs ss) := by
  rw [dX6_read_83, ey_ok, nx_aload_n_3] <;> rfl
theorem qX6_read_84 : ey FX6 ini rt fin K0 K (decode cX6_read 84) 84 L (st) h cs ss = (K0 84 L st h cs ss) := by
  rw [dX6_read_84, ey_ok, nx_invokevirtual_72]
theorem qX6_read_87 : ey FX6 ini rt fin K0 K (decode cX6_read 87) 87 L (v :: r) h cs ss = (v.category = 1 ∧ K 88 L r h cs ss) := by
  rw [dX6_read_87, ey_ok, nx_pop_28]
theorem qX6_read_88 : ey FX6 ini rt fin K0 K (decode cX6_read 88) 88 L (st) h cs ss = (lhas L 1 ∧ isI (lgt L 1) ∧ K 89 L (lgt L 1 :: st) h cs ss) := by
  rw [dX6_read_88, ey_ok, nx_iload_n_1] <;> rfl
theorem qX6_read_89 : ey FX6 ini rt fin K0 K (decode cX6_read 89) 89 L ([.int x]) h cs ss = (rokI rt x ∧ fin (some (.int x)) h cs ss) := by
  rw [dX6_read_89, ey_ok, nx_ireturn_68]
theorem qX6_drop_0 : ey FX6 ini rt fin K0 K (decode cX6_drop 0) 0 L (st) h cs ss = (lhas L 0 ∧ isRf (lgt L 0) ∧ K 1 L (lgt L 0 :: st) h cs ss) := by
  rw [dX6_drop_0, ey_ok, nx_aload_n_3] <;> rfl
theorem qX6_drop_1 : ey FX6 ini rt fin K0 K (decode cX6_drop 1) 1 L (st) h cs ss = (lhas L 1 ∧ isI (lgt L 1) ∧ K 2 L (lgt L 1 :: st) h cs ss) := by
  rw [dX6_drop_1, ey_ok, nx_iload_n_1] <;> rfl
theorem qX6_drop_2 : ey FX6 ini rt fin K0 K (decode cX6_drop 2) 2 L (st) h cs ss = (K0 2 L st h cs ss) := by
  rw [dX6_drop_2, ey_ok, nx_invokevirtual_72]
theorem qX6_drop_5r : ey FX6 ini rt fin K0 K (decode cX6_drop 5) 5 L (.ref a :: r) h cs ss = (2 < L.length ∧ K 6 (L.set 2 (some (.ref a))) r h cs ss) := by
  rw [dX6_drop_5, ey_ok, nx_astore_n_8] <;> rfl
theorem qX6_drop_5n : ey FX6 ini rt fin K0 K (decode cX6_drop 5) 5 L (.null :: r) h cs ss = (2 < L.length ∧ K 6 (L.set 2 (some .null)) r h cs ss) := by
  rw [dX6_drop_5, ey_ok, nx_astore_n_9] <;> rfl
theorem qX6_drop_6 : ey FX6 ini rt fin K0 K (decode cX6_drop 6) 6 L (st) h cs ss = (lhas L 2 ∧ isRf (lgt L 2) ∧ K 7 L (lgt L 2 :: st) h cs ss) := by
  rw [dX6_drop_6, ey_ok, nx_aload_n_3] <;> rfl
theorem qX6_drop_7 : ey FX6 ini rt fin K0 K (decode cX6_drop 7) 7 L (.ref a :: r) h cs ss = (h.1 a = some (.inl 2) ∧ K 10 L (h.2 a 5 :: r) h cs ss) := by
  rw [dX6_drop_7, ey_ok, nx_getfield_54]
  exact and_l rfl
theorem qX6_drop_10 : ey FX6 ini rt fin K0 K (decode cX6_drop 10) 10 L (.int x :: r) h cs ss = (if x = 0 then K 23 L r h cs ss else K 13 L r h cs ss) := by
  rw [dX6_drop_10, ey_ok, nx_ifond_30]
  exact and_l (by unfold jok; decide)
theorem qX6_drop_13 : ey FX6 ini rt fin K0 K (decode cX6_drop 13) 13 L (st) h cs ss = (K0 13 L st h cs ss) := by
  rw [dX6_drop_13, ey_ok, nx_new_75]
theorem qX6_drop_16 : ey FX6 ini rt fin K0 K (decode cX6_drop 16) 16 L (v :: r) h cs ss = (v.category = 1 ∧ K 17 L (v :: v :: r) h cs ss) := by
  rw [dX6_drop_16, ey_ok, nx_dup_27]
theorem qX6_drop_17 : ey FX6 ini rt fin K0 K (decode cX6_drop 17) 17 L (st) h cs ss = (K0 17 L st h cs ss) := by
  rw [dX6_drop_17, ey_ok, nx_ldc_79]
theorem qX6_drop_19 : ey FX6 ini rt fin K0 K (decode cX6_drop 19) 19 L (st) h cs ss = (K0 19 L st h cs ss) := by
  rw [dX6_drop_19, ey_ok, nx_invokespecial_74]
theorem qX6_drop_22 : ey FX6 ini rt fin K0 K (decode cX6_drop 22) 22 L (st) h cs ss = (K0 22 L st h cs ss) := by
  rw [dX6_drop_22, ey_ok, nx_athrow_80]
theorem qX6_drop_23 : ey FX6 ini rt fin K0 K (decode cX6_drop 23) 23 L (st) h cs ss = (lhas L 2 ∧ isRf (lgt L 2) ∧ K 24 L (lgt L 2 :: st) h cs ss) := by
  rw [dX6_drop_23, ey_ok, nx_aload_n_3] <;> rfl
theorem qX6_drop_24 : ey FX6 ini rt fin K0 K (decode cX6_drop 24) 24 L (st) h cs ss = (K 25 L (.int 1 :: st) h cs ss) := by
  rw [dX6_drop_24, ey_ok, nx_iconst_11] <;> rfl
theorem qX6_drop_25 : ey FX6 ini rt fin K0 K (decode cX6_drop 25) 25 L (v :: .ref a :: r) h cs ss = (h.1 a = some (.inl 2) ∧ okv (.boolean) v ∧ K 28 L r (h.1, hup h.2 a 5 v) cs ss) := by
  rw [dX6_drop_25, ey_ok, nx_putfield_55]
  exact (and_l rfl).trans (and_m (fun z => nomatch z))
theorem qX6_drop_28 : ey FX6 ini rt fin K0 K (decode cX6_drop 28) 28 L (st) h cs ss = (lhas L 0 ∧ isRf (lgt L 0) ∧ K 29 L (lgt L 0 :: st) h cs ss) := by
  rw [dX6_drop_28, ey_ok, nx_aload_n_3] <;> rfl
theorem qX6_drop_29 : ey FX6 ini rt fin K0 K (decode cX6_drop 29) 29 L (st) h cs ss = (K0 29 L st h cs ss) := by
  rw [dX6_drop_29, ey_ok, nx_invokevirtual_72]
theorem qX6_drop_32 : ey FX6 ini rt fin K0 K (decode cX6_drop 32) 32 L ([.int x]) h cs ss = (rokI rt x ∧ fin (some (.int x)) h cs ss) := by
  rw [dX6_drop_32, ey_ok, nx_ireturn_68]
theorem qX6_breaks_0 : ey FX6 ini rt fin K0 K (decode cX6_breaks 0) 0 L (st) h cs ss = (lhas L 0 ∧ isRf (lgt L 0) ∧ K 1 L (lgt L 0 :: st) h cs ss) := by
  rw [dX6_breaks_0, ey_ok, nx_aload_n_3] <;> rfl
theorem qX6_breaks_1 : ey FX6 ini rt fin K0 K (decode cX6_breaks 1) 1 L (st) h cs ss = (lhas L 2 ∧ isI (lgt L 2) ∧ K 2 L (lgt L 2 :: st) h cs ss) := by
  rw [dX6_breaks_1, ey_ok, nx_iload_n_1] <;> rfl
theorem qX6_breaks_2 : ey FX6 ini rt fin K0 K (decode cX6_breaks 2) 2 L (st) h cs ss = (K0 2 L st h cs ss) := by
  rw [dX6_breaks_2, ey_ok, nx_invokevirtual_72]
theorem qX6_breaks_5 : ey FX6 ini rt fin K0 K (decode cX6_breaks 5) 5 L (st) h cs ss = (lhas L 0 ∧ isRf (lgt L 0) ∧ K 6 L (lgt L 0 :: st) h cs ss) := by
  rw [dX6_breaks_5, ey_ok, nx_aload_n_3] <;> rfl
theorem qX6_breaks_6 : ey FX6 ini rt fin K0 K (decode cX6_breaks 6) 6 L (st) h cs ss = (lhas L 1 ∧ isI (lgt L 1) ∧ K 7 L (lgt L 1 :: st) h cs ss) := by
  rw [dX6_breaks_6, ey_ok, nx_iload_n_1] <;> rfl
theorem qX6_breaks_7 : ey FX6 ini rt fin K0 K (decode cX6_breaks 7) 7 L (st) h cs ss = (K0 7 L st h cs ss) := by
  rw [dX6_breaks_7, ey_ok, nx_invokevirtual_72]
theorem qX6_breaks_10 : ey FX6 ini rt fin K0 K (decode cX6_breaks 10) 10 L (st) h cs ss = (K0 10 L st h cs ss) := by
  rw [dX6_breaks_10, ey_ok, nx_invokevirtual_72]
theorem qX6_breaks_13 : ey FX6 ini rt fin K0 K (decode cX6_breaks 13) 13 L ([.int x]) h cs ss = (rokI rt x ∧ fin (some (.int x)) h cs ss) := by
  rw [dX6_breaks_13, ey_ok, nx_ireturn_68]
theorem qX6_breaches_0 : ey FX6 ini rt fin K0 K (decode cX6_breaches 0) 0 L (st) h cs ss = (lhas L 0 ∧ isRf (lgt L 0) ∧ K 1 L (lgt L 0 :: st) h cs ss) := by
  rw [dX6_breaches_0, ey_ok, nx_aload_n_3] <;> rfl
theorem qX6_breaches_1 : ey FX6 ini rt fin K0 K (decode cX6_breaches 1) 1 L (st) h cs ss = (lhas L 1 ∧ isI (lgt L 1) ∧ K 2 L (lgt L 1 :: st) h cs ss) := by
  rw [dX6_breaches_1, ey_ok, nx_iload_n_1] <;> rfl
theorem qX6_breaches_2 : ey FX6 ini rt fin K0 K (decode cX6_breaches 2) 2 L (st) h cs ss = (K0 2 L st h cs ss) := by
  rw [dX6_breaches_2, ey_ok, nx_invokevirtual_72]
theorem qX6_breaches_5r : ey FX6 ini rt fin K0 K (decode cX6_breaches 5) 5 L (.ref a :: r) h cs ss = (3 < L.length ∧ K 6 (L.set 3 (some (.ref a))) r h cs ss) := by
  rw [dX6_breaches_5, ey_ok, nx_astore_n_8] <;> rfl
theorem qX6_breaches_5n : ey FX6 ini rt fin K0 K (decode cX6_breaches 5) 5 L (.null :: r) h cs ss = (3 < L.length ∧ K 6 (L.set 3 (some .null)) r h cs ss) := by
  rw [dX6_breaches_5, ey_ok, nx_astore_n_9] <;> rfl
theorem qX6_breaches_6 : ey FX6 ini rt fin K0 K (decode cX6_breaches 6) 6 L (st) h cs ss = (lhas L 2 ∧ isI (lgt L 2) ∧ K 7 L (lgt L 2 :: st) h cs ss) := by
  rw [dX6_breaches_6, ey_ok, nx_iload_n_1] <;> rfl
theorem qX6_breaches_7 : ey FX6 ini rt fin K0 K (decode cX6_breaches 7) 7 L (.int x :: r) h cs ss = (if x < 0 then K 16 L r h cs ss else K 10 L r h cs ss) := by
  rw [dX6_breaches_7, ey_ok, nx_ifond_32]
  exact and_l (by unfold jok; decide)
theorem qX6_breaches_10 : ey FX6 ini rt fin K0 K (decode cX6_breaches 10) 10 L (st) h cs ss = (lhas L 2 ∧ isI (lgt L 2) ∧ K 11 L (lgt L 2 :: st) h cs ss) := by
  rw [dX6_breaches_10, ey_ok, nx_iload_n_1] <;> rfl
theorem qX6_breaches_11 : ey FX6 ini rt fin K0 K (decode cX6_breaches 11) 11 L (st) h cs ss = (K 13 L (.int 11 :: st) h cs ss) := by
  rw [dX6_breaches_11, ey_ok, nx_bipush_12] <;> rfl
theorem qX6_breaches_13 : ey FX6 ini rt fin K0 K (decode cX6_breaches 13) 13 L (.int y :: .int x :: r) h cs ss = (if x ≤ y then K 26 L r h cs ss else K 16 L r h cs ss) := by
  rw [dX6_breaches_13, ey_ok, nx_if_icmp_41]
  exact and_l (by unfold jok; decide)
theorem qX6_breaches_16 : ey FX6 ini rt fin K0 K (decode cX6_breaches 16) 16 L (st) h cs ss = (K0 16 L st h cs ss) := by
  rw [dX6_breaches_16, ey_ok, nx_new_75]
theorem qX6_breaches_19 : ey FX6 ini rt fin K0 K (decode cX6_breaches 19) 19 L (v :: r) h cs ss = (v.category = 1 ∧ K 20 L (v :: v :: r) h cs ss) := by
  rw [dX6_breaches_19, ey_ok, nx_dup_27]
theorem qX6_breaches_20 : ey FX6 ini rt fin K0 K (decode cX6_breaches 20) 20 L (st) h cs ss = (K0 20 L st h cs ss) := by
  rw [dX6_breaches_20, ey_ok, nx_ldc_79]
theorem qX6_breaches_22 : ey FX6 ini rt fin K0 K (decode cX6_breaches 22) 22 L (st) h cs ss = (K0 22 L st h cs ss) := by
  rw [dX6_breaches_22, ey_ok, nx_invokespecial_74]
theorem qX6_breaches_25 : ey FX6 ini rt fin K0 K (decode cX6_breaches 25) 25 L (st) h cs ss = (K0 25 L st h cs ss) := by
  rw [dX6_breaches_25, ey_ok, nx_athrow_80]
theorem qX6_breaches_26 : ey FX6 ini rt fin K0 K (decode cX6_breaches 26) 26 L (st) h cs ss = (K 27 L (.int 0 :: st) h cs ss) := by
  rw [dX6_breaches_26, ey_ok, nx_iconst_11] <;> rfl
theorem qX6_breaches_27 : ey FX6 ini rt fin K0 K (decode cX6_breaches 27) 27 L (.int x :: r) h cs ss = (4 < L.length ∧ K 29 (L.set 4 (some (.int x))) r h cs ss) := by
  rw [dX6_breaches_27, ey_ok, nx_istore_4] <;> rfl
theorem qX6_breaches_29 : ey FX6 ini rt fin K0 K (decode cX6_breaches 29) 29 L (st) h cs ss = (lhas L 3 ∧ isRf (lgt L 3) ∧ K 30 L (lgt L 3 :: st) h cs ss) := by
  rw [dX6_breaches_29, ey_ok, nx_aload_n_3] <;> rfl
theorem qX6_breaches_30 : ey FX6 ini rt fin K0 K (decode cX6_breaches 30) 30 L (.ref a :: r) h cs ss = (h.1 a = some (.inl 5) ∧ K 33 L (h.2 a 1 :: r) h cs ss) := by
  rw [dX6_breaches_30, ey_ok, nx_getfield_54]
  exact and_l rfl
theorem qX6_breaches_33r : ey FX6 ini rt fin K0 K (decode cX6_breaches 33) 33 L (.ref a :: r) h cs ss = (5 < L.length ∧ K 35 (L.set 5 (some (.ref a))) r h cs ss) := by
  rw [dX6_breaches_33, ey_ok, nx_astore_6] <;> rfl
theorem qX6_breaches_33n : ey FX6 ini rt fin K0 K (decode cX6_breaches 33) 33 L (.null :: r) h cs ss = (5 < L.length ∧ K 35 (L.set 5 (some .null)) r h cs ss) := by
  rw [dX6_breaches_33, ey_ok, nx_astore_7] <;> rfl
theorem qX6_breaches_35 : ey FX6 ini rt fin K0 K (decode cX6_breaches 35) 35 L (st) h cs ss = (lhas L 5 ∧ isRf (lgt L 5) ∧ K 37 L (lgt L 5 :: st) h cs ss) := by
  rw [dX6_breaches_35, ey_ok, nx_aload_2] <;> rfl
theorem qX6_breaches_37 : ey FX6 ini rt fin K0 K (decode cX6_breaches 37) 37 L (.ref a :: r) h cs ss = (isA (h.1 a) (fun _ _ => True) ∧ K 38 L (.int (nI (alen (h.1 a))) :: r) h cs ss) := by
  rw [dX6_breaches_37, ey_ok, nx_arraylength_56]
theorem qX6_breaches_38 : ey FX6 ini rt fin K0 K (decode cX6_breaches 38) 38 L (.int x :: r) h cs ss = (6 < L.length ∧ K 40 (L.set 6 (some (.int x))) r h cs ss) := by
  rw [dX6_breaches_38, ey_ok, nx_istore_4] <;> rfl
theorem qX6_breaches_40 : ey FX6 ini rt fin K0 K (decode cX6_breaches 40) 40 L (st) h cs ss = (K 41 L (.int 0 :: st) h cs ss) := by
  rw [dX6_breaches_40, ey_ok, nx_iconst_11] <;> rfl
theorem qX6_breaches_41 : ey FX6 ini rt fin K0 K (decode cX6_breaches 41) 41 L (.int x :: r) h cs ss = (7 < L.length ∧ K 43 (L.set 7 (some (.int x))) r h cs ss) := by
  rw [dX6_breaches_41, ey_ok, nx_istore_4] <;> rfl
theorem qX6_breaches_43 : ey FX6 ini rt fin K0 K (decode cX6_breaches 43) 43 L (st) h cs ss = (lhas L 7 ∧ isI (lgt L 7) ∧ K 45 L (lgt L 7 :: st) h cs ss) := by
  rw [dX6_breaches_43, ey_ok, nx_iload_0] <;> rfl
theorem qX6_breaches_45 : ey FX6 ini rt fin K0 K (decode cX6_breaches 45) 45 L (st) h cs ss = (lhas L 6 ∧ isI (lgt L 6) ∧ K 47 L (lgt L 6 :: st) h cs ss) := by
  rw [dX6_breaches_45, ey_ok, nx_iload_0] <;> rfl
theorem qX6_breaches_47 : ey FX6 ini rt fin K0 K (decode cX6_breaches 47) 47 L (.int y :: .int x :: r) h cs ss = (if y ≤ x then K 88 L r h cs ss else K 50 L r h cs ss) := by
  rw [dX6_breaches_47, ey_ok, nx_if_icmp_39]
  exact and_l (by unfold jok; decide)
theorem qX6_breaches_50 : ey FX6 ini rt fin K0 K (decode cX6_breaches 50) 50 L (st) h cs ss = (lhas L 5 ∧ isRf (lgt L 5) ∧ K 52 L (lgt L 5 :: st) h cs ss) := by
  rw [dX6_breaches_50, ey_ok, nx_aload_2] <;> rfl
theorem qX6_breaches_52 : ey FX6 ini rt fin K0 K (decode cX6_breaches 52) 52 L (st) h cs ss = (lhas L 7 ∧ isI (lgt L 7) ∧ K 54 L (lgt L 7 :: st) h cs ss) := by
  rw [dX6_breaches_52, ey_ok, nx_iload_0] <;> rfl
theorem qX6_breaches_54 : ey FX6 ini rt fin K0 K (decode cX6_breaches 54) 54 L (.int i :: .ref a :: r) h cs ss = (isA (h.1 a) (fun k m => 4 ≤ k ∧ vp_in i m) ∧ K 55 L (h.2 a i.toNatClampNeg :: r) h cs ss) := by
  rw [dX6_breaches_54, ey_ok, nx_aaload_61]
theorem qX6_breaches_55r : ey FX6 ini rt fin K0 K (decode cX6_breaches 55) 55 L (.ref a :: r) h cs ss = (8 < L.length ∧ K 57 (L.set 8 (some (.ref a))) r h cs ss) := by
  rw [dX6_breaches_55, ey_ok, nx_astore_6] <;> rfl
theorem qX6_breaches_55n : ey FX6 ini rt fin K0 K (decode cX6_breaches 55) 55 L (.null :: r) h cs ss = (8 < L.length ∧ K 57 (L.set 8 (some .null)) r h cs ss) := by
  rw [dX6_breaches_55, ey_ok, nx_astore_7] <;> rfl
theorem qX6_breaches_57 : ey FX6 ini rt fin K0 K (decode cX6_breaches 57) 57 L (st) h cs ss = (lhas L 8 ∧ isRf (lgt L 8) ∧ K 59 L (lgt L 8 :: st) h cs ss) := by
  rw [dX6_breaches_57, ey_ok, nx_aload_2] <;> rfl
theorem qX6_breaches_59n : ey FX6 ini rt fin K0 K (decode cX6_breaches 59) 59 L (.null :: r) h cs ss = (K 82 L r h cs ss) := by
  rw [dX6_breaches_59, ey_ok, nx_ifnull_50]
  exact and_l (by unfold jok; decide)
theorem qX6_breaches_59r : ey FX6 ini rt fin K0 K (decode cX6_breaches 59) 59 L (.ref a :: r) h cs ss = (K 62 L r h cs ss) := by
  rw [dX6_breaches_59, ey_ok, nx_ifnull_51]
  exact and_l (by unfold jok; decide)
theorem qX6_breaches_62 : ey FX6 ini rt fin K0 K (decode cX6_breaches 62) 62 L (st) h cs ss = (lhas L 8 ∧ isRf (lgt L 8) ∧ K 64 L (lgt L 8 :: st) h cs ss) := by
  rw [dX6_breaches_62, ey_ok, nx_aload_2] <;> rfl
theorem qX6_breaches_64 : ey FX6 ini rt fin K0 K (decode cX6_breaches 64) 64 L (st) h cs ss = (K0 64 L st h cs ss) := by
  rw [dX6_breaches_64, ey_ok, nx_invokevirtual_72]
theorem qX6_breaches_67 : ey FX6 ini rt fin K0 K (decode cX6_breaches 67) 67 L (st) h cs ss = (lhas L 2 ∧ isI (lgt L 2) ∧ K 68 L (lgt L 2 :: st) h cs ss) := by
  rw [dX6_breaches_67, ey_ok, nx_iload_n_1] <;> rfl
theorem qX6_breaches_68 : ey FX6 ini rt fin K0 K (decode cX6_breaches 68) 68 L (.int y :: .int x :: r) h cs ss = (if ¬ x = y then K 82 L r h cs ss else K 71 L r h cs ss) := by
  rw [dX6_breaches_68, ey_ok, nx_if_icmp_37]
  exact and_l (by unfold jok; decide)
theorem qX6_breaches_71 : ey FX6 ini rt fin K0 K (decode cX6_breaches 71) 71 L (st) h cs ss = (lhas L 4 ∧ isI (lgt L 4) ∧ K 73 L (lgt L 4 :: st) h cs ss) := by
  rw [dX6_breaches_71, ey_ok, nx_iload_0] <;> rfl
theorem qX6_breaches_73 : ey FX6 ini rt fin K0 K (decode cX6_breaches 73) 73 L (st) h cs ss = (lhas L 0 ∧ isRf (lgt L 0) ∧ K 74 L (lgt L 0 :: st) h cs ss) := by
  rw [dX6_breaches_73, ey_ok, nx_aload_n_3] <;> rfl
theorem qX6_breaches_74 : ey FX6 ini rt fin K0 K (decode cX6_breaches 74) 74 L (st) h cs ss = (lhas L 8 ∧ isRf (lgt L 8) ∧ K 76 L (lgt L 8 :: st) h cs ss) := by
  rw [dX6_breaches_74, ey_ok, nx_aload_2] <;> rfl
theorem qX6_breaches_76 : ey FX6 ini rt fin K0 K (decode cX6_breaches 76) 76 L (st) h cs ss = (K0 76 L st h cs ss) := by
  rw [dX6_breaches_76, ey_ok, nx_invokevirtual_72]
theorem qX6_breaches_79 : ey FX6 ini rt fin K0 K (decode cX6_breaches 79) 79 L (.int y :: .int x :: r) h cs ss = (K 80 L (.int (x + y) :: r) h cs ss) := by
  rw [dX6_breaches_79, ey_ok, nx_iadd_16]
theorem qX6_breaches_80 : ey FX6 ini rt fin K0 K (decode cX6_breaches 80) 80 L (.int x :: r) h cs ss = (4 < L.length ∧ K 82 (L.set 4 (some (.int x))) r h cs ss) := by
  rw [dX6_breaches_80, ey_ok, nx_istore_4] <;> rfl
theorem qX6_breaches_82 : ey FX6 ini rt fin K0 K (decode cX6_breaches 82) 82 L (st) h cs ss = (lhas L 7 ∧ isI (lgt L 7) ∧ K 85 (L.set 7 (some (inc (lgt L 7) 1))) st h cs ss) := by
  rw [dX6_breaches_82, ey_ok, nx_iinc_10] <;> rfl
theorem qX6_breaches_85 : ey FX6 ini rt fin K0 K (decode cX6_breaches 85) 85 L (st) h cs ss = (K 43 L st h cs ss) := by
  rw [dX6_breaches_85, ey_ok, nx_goto_29]
  exact and_l (by unfold jok; decide)
theorem qX6_breaches_88 : ey FX6 ini rt fin K0 K (decode cX6_breaches 88) 88 L (st) h cs ss = (lhas L 4 ∧ isI (lgt L 4) ∧ K 90 L (lgt L 4 :: st) h cs ss) := by
  rw [dX6_breaches_88, ey_ok, nx_iload_0] <;> rfl
theorem qX6_breaches_90 : ey FX6 ini rt fin K0 K (decode cX6_breaches 90) 90 L ([.int x]) h cs ss = (rokI rt x ∧ fin (some (.int x)) h cs ss) := by
  rw [dX6_breaches_90, ey_ok, nx_ireturn_68]
theorem qX6_claims_0 : ey FX6 ini rt fin K0 K (decode cX6_claims 0) 0 L (st) h cs ss = (lhas L 0 ∧ isRf (lgt L 0) ∧ K 1 L (lgt L 0 :: st) h cs ss) := by
  rw [dX6_claims_0, ey_ok, nx_aload_n_3] <;> rfl
theorem qX6_claims_1 : ey FX6 ini rt fin K0 K (decode cX6_claims 1) 1 L (.ref a :: r) h cs ss = (h.1 a = some (.inl 6) ∧ K 4 L (h.2 a 9 :: r) h cs ss) := by
  rw [dX6_claims_1, ey_ok, nx_getfield_54]
  exact and_l rfl
theorem qX6_claims_4 : ey FX6 ini rt fin K0 K (decode cX6_claims 4) 4 L ([.int x]) h cs ss = (rokI rt x ∧ fin (some (.int x)) h cs ss) := by
  rw [dX6_claims_4, ey_ok, nx_ireturn_68]
theorem qX6_state_0 : ey FX6 ini rt fin K0 K (decode cX6_state 0) 0 L (st) h cs ss = (lhas L 0 ∧ isRf (lgt L 0) ∧ K 1 L (lgt L 0 :: st) h cs ss) := by
  rw [dX6_state_0, ey_ok, nx_aload_n_3] <;> rfl
theorem qX6_state_1 : ey FX6 ini rt fin K0 K (decode cX6_state 1) 1 L (st) h cs ss = (lhas L 1 ∧ isI (lgt L 1) ∧ K 2 L (lgt L 1 :: st) h cs ss) := by
  rw [dX6_state_1, ey_ok, nx_iload_n_1] <;> rfl
theorem qX6_state_2 : ey FX6 ini rt fin K0 K (decode cX6_state 2) 2 L (st) h cs ss = (K0 2 L st h cs ss) := by
  rw [dX6_state_2, ey_ok, nx_invokevirtual_72]
theorem qX6_state_5 : ey FX6 ini rt fin K0 K (decode cX6_state 5) 5 L (.ref a :: r) h cs ss = (h.1 a = some (.inl 0) ∧ K 8 L (h.2 a 4 :: r) h cs ss) := by
  rw [dX6_state_5, ey_ok, nx_getfield_54]
  exact and_l rfl
theorem qX6_state_8 : ey FX6 ini rt fin K0 K (decode cX6_state 8) 8 L ([.int x]) h cs ss = (rokI rt x ∧ fin (some (.int x)) h cs ss) := by
  rw [dX6_state_8, ey_ok, nx_ireturn_68]
theorem qX6_about_0 : ey FX6 ini rt fin K0 K (decode cX6_about 0) 0 L (st) h cs ss = (lhas L 0 ∧ isRf (lgt L 0) ∧ K 1 L (lgt L 0 :: st) h cs ss) := by
  rw [dX6_about_0, ey_ok, nx_aload_n_3] <;> rfl
theorem qX6_about_1 : ey FX6 ini rt fin K0 K (decode cX6_about 1) 1 L (st) h cs ss = (lhas L 1 ∧ isI (lgt L 1) ∧ K 2 L (lgt L 1 :: st) h cs ss) := by
  rw [dX6_about_1, ey_ok, nx_iload_n_1] <;> rfl
theorem qX6_about_2 : ey FX6 ini rt fin K0 K (decode cX6_about 2) 2 L (st) h cs ss = (K0 2 L st h cs ss) := by
  rw [dX6_about_2, ey_ok, nx_invokevirtual_72]
theorem qX6_about_5r : ey FX6 ini rt fin K0 K (decode cX6_about 5) 5 L (.ref a :: r) h cs ss = (2 < L.length ∧ K 6 (L.set 2 (some (.ref a))) r h cs ss) := by
  rw [dX6_about_5, ey_ok, nx_astore_n_8] <;> rfl
theorem qX6_about_5n : ey FX6 ini rt fin K0 K (decode cX6_about 5) 5 L (.null :: r) h cs ss = (2 < L.length ∧ K 6 (L.set 2 (some .null)) r h cs ss) := by
  rw [dX6_about_5, ey_ok, nx_astore_n_9] <;> rfl
theorem qX6_about_6 : ey FX6 ini rt fin K0 K (decode cX6_about 6) 6 L (st) h cs ss = (K 9 L (.int 10000 :: st) h cs ss) := by
  rw [dX6_about_6, ey_ok, nx_sipush_13] <;> rfl
theorem qX6_about_9 : ey FX6 ini rt fin K0 K (decode cX6_about 9) 9 L (st) h cs ss = (lhas L 2 ∧ isRf (lgt L 2) ∧ K 10 L (lgt L 2 :: st) h cs ss) := by
  rw [dX6_about_9, ey_ok, nx_aload_n_3] <;> rfl
theorem qX6_about_10 : ey FX6 ini rt fin K0 K (decode cX6_about 10) 10 L (.ref a :: r) h cs ss = (h.1 a = some (.inl 0) ∧ K 13 L (h.2 a 0 :: r) h cs ss) := by
  rw [dX6_about_10, ey_ok, nx_getfield_54]
  exact and_l rfl
theorem qX6_about_13 : ey FX6 ini rt fin K0 K (decode cX6_about 13) 13 L (.ref a :: r) h cs ss = (h.1 a = some (.inl 5) ∧ K 16 L (h.2 a 0 :: r) h cs ss) := by
  rw [dX6_about_13, ey_ok, nx_getfield_54]
  exact and_l rfl
theorem qX6_about_16 : ey FX6 ini rt fin K0 K (decode cX6_about 16) 16 L (.int y :: .int x :: r) h cs ss = (K 17 L (.int (x * y) :: r) h cs ss) := by
  rw [dX6_about_16, ey_ok, nx_imul_18]
theorem qX6_about_17 : ey FX6 ini rt fin K0 K (decode cX6_about 17) 17 L (st) h cs ss = (K 19 L (.int 100 :: st) h cs ss) := by
  rw [dX6_about_17, ey_ok, nx_bipush_12] <;> rfl
theorem qX6_about_19 : ey FX6 ini rt fin K0 K (decode cX6_about 19) 19 L (st) h cs ss = (lhas L 2 ∧ isRf (lgt L 2) ∧ K 20 L (lgt L 2 :: st) h cs ss) := by
  rw [dX6_about_19, ey_ok, nx_aload_n_3] <;> rfl
theorem qX6_about_20 : ey FX6 ini rt fin K0 K (decode cX6_about 20) 20 L (.ref a :: r) h cs ss = (h.1 a = some (.inl 0) ∧ K 23 L (h.2 a 1 :: r) h cs ss) := by
  rw [dX6_about_20, ey_ok, nx_getfield_54]
  exact and_l rfl
theorem qX6_about_23 : ey FX6 ini rt fin K0 K (decode cX6_about 23) 23 L (.ref a :: r) h cs ss = (h.1 a = some (.inl 4) ∧ K 26 L (h.2 a 0 :: r) h cs ss) := by
  rw [dX6_about_23, ey_ok, nx_getfield_54]
  exact and_l rfl
theorem qX6_about_26 : ey FX6 ini rt fin K0 K (decode cX6_about 26) 26 L (.int y :: .int x :: r) h cs ss = (K 27 L (.int (x * y) :: r) h cs ss) := by
  rw [dX6_about_26, ey_ok, nx_imul_18]
theorem qX6_about_27 : ey FX6 ini rt fin K0 K (decode cX6_about 27) 27 L (.int y :: .int x :: r) h cs ss = (K 28 L (.int (x + y) :: r) h cs ss) := by
  rw [dX6_about_27, ey_ok, nx_iadd_16]
theorem qX6_about_28 : ey FX6 ini rt fin K0 K (decode cX6_about 28) 28 L (st) h cs ss = (lhas L 2 ∧ isRf (lgt L 2) ∧ K 29 L (lgt L 2 :: st) h cs ss) := by
  rw [dX6_about_28, ey_ok, nx_aload_n_3] <;> rfl
theorem qX6_about_29 : ey FX6 ini rt fin K0 K (decode cX6_about 29) 29 L (.ref a :: r) h cs ss = (h.1 a = some (.inl 0) ∧ K 32 L (h.2 a 2 :: r) h cs ss) := by
  rw [dX6_about_29, ey_ok, nx_getfield_54]
  exact and_l rfl
theorem qX6_about_32 : ey FX6 ini rt fin K0 K (decode cX6_about 32) 32 L (.ref a :: r) h cs ss = (h.1 a = some (.inl 2) ∧ K 35 L (h.2 a 0 :: r) h cs ss) := by
  rw [dX6_about_32, ey_ok, nx_getfield_54]
  exact and_l rfl
theorem qX6_about_35 : ey FX6 ini rt fin K0 K (decode cX6_about 35) 35 L (.int y :: .int x :: r) h cs ss = (K 36 L (.int (x + y) :: r) h cs ss) := by
  rw [dX6_about_35, ey_ok, nx_iadd_16]
theorem qX6_about_36 : ey FX6 ini rt fin K0 K (decode cX6_about 36) 36 L ([.int x]) h cs ss = (rokI rt x ∧ fin (some (.int x)) h cs ss) := by
  rw [dX6_about_36, ey_ok, nx_ireturn_68]
theorem qX6_worth_0 : ey FX6 ini rt fin K0 K (decode cX6_worth 0) 0 L (st) h cs ss = (lhas L 0 ∧ isRf (lgt L 0) ∧ K 1 L (lgt L 0 :: st) h cs ss) := by
  rw [dX6_worth_0, ey_ok, nx_aload_n_3] <;> rfl
theorem qX6_worth_1 : ey FX6 ini rt fin K0 K (decode cX6_worth 1) 1 L (st) h cs ss = (lhas L 1 ∧ isI (lgt L 1) ∧ K 2 L (lgt L 1 :: st) h cs ss) := by
  rw [dX6_worth_1, ey_ok, nx_iload_n_1] <;> rfl
theorem qX6_worth_2 : ey FX6 ini rt fin K0 K (decode cX6_worth 2) 2 L (st) h cs ss = (K0 2 L st h cs ss) := by
  rw [dX6_worth_2, ey_ok, nx_invokevirtual_72]
theorem qX6_worth_5 : ey FX6 ini rt fin K0 K (decode cX6_worth 5) 5 L (st) h cs ss = (K0 5 L st h cs ss) := by
  rw [dX6_worth_5, ey_ok, nx_invokevirtual_72]
theorem qX6_worth_8 : ey FX6 ini rt fin K0 K (decode cX6_worth 8) 8 L ([.int x]) h cs ss = (rokI rt x ∧ fin (some (.int x)) h cs ss) := by
  rw [dX6_worth_8, ey_ok, nx_ireturn_68]
theorem qX6_pay_0 : ey FX6 ini rt fin K0 K (decode cX6_pay 0) 0 L (st) h cs ss = (lhas L 0 ∧ isRf (lgt L 0) ∧ K 1 L (lgt L 0 :: st) h cs ss) := by
  rw [dX6_pay_0, ey_ok, nx_aload_n_3] <;> rfl
theorem qX6_pay_1 : ey FX6 ini rt fin K0 K (decode cX6_pay 1) 1 L (st) h cs ss = (lhas L 1 ∧ isI (lgt L 1) ∧ K 2 L (lgt L 1 :: st) h cs ss) := by
  rw [dX6_pay_1, ey_ok, nx_iload_n_1] <;> rfl
theorem qX6_pay_2 : ey FX6 ini rt fin K0 K (decode cX6_pay 2) 2 L (st) h cs ss = (K0 2 L st h cs ss) := by
  rw [dX6_pay_2, ey_ok, nx_invokevirtual_72]
theorem qX6_pay_5r : ey FX6 ini rt fin K0 K (decode cX6_pay 5) 5 L (.ref a :: r) h cs ss = (2 < L.length ∧ K 6 (L.set 2 (some (.ref a))) r h cs ss) := by
  rw [dX6_pay_5, ey_ok, nx_astore_n_8] <;> rfl
theorem qX6_pay_5n : ey FX6 ini rt fin K0 K (decode cX6_pay 5) 5 L (.null :: r) h cs ss = (2 < L.length ∧ K 6 (L.set 2 (some .null)) r h cs ss) := by
  rw [dX6_pay_5, ey_ok, nx_astore_n_9] <;> rfl
theorem qX6_pay_6 : ey FX6 ini rt fin K0 K (decode cX6_pay 6) 6 L (st) h cs ss = (lhas L 2 ∧ isRf (lgt L 2) ∧ K 7 L (lgt L 2 :: st) h cs ss) := by
  rw [dX6_pay_6, ey_ok, nx_aload_n_3] <;> rfl
theorem qX6_pay_7 : ey FX6 ini rt fin K0 K (decode cX6_pay 7) 7 L (.ref a :: r) h cs ss = (h.1 a = some (.inl 0) ∧ K 10 L (h.2 a 4 :: r) h cs ss) := by
  rw [dX6_pay_7, ey_ok, nx_getfield_54]
  exact and_l rfl
theorem qX6_pay_10 : ey FX6 ini rt fin K0 K (decode cX6_pay 10) 10 L (.int x :: r) h cs ss = (if x = 0 then K 23 L r h cs ss else K 13 L r h cs ss) := by
  rw [dX6_pay_10, ey_ok, nx_ifond_30]
  exact and_l (by unfold jok; decide)
theorem qX6_pay_13 : ey FX6 ini rt fin K0 K (decode cX6_pay 13) 13 L (st) h cs ss = (K0 13 L st h cs ss) := by
  rw [dX6_pay_13, ey_ok, nx_new_75]
theorem qX6_pay_16 : ey FX6 ini rt fin K0 K (decode cX6_pay 16) 16 L (v :: r) h cs ss = (v.category = 1 ∧ K 17 L (v :: v :: r) h cs ss) := by
  rw [dX6_pay_16, ey_ok, nx_dup_27]
theorem qX6_pay_17 : ey FX6 ini rt fin K0 K (decode cX6_pay 17) 17 L (st) h cs ss = (K0 17 L st h cs ss) := by
  rw [dX6_pay_17, ey_ok, nx_ldc_79]
theorem qX6_pay_19 : ey FX6 ini rt fin K0 K (decode cX6_pay 19) 19 L (st) h cs ss = (K0 19 L st h cs ss) := by
  rw [dX6_pay_19, ey_ok, nx_invokespecial_74]
theorem qX6_pay_22 : ey FX6 ini rt fin K0 K (decode cX6_pay 22) 22 L (st) h cs ss = (K0 22 L st h cs ss) := by
  rw [dX6_pay_22, ey_ok, nx_athrow_80]
theorem qX6_pay_23 : ey FX6 ini rt fin K0 K (decode cX6_pay 23) 23 L (st) h cs ss = (lhas L 2 ∧ isRf (lgt L 2) ∧ K 24 L (lgt L 2 :: st) h cs ss) := by
  rw [dX6_pay_23, ey_ok, nx_aload_n_3] <;> rfl
theorem qX6_pay_24 : ey FX6 ini rt fin K0 K (decode cX6_pay 24) 24 L (st) h cs ss = (K 25 L (.int 1 :: st) h cs ss) := by
  rw [dX6_pay_24, ey_ok, nx_iconst_11] <;> rfl
theorem qX6_pay_25 : ey FX6 ini rt fin K0 K (decode cX6_pay 25) 25 L (v :: .ref a :: r) h cs ss = (h.1 a = some (.inl 0) ∧ okv (.int) v ∧ K 28 L r (h.1, hup h.2 a 4 v) cs ss) := by
  rw [dX6_pay_25, ey_ok, nx_putfield_55]
  exact (and_l rfl).trans (and_m (fun z => nomatch z))
theorem qX6_pay_28 : ey FX6 ini rt fin K0 K (decode cX6_pay 28) 28 L (st) h cs ss = (lhas L 2 ∧ isRf (lgt L 2) ∧ K 29 L (lgt L 2 :: st) h cs ss) := by
  rw [dX6_pay_28, ey_ok, nx_aload_n_3] <;> rfl
theorem qX6_pay_29 : ey FX6 ini rt fin K0 K (decode cX6_pay 29) 29 L (st) h cs ss = (lhas L 2 ∧ isRf (lgt L 2) ∧ K 30 L (lgt L 2 :: st) h cs ss) := by
  rw [dX6_pay_29, ey_ok, nx_aload_n_3] <;> rfl
theorem qX6_pay_30 : ey FX6 ini rt fin K0 K (decode cX6_pay 30) 30 L (st) h cs ss = (K0 30 L st h cs ss) := by
  rw [dX6_pay_30, ey_ok, nx_invokevirtual_72]
theorem qX6_pay_33 : ey FX6 ini rt fin K0 K (decode cX6_pay 33) 33 L (v :: .ref a :: r) h cs ss = (h.1 a = some (.inl 0) ∧ okv (.int) v ∧ K 36 L r (h.1, hup h.2 a 5 v) cs ss) := by
  rw [dX6_pay_33, ey_ok, nx_putfield_55]
  exact (and_l rfl).trans (and_m (fun z => nomatch z))
theorem qX6_pay_36 : ey FX6 ini rt fin K0 K (decode cX6_pay 36) 36 L (st) h cs ss = (lhas L 2 ∧ isRf (lgt L 2) ∧ K 37 L (lgt L 2 :: st) h cs ss) := by
  rw [dX6_pay_36, ey_ok, nx_aload_n_3] <;> rfl
theorem qX6_pay_37 : ey FX6 ini rt fin K0 K (decode cX6_pay 37) 37 L (.ref a :: r) h cs ss = (h.1 a = some (.inl 0) ∧ K 40 L (h.2 a 5 :: r) h cs ss) := by
  rw [dX6_pay_37, ey_ok, nx_getfield_54]
  exact and_l rfl
theorem qX6_pay_40 : ey FX6 ini rt fin K0 K (decode cX6_pay 40) 40 L ([.int x]) h cs ss = (rokI rt x ∧ fin (some (.int x)) h cs ss) := by
  rw [dX6_pay_40, ey_ok, nx_ireturn_68]
theorem qX6_takeBack_0 : ey FX6 ini rt fin K0 K (decode cX6_takeBack 0) 0 L (st) h cs ss = (lhas L 0 ∧ isRf (lgt L 0) ∧ K 1 L (lgt L 0 :: st) h cs ss) := by
  rw [dX6_takeBack_0, ey_ok, nx_aload_n_3] <;> rfl
theorem qX6_takeBack_1 : ey FX6 ini rt fin K0 K (decode cX6_takeBack 1) 1 L (st) h cs ss = (lhas L 1 ∧ isI (lgt L 1) ∧ K 2 L (lgt L 1 :: st) h cs ss) := by
  rw [dX6_takeBack_1, ey_ok, nx_iload_n_1] <;> rfl
theorem qX6_takeBack_2 : ey FX6 ini rt fin K0 K (decode cX6_takeBack 2) 2 L (st) h cs ss = (K0 2 L st h cs ss) := by
  rw [dX6_takeBack_2, ey_ok, nx_invokevirtual_72]
theorem qX6_takeBack_5r : ey FX6 ini rt fin K0 K (decode cX6_takeBack 5) 5 L (.ref a :: r) h cs ss = (2 < L.length ∧ K 6 (L.set 2 (some (.ref a))) r h cs ss) := by
  rw [dX6_takeBack_5, ey_ok, nx_astore_n_8] <;> rfl
theorem qX6_takeBack_5n : ey FX6 ini rt fin K0 K (decode cX6_takeBack 5) 5 L (.null :: r) h cs ss = (2 < L.length ∧ K 6 (L.set 2 (some .null)) r h cs ss) := by
  rw [dX6_takeBack_5, ey_ok, nx_astore_n_9] <;> rfl
theorem qX6_takeBack_6 : ey FX6 ini rt fin K0 K (decode cX6_takeBack 6) 6 L (st) h cs ss = (lhas L 2 ∧ isRf (lgt L 2) ∧ K 7 L (lgt L 2 :: st) h cs ss) := by
  rw [dX6_takeBack_6, ey_ok, nx_aload_n_3] <;> rfl
theorem qX6_takeBack_7 : ey FX6 ini rt fin K0 K (decode cX6_takeBack 7) 7 L (.ref a :: r) h cs ss = (h.1 a = some (.inl 0) ∧ K 10 L (h.2 a 4 :: r) h cs ss) := by
  rw [dX6_takeBack_7, ey_ok, nx_getfield_54]
  exact and_l rfl
theorem qX6_takeBack_10 : ey FX6 ini rt fin K0 K (decode cX6_takeBack 10) 10 L (st) h cs ss = (K 11 L (.int 3 :: st) h cs ss) := by
  rw [dX6_takeBack_10, ey_ok, nx_iconst_11] <;> rfl
theorem qX6_takeBack_11 : ey FX6 ini rt fin K0 K (decode cX6_takeBack 11) 11 L (.int y :: .int x :: r) h cs ss = (if x = y then K 24 L r h cs ss else K 14 L r h cs ss) := by
  rw [dX6_takeBack_11, ey_ok, nx_if_icmp_36]
  exact and_l (by unfold jok; decide)
theorem qX6_takeBack_14 : ey FX6 ini rt fin K0 K (decode cX6_takeBack 14) 14 L (st) h cs ss = (K0 14 L st h cs ss) := by
  rw [dX6_takeBack_14, ey_ok, nx_new_75]
theorem qX6_takeBack_17 : ey FX6 ini rt fin K0 K (decode cX6_takeBack 17) 17 L (v :: r) h cs ss = (v.category = 1 ∧ K 18 L (v :: v :: r) h cs ss) := by
  rw [dX6_takeBack_17, ey_ok, nx_dup_27]
theorem qX6_takeBack_18 : ey FX6 ini rt fin K0 K (decode cX6_takeBack 18) 18 L (st) h cs ss = (K0 18 L st h cs ss) := by
  rw [dX6_takeBack_18, ey_ok, nx_ldc_79]
theorem qX6_takeBack_20 : ey FX6 ini rt fin K0 K (decode cX6_takeBack 20) 20 L (st) h cs ss = (K0 20 L st h cs ss) := by
  rw [dX6_takeBack_20, ey_ok, nx_invokespecial_74]
theorem qX6_takeBack_23 : ey FX6 ini rt fin K0 K (decode cX6_takeBack 23) 23 L (st) h cs ss = (K0 23 L st h cs ss) := by
  rw [dX6_takeBack_23, ey_ok, nx_athrow_80]
theorem qX6_takeBack_24 : ey FX6 ini rt fin K0 K (decode cX6_takeBack 24) 24 L (st) h cs ss = (lhas L 2 ∧ isRf (lgt L 2) ∧ K 25 L (lgt L 2 :: st) h cs ss) := by
  rw [dX6_takeBack_24, ey_ok, nx_aload_n_3] <;> rfl
theorem qX6_takeBack_25 : ey FX6 ini rt fin K0 K (decode cX6_takeBack 25) 25 L (.ref a :: r) h cs ss = (h.1 a = some (.inl 0) ∧ K 28 L (h.2 a 5 :: r) h cs ss) := by
  rw [dX6_takeBack_25, ey_ok, nx_getfield_54]
  exact and_l rfl
theorem qX6_takeBack_28 : ey FX6 ini rt fin K0 K (decode cX6_takeBack 28) 28 L (.int x :: r) h cs ss = (3 < L.length ∧ K 29 (L.set 3 (some (.int x))) r h cs ss) := by
  rw [dX6_takeBack_28, ey_ok, nx_istore_n_5] <;> rfl
theorem qX6_takeBack_29 : ey FX6 ini rt fin K0 K (decode cX6_takeBack 29) 29 L (st) h cs ss = (lhas L 2 ∧ isRf (lgt L 2) ∧ K 30 L (lgt L 2 :: st) h cs ss) := by
  rw [dX6_takeBack_29, ey_ok, nx_aload_n_3] <;> rfl
theorem qX6_takeBack_30 : ey FX6 ini rt fin K0 K (decode cX6_takeBack 30) 30 L (st) h cs ss = (K 31 L (.int 2 :: st) h cs ss) := by
  rw [dX6_takeBack_30, ey_ok, nx_iconst_11] <;> rfl
theorem qX6_takeBack_31 : ey FX6 ini rt fin K0 K (decode cX6_takeBack 31) 31 L (v :: .ref a :: r) h cs ss = (h.1 a = some (.inl 0) ∧ okv (.int) v ∧ K 34 L r (h.1, hup h.2 a 4 v) cs ss) := by
  rw [dX6_takeBack_31, ey_ok, nx_putfield_55]
  exact (and_l rfl).trans (and_m (fun z => nomatch z))
theorem qX6_takeBack_34 : ey FX6 ini rt fin K0 K (decode cX6_takeBack 34) 34 L (st) h cs ss = (lhas L 2 ∧ isRf (lgt L 2) ∧ K 35 L (lgt L 2 :: st) h cs ss) := by
  rw [dX6_takeBack_34, ey_ok, nx_aload_n_3] <;> rfl
theorem qX6_takeBack_35 : ey FX6 ini rt fin K0 K (decode cX6_takeBack 35) 35 L (st) h cs ss = (K 36 L (.int 0 :: st) h cs ss) := by
  rw [dX6_takeBack_35, ey_ok, nx_iconst_11] <;> rfl
theorem qX6_takeBack_36 : ey FX6 ini rt fin K0 K (decode cX6_takeBack 36) 36 L (v :: .ref a :: r) h cs ss = (h.1 a = some (.inl 0) ∧ okv (.int) v ∧ K 39 L r (h.1, hup h.2 a 5 v) cs ss) := by
  rw [dX6_takeBack_36, ey_ok, nx_putfield_55]
  exact (and_l rfl).trans (and_m (fun z => nomatch z))
theorem qX6_takeBack_39 : ey FX6 ini rt fin K0 K (decode cX6_takeBack 39) 39 L (st) h cs ss = (lhas L 3 ∧ isI (lgt L 3) ∧ K 40 L (lgt L 3 :: st) h cs ss) := by
  rw [dX6_takeBack_39, ey_ok, nx_iload_n_1] <;> rfl
theorem qX6_takeBack_40 : ey FX6 ini rt fin K0 K (decode cX6_takeBack 40) 40 L ([.int x]) h cs ss = (rokI rt x ∧ fin (some (.int x)) h cs ss) := by
  rw [dX6_takeBack_40, ey_ok, nx_ireturn_68]
theorem qX6_wages_0 : ey FX6 ini rt fin K0 K (decode cX6_wages 0) 0 L (st) h cs ss = (lhas L 0 ∧ isRf (lgt L 0) ∧ K 1 L (lgt L 0 :: st) h cs ss) := by
  rw [dX6_wages_0, ey_ok, nx_aload_n_3] <;> rfl
theorem qX6_wages_1 : ey FX6 ini rt fin K0 K (decode cX6_wages 1) 1 L (st) h cs ss = (lhas L 1 ∧ isI (lgt L 1) ∧ K 2 L (lgt L 1 :: st) h cs ss) := by
  rw [dX6_wages_1, ey_ok, nx_iload_n_1] <;> rfl
theorem qX6_wages_2 : ey FX6 ini rt fin K0 K (decode cX6_wages 2) 2 L (st) h cs ss = (K0 2 L st h cs ss) := by
  rw [dX6_wages_2, ey_ok, nx_invokevirtual_72]
theorem qX6_wages_5r : ey FX6 ini rt fin K0 K (decode cX6_wages 5) 5 L (.ref a :: r) h cs ss = (2 < L.length ∧ K 6 (L.set 2 (some (.ref a))) r h cs ss) := by
  rw [dX6_wages_5, ey_ok, nx_astore_n_8] <;> rfl
theorem qX6_wages_5n : ey FX6 ini rt fin K0 K (decode cX6_wages 5) 5 L (.null :: r) h cs ss = (2 < L.length ∧ K 6 (L.set 2 (some .null)) r h cs ss) := by
  rw [dX6_wages_5, ey_ok, nx_astore_n_9] <;> rfl
theorem qX6_wages_6 : ey FX6 ini rt fin K0 K (decode cX6_wages 6) 6 L (st) h cs ss = (lhas L 2 ∧ isRf (lgt L 2) ∧ K 7 L (lgt L 2 :: st) h cs ss) := by
  rw [dX6_wages_6, ey_ok, nx_aload_n_3] <;> rfl
theorem qX6_wages_7 : ey FX6 ini rt fin K0 K (decode cX6_wages 7) 7 L (st) h cs ss = (lhas L 0 ∧ isRf (lgt L 0) ∧ K 8 L (lgt L 0 :: st) h cs ss) := by
  rw [dX6_wages_7, ey_ok, nx_aload_n_3] <;> rfl
theorem qX6_wages_8 : ey FX6 ini rt fin K0 K (decode cX6_wages 8) 8 L (.ref a :: r) h cs ss = (h.1 a = some (.inl 6) ∧ K 11 L (h.2 a 11 :: r) h cs ss) := by
  rw [dX6_wages_8, ey_ok, nx_getfield_54]
  exact and_l rfl
theorem qX6_wages_11 : ey FX6 ini rt fin K0 K (decode cX6_wages 11) 11 L (st) h cs ss = (K0 11 L st h cs ss) := by
  rw [dX6_wages_11, ey_ok, nx_invokevirtual_72]
theorem qX6_wages_14 : ey FX6 ini rt fin K0 K (decode cX6_wages 14) 14 L (st) h cs ss = (lhas L 2 ∧ isRf (lgt L 2) ∧ K 15 L (lgt L 2 :: st) h cs ss) := by
  rw [dX6_wages_14, ey_ok, nx_aload_n_3] <;> rfl
theorem qX6_wages_15 : ey FX6 ini rt fin K0 K (decode cX6_wages 15) 15 L (.ref a :: r) h cs ss = (h.1 a = some (.inl 5) ∧ K 18 L (h.2 a 3 :: r) h cs ss) := by
  rw [dX6_wages_15, ey_ok, nx_getfield_54]
  exact and_l rfl
theorem qX6_wages_18 : ey FX6 ini rt fin K0 K (decode cX6_wages 18) 18 L (.int y :: .int x :: r) h cs ss = (K 19 L (.int (x * y) :: r) h cs ss) := by
  rw [dX6_wages_18, ey_ok, nx_imul_18]
theorem qX6_wages_19 : ey FX6 ini rt fin K0 K (decode cX6_wages 19) 19 L (.int x :: r) h cs ss = (3 < L.length ∧ K 20 (L.set 3 (some (.int x))) r h cs ss) := by
  rw [dX6_wages_19, ey_ok, nx_istore_n_5] <;> rfl
theorem qX6_wages_20 : ey FX6 ini rt fin K0 K (decode cX6_wages 20) 20 L (st) h cs ss = (lhas L 0 ∧ isRf (lgt L 0) ∧ K 21 L (lgt L 0 :: st) h cs ss) := by
  rw [dX6_wages_20, ey_ok, nx_aload_n_3] <;> rfl
theorem qX6_wages_21 : ey FX6 ini rt fin K0 K (decode cX6_wages 21) 21 L (.ref a :: r) h cs ss = (h.1 a = some (.inl 6) ∧ K 24 L (h.2 a 3 :: r) h cs ss) := by
  rw [dX6_wages_21, ey_ok, nx_getfield_54]
  exact and_l rfl
theorem qX6_wages_24r : ey FX6 ini rt fin K0 K (decode cX6_wages 24) 24 L (.ref a :: r) h cs ss = (4 < L.length ∧ K 26 (L.set 4 (some (.ref a))) r h cs ss) := by
  rw [dX6_wages_24, ey_ok, nx_astore_6] <;> rfl
theorem qX6_wages_24n : ey FX6 ini rt fin K0 K (decode cX6_wages 24) 24 L (.null :: r) h cs ss = (4 < L.length ∧ K 26 (L.set 4 (some .null)) r h cs ss) := by
  rw [dX6_wages_24, ey_ok, nx_astore_7] <;> rfl
theorem qX6_wages_26 : ey FX6 ini rt fin K0 K (decode cX6_wages 26) 26 L (st) h cs ss = (lhas L 4 ∧ isRf (lgt L 4) ∧ K 28 L (lgt L 4 :: st) h cs ss) := by
  rw [dX6_wages_26, ey_ok, nx_aload_2] <;> rfl
theorem qX6_wages_28 : ey FX6 ini rt fin K0 K (decode cX6_wages 28) 28 L (.ref a :: r) h cs ss = (isA (h.1 a) (fun _ _ => True) ∧ K 29 L (.int (nI (alen (h.1 a))) :: r) h cs ss) := by
  rw [dX6_wages_28, ey_ok, nx_arraylength_56]
theorem qX6_wages_29 : ey FX6 ini rt fin K0 K (decode cX6_wages 29) 29 L (.int x :: r) h cs ss = (5 < L.length ∧ K 31 (L.set 5 (some (.int x))) r h cs ss) := by
  rw [dX6_wages_29, ey_ok, nx_istore_4] <;> rfl
theorem qX6_wages_31 : ey FX6 ini rt fin K0 K (decode cX6_wages 31) 31 L (st) h cs ss = (K 32 L (.int 0 :: st) h cs ss) := by
  rw [dX6_wages_31, ey_ok, nx_iconst_11] <;> rfl
theorem qX6_wages_32 : ey FX6 ini rt fin K0 K (decode cX6_wages 32) 32 L (.int x :: r) h cs ss = (6 < L.length ∧ K 34 (L.set 6 (some (.int x))) r h cs ss) := by
  rw [dX6_wages_32, ey_ok, nx_istore_4] <;> rfl
theorem qX6_wages_34 : ey FX6 ini rt fin K0 K (decode cX6_wages 34) 34 L (st) h cs ss = (lhas L 6 ∧ isI (lgt L 6) ∧ K 36 L (lgt L 6 :: st) h cs ss) := by
  rw [dX6_wages_34, ey_ok, nx_iload_0] <;> rfl
theorem qX6_wages_36 : ey FX6 ini rt fin K0 K (decode cX6_wages 36) 36 L (st) h cs ss = (lhas L 5 ∧ isI (lgt L 5) ∧ K 38 L (lgt L 5 :: st) h cs ss) := by
  rw [dX6_wages_36, ey_ok, nx_iload_0] <;> rfl
theorem qX6_wages_38 : ey FX6 ini rt fin K0 K (decode cX6_wages 38) 38 L (.int y :: .int x :: r) h cs ss = (if y ≤ x then K 76 L r h cs ss else K 41 L r h cs ss) := by
  rw [dX6_wages_38, ey_ok, nx_if_icmp_39]
  exact and_l (by unfold jok; decide)
theorem qX6_wages_41 : ey FX6 ini rt fin K0 K (decode cX6_wages 41) 41 L (st) h cs ss = (lhas L 4 ∧ isRf (lgt L 4) ∧ K 43 L (lgt L 4 :: st) h cs ss) := by
  rw [dX6_wages_41, ey_ok, nx_aload_2] <;> rfl
theorem qX6_wages_43 : ey FX6 ini rt fin K0 K (decode cX6_wages 43) 43 L (st) h cs ss = (lhas L 6 ∧ isI (lgt L 6) ∧ K 45 L (lgt L 6 :: st) h cs ss) := by
  rw [dX6_wages_43, ey_ok, nx_iload_0] <;> rfl
theorem qX6_wages_45 : ey FX6 ini rt fin K0 K (decode cX6_wages 45) 45 L (.int i :: .ref a :: r) h cs ss = (isA (h.1 a) (fun k m => 4 ≤ k ∧ vp_in i m) ∧ K 46 L (h.2 a i.toNatClampNeg :: r) h cs ss) := by
  rw [dX6_wages_45, ey_ok, nx_aaload_61]
theorem qX6_wages_46r : ey FX6 ini rt fin K0 K (decode cX6_wages 46) 46 L (.ref a :: r) h cs ss = (7 < L.length ∧ K 48 (L.set 7 (some (.ref a))) r h cs ss) := by
  rw [dX6_wages_46, ey_ok, nx_astore_6] <;> rfl
theorem qX6_wages_46n : ey FX6 ini rt fin K0 K (decode cX6_wages 46) 46 L (.null :: r) h cs ss = (7 < L.length ∧ K 48 (L.set 7 (some .null)) r h cs ss) := by
  rw [dX6_wages_46, ey_ok, nx_astore_7] <;> rfl
theorem qX6_wages_48 : ey FX6 ini rt fin K0 K (decode cX6_wages 48) 48 L (st) h cs ss = (lhas L 7 ∧ isRf (lgt L 7) ∧ K 50 L (lgt L 7 :: st) h cs ss) := by
  rw [dX6_wages_48, ey_ok, nx_aload_2] <;> rfl
theorem qX6_wages_50n : ey FX6 ini rt fin K0 K (decode cX6_wages 50) 50 L (.null :: r) h cs ss = (K 70 L r h cs ss) := by
  rw [dX6_wages_50, ey_ok, nx_ifnull_50]
  exact and_l (by unfold jok; decide)
theorem qX6_wages_50r : ey FX6 ini rt fin K0 K (decode cX6_wages 50) 50 L (.ref a :: r) h cs ss = (K 53 L r h cs ss) := by
  rw [dX6_wages_50, ey_ok, nx_ifnull_51]
  exact and_l (by unfold jok; decide)
theorem qX6_wages_53 : ey FX6 ini rt fin K0 K (decode cX6_wages 53) 53 L (st) h cs ss = (lhas L 7 ∧ isRf (lgt L 7) ∧ K 55 L (lgt L 7 :: st) h cs ss) := by
  rw [dX6_wages_53, ey_ok, nx_aload_2] <;> rfl
theorem qX6_wages_55 : ey FX6 ini rt fin K0 K (decode cX6_wages 55) 55 L (.ref a :: r) h cs ss = (h.1 a = some (.inl 0) ∧ K 58 L (h.2 a 0 :: r) h cs ss) := by
  rw [dX6_wages_55, ey_ok, nx_getfield_54]
  exact and_l rfl
theorem qX6_wages_58 : ey FX6 ini rt fin K0 K (decode cX6_wages 58) 58 L (st) h cs ss = (lhas L 2 ∧ isRf (lgt L 2) ∧ K 59 L (lgt L 2 :: st) h cs ss) := by
  rw [dX6_wages_58, ey_ok, nx_aload_n_3] <;> rfl
theorem qX6_wages_59rr : ey FX6 ini rt fin K0 K (decode cX6_wages 59) 59 L (.ref a :: .ref a2 :: r) h cs ss = (if ¬ (a2 = a) then K 70 L r h cs ss else K 62 L r h cs ss) := by
  rw [dX6_wages_59, ey_ok, nx_if_acmp_46]
  exact and_l (by unfold jok; decide)
theorem qX6_wages_59nn : ey FX6 ini rt fin K0 K (decode cX6_wages 59) 59 L (.null :: .null :: r) h cs ss = (K 62 L r h cs ss) := by
  rw [dX6_wages_59, ey_ok, nx_if_acmp_47]
  exact and_l (by unfold jok; decide)
theorem qX6_wages_59nr : ey FX6 ini rt fin K0 K (decode cX6_wages 59) 59 L (.null :: .ref a :: r) h cs ss = (K 70 L r h cs ss) := by
  rw [dX6_wages_59, ey_ok, nx_if_acmp_48]
  exact and_l (by unfold jok; decide)
theorem qX6_wages_59rn : ey FX6 ini rt fin K0 K (decode cX6_wages 59) 59 L (.ref a :: .null :: r) h cs ss = (K 70 L r h cs ss) := by
  rw [dX6_wages_59, ey_ok, nx_if_acmp_49]
  exact and_l (by unfold jok; decide)
theorem qX6_wages_62 : ey FX6 ini rt fin K0 K (decode cX6_wages 62) 62 L (st) h cs ss = (lhas L 3 ∧ isI (lgt L 3) ∧ K 63 L (lgt L 3 :: st) h cs ss) := by
  rw [dX6_wages_62, ey_ok, nx_iload_n_1] <;> rfl
theorem qX6_wages_63 : ey FX6 ini rt fin K0 K (decode cX6_wages 63) 63 L (st) h cs ss = (lhas L 7 ∧ isRf (lgt L 7) ∧ K 65 L (lgt L 7 :: st) h cs ss) := by
  rw [dX6_wages_63, ey_ok, nx_aload_2] <;> rfl
theorem qX6_wages_65 : ey FX6 ini rt fin K0 K (decode cX6_wages 65) 65 L (.ref a :: r) h cs ss = (h.1 a = some (.inl 0) ∧ K 68 L (h.2 a 5 :: r) h cs ss) := by
  rw [dX6_wages_65, ey_ok, nx_getfield_54]
  exact and_l rfl
theorem qX6_wages_68 : ey FX6 ini rt fin K0 K (decode cX6_wages 68) 68 L (.int y :: .int x :: r) h cs ss = (K 69 L (.int (x + y) :: r) h cs ss) := by
  rw [dX6_wages_68, ey_ok, nx_iadd_16]
theorem qX6_wages_69 : ey FX6 ini rt fin K0 K (decode cX6_wages 69) 69 L (.int x :: r) h cs ss = (3 < L.length ∧ K 70 (L.set 3 (some (.int x))) r h cs ss) := by
  rw [dX6_wages_69, ey_ok, nx_istore_n_5] <;> rfl
theorem qX6_wages_70 : ey FX6 ini rt fin K0 K (decode cX6_wages 70) 70 L (st) h cs ss = (lhas L 6 ∧ isI (lgt L 6) ∧ K 73 (L.set 6 (some (inc (lgt L 6) 1))) st h cs ss) := by
  rw [dX6_wages_70, ey_ok, nx_iinc_10] <;> rfl
theorem qX6_wages_73 : ey FX6 ini rt fin K0 K (decode cX6_wages 73) 73 L (st) h cs ss = (K 34 L st h cs ss) := by
  rw [dX6_wages_73, ey_ok, nx_goto_29]
  exact and_l (by unfold jok; decide)
theorem qX6_wages_76 : ey FX6 ini rt fin K0 K (decode cX6_wages 76) 76 L (st) h cs ss = (lhas L 3 ∧ isI (lgt L 3) ∧ K 77 L (lgt L 3 :: st) h cs ss) := by
  rw [dX6_wages_76, ey_ok, nx_iload_n_1] <;> rfl
theorem qX6_wages_77 : ey FX6 ini rt fin K0 K (decode cX6_wages 77) 77 L ([.int x]) h cs ss = (rokI rt x ∧ fin (some (.int x)) h cs ss) := by
  rw [dX6_wages_77, ey_ok, nx_ireturn_68]
theorem qX6_offer_0 : ey FX6 ini rt fin K0 K (decode cX6_offer 0) 0 L (st) h cs ss = (lhas L 0 ∧ isRf (lgt L 0) ∧ K 1 L (lgt L 0 :: st) h cs ss) := by
  rw [dX6_offer_0, ey_ok, nx_aload_n_3] <;> rfl
theorem qX6_offer_1 : ey FX6 ini rt fin K0 K (decode cX6_offer 1) 1 L (st) h cs ss = (lhas L 1 ∧ isI (lgt L 1) ∧ K 2 L (lgt L 1 :: st) h cs ss) := by
  rw [dX6_offer_1, ey_ok, nx_iload_n_1] <;> rfl
theorem qX6_offer_2 : ey FX6 ini rt fin K0 K (decode cX6_offer 2) 2 L (st) h cs ss = (K0 2 L st h cs ss) := by
  rw [dX6_offer_2, ey_ok, nx_invokevirtual_72]
theorem qX6_offer_5r : ey FX6 ini rt fin K0 K (decode cX6_offer 5) 5 L (.ref a :: r) h cs ss = (3 < L.length ∧ K 6 (L.set 3 (some (.ref a))) r h cs ss) := by
  rw [dX6_offer_5, ey_ok, nx_astore_n_8] <;> rfl
theorem qX6_offer_5n : ey FX6 ini rt fin K0 K (decode cX6_offer 5) 5 L (.null :: r) h cs ss = (3 < L.length ∧ K 6 (L.set 3 (some .null)) r h cs ss) := by
  rw [dX6_offer_5, ey_ok, nx_astore_n_9] <;> rfl
theorem qX6_offer_6 : ey FX6 ini rt fin K0 K (decode cX6_offer 6) 6 L (st) h cs ss = (lhas L 0 ∧ isRf (lgt L 0) ∧ K 7 L (lgt L 0 :: st) h cs ss) := by
  rw [dX6_offer_6, ey_ok, nx_aload_n_3] <;> rfl
theorem qX6_offer_7 : ey FX6 ini rt fin K0 K (decode cX6_offer 7) 7 L (st) h cs ss = (lhas L 2 ∧ isI (lgt L 2) ∧ K 8 L (lgt L 2 :: st) h cs ss) := by
  rw [dX6_offer_7, ey_ok, nx_iload_n_1] <;> rfl
theorem qX6_offer_8 : ey FX6 ini rt fin K0 K (decode cX6_offer 8) 8 L (st) h cs ss = (K0 8 L st h cs ss) := by
  rw [dX6_offer_8, ey_ok, nx_invokevirtual_72]
theorem qX6_offer_11r : ey FX6 ini rt fin K0 K (decode cX6_offer 11) 11 L (.ref a :: r) h cs ss = (4 < L.length ∧ K 13 (L.set 4 (some (.ref a))) r h cs ss) := by
  rw [dX6_offer_11, ey_ok, nx_astore_6] <;> rfl
theorem qX6_offer_11n : ey FX6 ini rt fin K0 K (decode cX6_offer 11) 11 L (.null :: r) h cs ss = (4 < L.length ∧ K 13 (L.set 4 (some .null)) r h cs ss) := by
  rw [dX6_offer_11, ey_ok, nx_astore_7] <;> rfl
theorem qX6_offer_13 : ey FX6 ini rt fin K0 K (decode cX6_offer 13) 13 L (st) h cs ss = (lhas L 3 ∧ isRf (lgt L 3) ∧ K 14 L (lgt L 3 :: st) h cs ss) := by
  rw [dX6_offer_13, ey_ok, nx_aload_n_3] <;> rfl
theorem qX6_offer_14 : ey FX6 ini rt fin K0 K (decode cX6_offer 14) 14 L (.ref a :: r) h cs ss = (h.1 a = some (.inl 4) ∧ K 17 L (h.2 a 6 :: r) h cs ss) := by
  rw [dX6_offer_14, ey_ok, nx_getfield_54]
  exact and_l rfl
theorem qX6_offer_17r : ey FX6 ini rt fin K0 K (decode cX6_offer 17) 17 L (.ref a :: r) h cs ss = (5 < L.length ∧ K 19 (L.set 5 (some (.ref a))) r h cs ss) := by
  rw [dX6_offer_17, ey_ok, nx_astore_6] <;> rfl
theorem qX6_offer_17n : ey FX6 ini rt fin K0 K (decode cX6_offer 17) 17 L (.null :: r) h cs ss = (5 < L.length ∧ K 19 (L.set 5 (some .null)) r h cs ss) := by
  rw [dX6_offer_17, ey_ok, nx_astore_7] <;> rfl
theorem qX6_offer_19 : ey FX6 ini rt fin K0 K (decode cX6_offer 19) 19 L (st) h cs ss = (lhas L 5 ∧ isRf (lgt L 5) ∧ K 21 L (lgt L 5 :: st) h cs ss) := by
  rw [dX6_offer_19, ey_ok, nx_aload_2] <;> rfl
theorem qX6_offer_21n : ey FX6 ini rt fin K0 K (decode cX6_offer 21) 21 L (.null :: r) h cs ss = (K 59 L r h cs ss) := by
  rw [dX6_offer_21, ey_ok, nx_ifnull_50]
  exact and_l (by unfold jok; decide)
theorem qX6_offer_21r : ey FX6 ini rt fin K0 K (decode cX6_offer 21) 21 L (.ref a :: r) h cs ss = (K 24 L r h cs ss) := by
  rw [dX6_offer_21, ey_ok, nx_ifnull_51]
  exact and_l (by unfold jok; decide)
theorem qX6_offer_24 : ey FX6 ini rt fin K0 K (decode cX6_offer 24) 24 L (st) h cs ss = (lhas L 4 ∧ isRf (lgt L 4) ∧ K 26 L (lgt L 4 :: st) h cs ss) := by
  rw [dX6_offer_24, ey_ok, nx_aload_2] <;> rfl
theorem qX6_offer_26 : ey FX6 ini rt fin K0 K (decode cX6_offer 26) 26 L (.ref a :: r) h cs ss = (h.1 a = some (.inl 4) ∧ K 29 L (h.2 a 6 :: r) h cs ss) := by
  rw [dX6_offer_26, ey_ok, nx_getfield_54]
  exact and_l rfl
theorem qX6_offer_29n : ey FX6 ini rt fin K0 K (decode cX6_offer 29) 29 L (.null :: r) h cs ss = (K 59 L r h cs ss) := by
  rw [dX6_offer_29, ey_ok, nx_ifnull_50]
  exact and_l (by unfold jok; decide)
theorem qX6_offer_29r : ey FX6 ini rt fin K0 K (decode cX6_offer 29) 29 L (.ref a :: r) h cs ss = (K 32 L r h cs ss) := by
  rw [dX6_offer_29, ey_ok, nx_ifnull_51]
  exact and_l (by unfold jok; decide)
theorem qX6_offer_32 : ey FX6 ini rt fin K0 K (decode cX6_offer 32) 32 L (st) h cs ss = (lhas L 5 ∧ isRf (lgt L 5) ∧ K 34 L (lgt L 5 :: st) h cs ss) := by
  rw [dX6_offer_32, ey_ok, nx_aload_2] <;> rfl
theorem qX6_offer_34 : ey FX6 ini rt fin K0 K (decode cX6_offer 34) 34 L (st) h cs ss = (lhas L 4 ∧ isRf (lgt L 4) ∧ K 36 L (lgt L 4 :: st) h cs ss) := by
  rw [dX6_offer_34, ey_ok, nx_aload_2] <;> rfl
theorem qX6_offer_36 : ey FX6 ini rt fin K0 K (decode cX6_offer 36) 36 L (.ref a :: r) h cs ss = (h.1 a = some (.inl 4) ∧ K 39 L (h.2 a 6 :: r) h cs ss) := by
  rw [dX6_offer_36, ey_ok, nx_getfield_54]
  exact and_l rfl
theorem qX6_offer_39rr : ey FX6 ini rt fin K0 K (decode cX6_offer 39) 39 L (.ref a :: .ref a2 :: r) h cs ss = (if a2 = a then K 59 L r h cs ss else K 42 L r h cs ss) := by
  rw [dX6_offer_39, ey_ok, nx_if_acmp_42]
  exact and_l (by unfold jok; decide)
theorem qX6_offer_39nn : ey FX6 ini rt fin K0 K (decode cX6_offer 39) 39 L (.null :: .null :: r) h cs ss = (K 59 L r h cs ss) := by
  rw [dX6_offer_39, ey_ok, nx_if_acmp_43]
  exact and_l (by unfold jok; decide)
theorem qX6_offer_39nr : ey FX6 ini rt fin K0 K (decode cX6_offer 39) 39 L (.null :: .ref a :: r) h cs ss = (K 42 L r h cs ss) := by
  rw [dX6_offer_39, ey_ok, nx_if_acmp_44]
  exact and_l (by unfold jok; decide)
theorem qX6_offer_39rn : ey FX6 ini rt fin K0 K (decode cX6_offer 39) 39 L (.ref a :: .null :: r) h cs ss = (K 42 L r h cs ss) := by
  rw [dX6_offer_39, ey_ok, nx_if_acmp_45]
  exact and_l (by unfold jok; decide)
theorem qX6_offer_42 : ey FX6 ini rt fin K0 K (decode cX6_offer 42) 42 L (st) h cs ss = (lhas L 0 ∧ isRf (lgt L 0) ∧ K 43 L (lgt L 0 :: st) h cs ss) := by
  rw [dX6_offer_42, ey_ok, nx_aload_n_3] <;> rfl
theorem qX6_offer_43 : ey FX6 ini rt fin K0 K (decode cX6_offer 43) 43 L (st) h cs ss = (lhas L 3 ∧ isRf (lgt L 3) ∧ K 44 L (lgt L 3 :: st) h cs ss) := by
  rw [dX6_offer_43, ey_ok, nx_aload_n_3] <;> rfl
theorem qX6_offer_44 : ey FX6 ini rt fin K0 K (decode cX6_offer 44) 44 L (st) h cs ss = (K0 44 L st h cs ss) := by
  rw [dX6_offer_44, ey_ok, nx_invokevirtual_72]
theorem qX6_offer_47 : ey FX6 ini rt fin K0 K (decode cX6_offer 47) 47 L (.int x :: r) h cs ss = (if x = 0 then K 59 L r h cs ss else K 50 L r h cs ss) := by
  rw [dX6_offer_47, ey_ok, nx_ifond_30]
  exact and_l (by unfold jok; decide)
theorem qX6_offer_50 : ey FX6 ini rt fin K0 K (decode cX6_offer 50) 50 L (st) h cs ss = (lhas L 0 ∧ isRf (lgt L 0) ∧ K 51 L (lgt L 0 :: st) h cs ss) := by
  rw [dX6_offer_50, ey_ok, nx_aload_n_3] <;> rfl
theorem qX6_offer_51 : ey FX6 ini rt fin K0 K (decode cX6_offer 51) 51 L (st) h cs ss = (lhas L 4 ∧ isRf (lgt L 4) ∧ K 53 L (lgt L 4 :: st) h cs ss) := by
  rw [dX6_offer_51, ey_ok, nx_aload_2] <;> rfl
theorem qX6_offer_53 : ey FX6 ini rt fin K0 K (decode cX6_offer 53) 53 L (st) h cs ss = (K0 53 L st h cs ss) := by
  rw [dX6_offer_53, ey_ok, nx_invokevirtual_72]
theorem qX6_offer_56 : ey FX6 ini rt fin K0 K (decode cX6_offer 56) 56 L (.int x :: r) h cs ss = (if ¬ x = 0 then K 70 L r h cs ss else K 59 L r h cs ss) := by
  rw [dX6_offer_56, ey_ok, nx_ifond_31]
  exact and_l (by unfold jok; decide)
theorem qX6_offer_59 : ey FX6 ini rt fin K0 K (decode cX6_offer 59) 59 L (st) h cs ss = (K0 59 L st h cs ss) := by
  rw [dX6_offer_59, ey_ok, nx_new_75]
theorem qX6_offer_62 : ey FX6 ini rt fin K0 K (decode cX6_offer 62) 62 L (v :: r) h cs ss = (v.category = 1 ∧ K 63 L (v :: v :: r) h cs ss) := by
  rw [dX6_offer_62, ey_ok, nx_dup_27]
theorem qX6_offer_66 : ey FX6 ini rt fin K0 K (decode cX6_offer 66) 66 L (st) h cs ss = (K0 66 L st h cs ss) := by
  rw [dX6_offer_66, ey_ok, nx_invokespecial_74]
theorem qX6_offer_69 : ey FX6 ini rt fin K0 K (decode cX6_offer 69) 69 L (st) h cs ss = (K0 69 L st h cs ss) := by
  rw [dX6_offer_69, ey_ok, nx_athrow_80]
theorem qX6_offer_70 : ey FX6 ini rt fin K0 K (decode cX6_offer 70) 70 L (st) h cs ss = (lhas L 0 ∧ isRf (lgt L 0) ∧ K 71 L (lgt L 0 :: st) h cs ss) := by
  rw [dX6_offer_70, ey_ok, nx_aload_n_3] <;> rfl
theorem qX6_offer_71 : ey FX6 ini rt fin K0 K (decode cX6_offer 71) 71 L (.ref a :: r) h cs ss = (h.1 a = some (.inl 6) ∧ K 74 L (h.2 a 10 :: r) h cs ss) := by
  rw [dX6_offer_71, ey_ok, nx_getfield_54]
  exact and_l rfl
theorem qX6_offer_74 : ey FX6 ini rt fin K0 K (decode cX6_offer 74) 74 L (st) h cs ss = (lhas L 0 ∧ isRf (lgt L 0) ∧ K 75 L (lgt L 0 :: st) h cs ss) := by
  rw [dX6_offer_74, ey_ok, nx_aload_n_3] <;> rfl
theorem qX6_offer_75 : ey FX6 ini rt fin K0 K (decode cX6_offer 75) 75 L (.ref a :: r) h cs ss = (h.1 a = some (.inl 6) ∧ K 78 L (h.2 a 4 :: r) h cs ss) := by
  rw [dX6_offer_75, ey_ok, nx_getfield_54]
  exact and_l rfl
theorem qX6_offer_78 : ey FX6 ini rt fin K0 K (decode cX6_offer 78) 78 L (.ref a :: r) h cs ss = (isA (h.1 a) (fun _ _ => True) ∧ K 79 L (.int (nI (alen (h.1 a))) :: r) h cs ss) := by
  rw [dX6_offer_78, ey_ok, nx_arraylength_56]
theorem qX6_offer_79 : ey FX6 ini rt fin K0 K (decode cX6_offer 79) 79 L (.int y :: .int x :: r) h cs ss = (if x < y then K 93 L r h cs ss else K 82 L r h cs ss) := by
  rw [dX6_offer_79, ey_ok, nx_if_icmp_38]
  exact and_l (by unfold jok; decide)
theorem qX6_offer_82 : ey FX6 ini rt fin K0 K (decode cX6_offer 82) 82 L (st) h cs ss = (K0 82 L st h cs ss) := by
  rw [dX6_offer_82, ey_ok, nx_new_75]
theorem qX6_offer_85 : ey FX6 ini rt fin K0 K (decode cX6_offer 85) 85 L (v :: r) h cs ss = (v.category = 1 ∧ K 86 L (v :: v :: r) h cs ss) := by
  rw [dX6_offer_85, ey_ok, nx_dup_27]
theorem qX6_offer_89 : ey FX6 ini rt fin K0 K (decode cX6_offer 89) 89 L (st) h cs ss = (K0 89 L st h cs ss) := by
  rw [dX6_offer_89, ey_ok, nx_invokespecial_74]
theorem qX6_offer_92 : ey FX6 ini rt fin K0 K (decode cX6_offer 92) 92 L (st) h cs ss = (K0 92 L st h cs ss) := by
  rw [dX6_offer_92, ey_ok, nx_athrow_80]
theorem qX6_offer_93 : ey FX6 ini rt fin K0 K (decode cX6_offer 93) 93 L (st) h cs ss = (lhas L 0 ∧ isRf (lgt L 0) ∧ K 94 L (lgt L 0 :: st) h cs ss) := by
  rw [dX6_offer_93, ey_ok, nx_aload_n_3] <;> rfl
theorem qX6_offer_94 : ey FX6 ini rt fin K0 K (decode cX6_offer 94) 94 L (.ref a :: r) h cs ss = (h.1 a = some (.inl 6) ∧ K 97 L (h.2 a 10 :: r) h cs ss) := by
  rw [dX6_offer_94, ey_ok, nx_getfield_54]
  exact and_l rfl
theorem qX6_offer_97 : ey FX6 ini rt fin K0 K (decode cX6_offer 97) 97 L (.int x :: r) h cs ss = (6 < L.length ∧ K 99 (L.set 6 (some (.int x))) r h cs ss) := by
  rw [dX6_offer_97, ey_ok, nx_istore_4] <;> rfl
theorem qX6_offer_99 : ey FX6 ini rt fin K0 K (decode cX6_offer 99) 99 L (st) h cs ss = (lhas L 0 ∧ isRf (lgt L 0) ∧ K 100 L (lgt L 0 :: st) h cs ss) := by
  rw [dX6_offer_99, ey_ok, nx_aload_n_3] <;> rfl
theorem qX6_offer_100 : ey FX6 ini rt fin K0 K (decode cX6_offer 100) 100 L (.ref a :: r) h cs ss = (h.1 a = some (.inl 6) ∧ K 103 L (h.2 a 4 :: r) h cs ss) := by
  rw [dX6_offer_100, ey_ok, nx_getfield_54]
  exact and_l rfl
theorem qX6_offer_103 : ey FX6 ini rt fin K0 K (decode cX6_offer 103) 103 L (st) h cs ss = (lhas L 6 ∧ isI (lgt L 6) ∧ K 105 L (lgt L 6 :: st) h cs ss) := by
  rw [dX6_offer_103, ey_ok, nx_iload_0] <;> rfl
theorem qX6_offer_105 : ey FX6 ini rt fin K0 K (decode cX6_offer 105) 105 L (st) h cs ss = (K0 105 L st h cs ss) := by
  rw [dX6_offer_105, ey_ok, nx_new_75]
theorem qX6_offer_108 : ey FX6 ini rt fin K0 K (decode cX6_offer 108) 108 L (v :: r) h cs ss = (v.category = 1 ∧ K 109 L (v :: v :: r) h cs ss) := by
  rw [dX6_offer_108, ey_ok, nx_dup_27]
theorem qX6_offer_109 : ey FX6 ini rt fin K0 K (decode cX6_offer 109) 109 L (st) h cs ss = (lhas L 5 ∧ isRf (lgt L 5) ∧ K 111 L (lgt L 5 :: st) h cs ss) := by
  rw [dX6_offer_109, ey_ok, nx_aload_2] <;> rfl
theorem qX6_offer_111 : ey FX6 ini rt fin K0 K (decode cX6_offer 111) 111 L (st) h cs ss = (lhas L 3 ∧ isRf (lgt L 3) ∧ K 112 L (lgt L 3 :: st) h cs ss) := by
  rw [dX6_offer_111, ey_ok, nx_aload_n_3] <;> rfl
theorem qX6_offer_112 : ey FX6 ini rt fin K0 K (decode cX6_offer 112) 112 L (st) h cs ss = (lhas L 4 ∧ isRf (lgt L 4) ∧ K 114 L (lgt L 4 :: st) h cs ss) := by
  rw [dX6_offer_112, ey_ok, nx_aload_2] <;> rfl
theorem qX6_offer_114 : ey FX6 ini rt fin K0 K (decode cX6_offer 114) 114 L (st) h cs ss = (K0 114 L st h cs ss) := by
  rw [dX6_offer_114, ey_ok, nx_invokespecial_74]
theorem qX6_offer_117r : ey FX6 ini rt fin K0 K (decode cX6_offer 117) 117 L (.ref a2 :: .int i :: .ref a :: r) h cs ss = (isA (h.1 a) (fun t m => 4 ≤ t ∧ h.1 a2 = some (.inl (vec t)) ∧ vp_in i m) ∧ K 118 L r (h.1, hup h.2 a i.toNatClampNeg (.ref a2)) cs ss) := by
  rw [dX6_offer_117, ey_ok, nx_aastore_66]
theorem qX6_offer_117n : ey FX6 ini rt fin K0 K (decode cX6_offer 117) 117 L (.null :: .int i :: .ref a :: r) h cs ss = (isA (h.1 a) (fun t m => 4 ≤ t ∧ vp_in i m) ∧ K 118 L r (h.1, hup h.2 a i.toNatClampNeg .null) cs ss) := by
  rw [dX6_offer_117, ey_ok, nx_aastore_67]
theorem qX6_offer_118 : ey FX6 ini rt fin K0 K (decode cX6_offer 118) 118 L (st) h cs ss = (lhas L 0 ∧ isRf (lgt L 0) ∧ K 119 L (lgt L 0 :: st) h cs ss) := by
  rw [dX6_offer_118, ey_ok, nx_aload_n_3] <;> rfl
theorem qX6_offer_119 : ey FX6 ini rt fin K0 K (decode cX6_offer 119) 119 L (v :: r) h cs ss = (v.category = 1 ∧ K 120 L (v :: v :: r) h cs ss) := by
  rw [dX6_offer_119, ey_ok, nx_dup_27]
theorem qX6_offer_120 : ey FX6 ini rt fin K0 K (decode cX6_offer 120) 120 L (.ref a :: r) h cs ss = (h.1 a = some (.inl 6) ∧ K 123 L (h.2 a 10 :: r) h cs ss) := by
  rw [dX6_offer_120, ey_ok, nx_getfield_54]
  exact and_l rfl
theorem qX6_offer_123 : ey FX6 ini rt fin K0 K (decode cX6_offer 123) 123 L (st) h cs ss = (K 124 L (.int 1 :: st) h cs ss) := by
  rw [dX6_offer_123, ey_ok, nx_iconst_11] <;> rfl
theorem qX6_offer_124 : ey FX6 ini rt fin K0 K (decode cX6_offer 124) 124 L (.int y :: .int x :: r) h cs ss = (K 125 L (.int (x + y) :: r) h cs ss) := by
  rw [dX6_offer_124, ey_ok, nx_iadd_16]
theorem qX6_offer_125 : ey FX6 ini rt fin K0 K (decode cX6_offer 125) 125 L (v :: .ref a :: r) h cs ss = (h.1 a = some (.inl 6) ∧ okv (.int) v ∧ K 128 L r (h.1, hup h.2 a 10 v) cs ss) := by
  rw [dX6_offer_125, ey_ok, nx_putfield_55]
  exact (and_l rfl).trans (and_m (fun z => nomatch z))
theorem qX6_offer_128 : ey FX6 ini rt fin K0 K (decode cX6_offer 128) 128 L (st) h cs ss = (lhas L 6 ∧ isI (lgt L 6) ∧ K 130 L (lgt L 6 :: st) h cs ss) := by
  rw [dX6_offer_128, ey_ok, nx_iload_0] <;> rfl
theorem qX6_offer_130 : ey FX6 ini rt fin K0 K (decode cX6_offer 130) 130 L ([.int x]) h cs ss = (rokI rt x ∧ fin (some (.int x)) h cs ss) := by
  rw [dX6_offer_130, ey_ok, nx_ireturn_68]
theorem qX6_withdraw_0 : ey FX6 ini rt fin K0 K (decode cX6_withdraw 0) 0 L (st) h cs ss = (lhas L 0 ∧ isRf (lgt L 0) ∧ K 1 L (lgt L 0 :: st) h cs ss) := by
  rw [dX6_withdraw_0, ey_ok, nx_aload_n_3] <;> rfl
theorem qX6_withdraw_1 : ey FX6 ini rt fin K0 K (decode cX6_withdraw 1) 1 L (st) h cs ss = (lhas L 1 ∧ isI (lgt L 1) ∧ K 2 L (lgt L 1 :: st) h cs ss) := by
  rw [dX6_withdraw_1, ey_ok, nx_iload_n_1] <;> rfl
theorem qX6_withdraw_2 : ey FX6 ini rt fin K0 K (decode cX6_withdraw 2) 2 L (st) h cs ss = (K0 2 L st h cs ss) := by
  rw [dX6_withdraw_2, ey_ok, nx_invokevirtual_72]
theorem qX6_withdraw_5r : ey FX6 ini rt fin K0 K (decode cX6_withdraw 5) 5 L (.ref a :: r) h cs ss = (2 < L.length ∧ K 6 (L.set 2 (some (.ref a))) r h cs ss) := by
  rw [dX6_withdraw_5, ey_ok, nx_astore_n_8] <;> rfl
theorem qX6_withdraw_5n : ey FX6 ini rt fin K0 K (decode cX6_withdraw 5) 5 L (.null :: r) h cs ss = (2 < L.length ∧ K 6 (L.set 2 (some .null)) r h cs ss) := by
  rw [dX6_withdraw_5, ey_ok, nx_astore_n_9] <;> rfl
theorem qX6_withdraw_6 : ey FX6 ini rt fin K0 K (decode cX6_withdraw 6) 6 L (st) h cs ss = (lhas L 2 ∧ isRf (lgt L 2) ∧ K 7 L (lgt L 2 :: st) h cs ss) := by
  rw [dX6_withdraw_6, ey_ok, nx_aload_n_3] <;> rfl
theorem qX6_withdraw_7 : ey FX6 ini rt fin K0 K (decode cX6_withdraw 7) 7 L (.ref a :: r) h cs ss = (h.1 a = some (.inl 1) ∧ K 10 L (h.2 a 3 :: r) h cs ss) := by
  rw [dX6_withdraw_7, ey_ok, nx_getfield_54]
  exact and_l rfl
theorem qX6_withdraw_10 : ey FX6 ini rt fin K0 K (decode cX6_withdraw 10) 10 L (.int x :: r) h cs ss = (if ¬ x = 0 then K 24 L r h cs ss else K 13 L r h cs ss) := by
  rw [dX6_withdraw_10, ey_ok, nx_ifond_31]
  exact and_l (by unfold jok; decide)
theorem qX6_withdraw_13 : ey FX6 ini rt fin K0 K (decode cX6_withdraw 13) 13 L (st) h cs ss = (K0 13 L st h cs ss) := by
  rw [dX6_withdraw_13, ey_ok, nx_new_75]
theorem qX6_withdraw_16 : ey FX6 ini rt fin K0 K (decode cX6_withdraw 16) 16 L (v :: r) h cs ss = (v.category = 1 ∧ K 17 L (v :: v :: r) h cs ss) := by
  rw [dX6_withdraw_16, ey_ok, nx_dup_27]
theorem qX6_withdraw_20 : ey FX6 ini rt fin K0 K (decode cX6_withdraw 20) 20 L (st) h cs ss = (K0 20 L st h cs ss) := by
  rw [dX6_withdraw_20, ey_ok, nx_invokespecial_74]
theorem qX6_withdraw_23 : ey FX6 ini rt fin K0 K (decode cX6_withdraw 23) 23 L (st) h cs ss = (K0 23 L st h cs ss) := by
  rw [dX6_withdraw_23, ey_ok, nx_athrow_80]
theorem qX6_withdraw_24 : ey FX6 ini rt fin K0 K (decode cX6_withdraw 24) 24 L (st) h cs ss = (lhas L 2 ∧ isRf (lgt L 2) ∧ K 25 L (lgt L 2 :: st) h cs ss) := by
  rw [dX6_withdraw_24, ey_ok, nx_aload_n_3] <;> rfl
theorem qX6_withdraw_25 : ey FX6 ini rt fin K0 K (decode cX6_withdraw 25) 25 L (st) h cs ss = (K 26 L (.int 0 :: st) h cs ss) := by
  rw [dX6_withdraw_25, ey_ok, nx_iconst_11] <;> rfl
theorem qX6_withdraw_26 : ey FX6 ini rt fin K0 K (decode cX6_withdraw 26) 26 L (v :: .ref a :: r) h cs ss = (h.1 a = some (.inl 1) ∧ okv (.boolean) v ∧ K 29 L r (h.1, hup h.2 a 3 v) cs ss) := by
  rw [dX6_withdraw_26, ey_ok, nx_putfield_55]
  exact (and_l rfl).trans (and_m (fun z => nomatch z))
theorem qX6_withdraw_29 : ey FX6 ini rt fin K0 K (decode cX6_withdraw 29) 29 L (st) h cs ss = (lhas L 0 ∧ isRf (lgt L 0) ∧ K 30 L (lgt L 0 :: st) h cs ss) := by
  rw [dX6_withdraw_29, ey_ok, nx_aload_n_3] <;> rfl
theorem qX6_withdraw_30 : ey FX6 ini rt fin K0 K (decode cX6_withdraw 30) 30 L (st) h cs ss = (K0 30 L st h cs ss) := by
  rw [dX6_withdraw_30, ey_ok, nx_invokevirtual_72]
theorem qX6_withdraw_33 : ey FX6 ini rt fin K0 K (decode cX6_withdraw 33) 33 L ([.int x]) h cs ss = (rokI rt x ∧ fin (some (.int x)) h cs ss) := by
  rw [dX6_withdraw_33, ey_ok, nx_ireturn_68]
theorem qX6_offers_0 : ey FX6 ini rt fin K0 K (decode cX6_offers 0) 0 L (st) h cs ss = (lhas L 0 ∧ isRf (lgt L 0) ∧ K 1 L (lgt L 0 :: st) h cs ss) := by
  rw [dX6_offers_0, ey_ok, nx_aload_n_3] <;> rfl
theorem qX6_offers_1 : ey FX6 ini rt fin K0 K (decode cX6_offers 1) 1 L (st) h cs ss = (K0 1 L st h cs ss) := by
  rw [dX6_offers_1, ey_ok, nx_invokevirtual_72]
theorem qX6_offers_4 : ey FX6 ini rt fin K0 K (decode cX6_offers 4) 4 L ([.int x]) h cs ss = (rokI rt x ∧ fin (some (.int x)) h cs ss) := by
  rw [dX6_offers_4, ey_ok, nx_ireturn_68]
theorem qX6_ring_0 : ey FX6 ini rt fin K0 K (decode cX6_ring 0) 0 L (st) h cs ss = (lhas L 0 ∧ isRf (lgt L 0) ∧ K 1 L (lgt L 0 :: st) h cs ss) := by
  rw [dX6_ring_0, ey_ok, nx_aload_n_3] <;> rfl
theorem qX6_ring_1 : ey FX6 ini rt fin K0 K (decode cX6_ring 1) 1 L (st) h cs ss = (lhas L 0 ∧ isRf (lgt L 0) ∧ K 2 L (lgt L 0 :: st) h cs ss) := by
  rw [dX6_ring_1, ey_ok, nx_aload_n_3] <;> rfl
theorem qX6_ring_2 : ey FX6 ini rt fin K0 K (decode cX6_ring 2) 2 L (st) h cs ss = (lhas L 1 ∧ isI (lgt L 1) ∧ K 3 L (lgt L 1 :: st) h cs ss) := by
  rw [dX6_ring_2, ey_ok, nx_iload_n_1] <;> rfl
theorem qX6_ring_3 : ey FX6 ini rt fin K0 K (decode cX6_ring 3) 3 L (st) h cs ss = (K0 3 L st h cs ss) := by
  rw [dX6_ring_3, ey_ok, nx_invokevirtual_72]
theorem qX6_ring_6 : ey FX6 ini rt fin K0 K (decode cX6_ring 6) 6 L (st) h cs ss = (K0 6 L st h cs ss) := by
  rw [dX6_ring_6, ey_ok, nx_invokevirtual_72]
theorem qX6_ring_9 : ey FX6 ini rt fin K0 K (decode cX6_ring 9) 9 L ([.int x]) h cs ss = (rokI rt x ∧ fin (some (.int x)) h cs ss) := by
  rw [dX6_ring_9, ey_ok, nx_ireturn_68]
theorem qX6_swap_0 : ey FX6 ini rt fin K0 K (decode cX6_swap 0) 0 L (st) h cs ss = (lhas L 0 ∧ isRf (lgt L 0) ∧ K 1 L (lgt L 0 :: st) h cs ss) := by
  rw [dX6_swap_0, ey_ok, nx_aload_n_3] <;> rfl
theorem qX6_swap_1 : ey FX6 ini rt fin K0 K (decode cX6_swap 1) 1 L (st) h cs ss = (lhas L 0 ∧ isRf (lgt L 0) ∧ K 2 L (lgt L 0 :: st) h cs ss) := by
  rw [dX6_swap_1, ey_ok, nx_aload_n_3] <;> rfl
theorem qX6_swap_2 : ey FX6 ini rt fin K0 K (decode cX6_swap 2) 2 L (st) h cs ss = (lhas L 1 ∧ isI (lgt L 1) ∧ K 3 L (lgt L 1 :: st) h cs ss) := by
  rw [dX6_swap_2, ey_ok, nx_iload_n_1] <;> rfl
theorem qX6_swap_3 : ey FX6 ini rt fin K0 K (decode cX6_swap 3) 3 L (st) h cs ss = (K0 3 L st h cs ss) := by
  rw [dX6_swap_3, ey_ok, nx_invokevirtual_72]
theorem qX6_swap_6 : ey FX6 ini rt fin K0 K (decode cX6_swap 6) 6 L (st) h cs ss = (K0 6 L st h cs ss) := by
  rw [dX6_swap_6, ey_ok, nx_invokevirtual_72]
theorem qX6_swap_9 : ey FX6 ini rt fin K0 K (decode cX6_swap 9) 9 L (.int x :: r) h cs ss = (if x = 0 then K 19 L r h cs ss else K 12 L r h cs ss) := by
  rw [dX6_swap_9, ey_ok, nx_ifond_30]
  exact and_l (by unfold jok; decide)
theorem qX6_swap_12 : ey FX6 ini rt fin K0 K (decode cX6_swap 12) 12 L (st) h cs ss = (lhas L 0 ∧ isRf (lgt L 0) ∧ K 13 L (lgt L 0 :: st) h cs ss) := by
  rw [dX6_swap_12, ey_ok, nx_aload_n_3] <;> rfl
theorem qX6_swap_13 : ey FX6 ini rt fin K0 K (decode cX6_swap 13) 13 L (st) h cs ss = (K0 13 L st h cs ss) := by
  rw [dX6_swap_13, ey_ok, nx_invokevirtual_72]
theorem qX6_swap_16 : ey FX6 ini rt fin K0 K (decode cX6_swap 16) 16 L (.int x :: r) h cs ss = (if ¬ x = 0 then K 30 L r h cs ss else K 19 L r h cs ss) := by
  rw [dX6_swap_16, ey_ok, nx_ifond_31]
  exact and_l (by unfold jok; decide)
theorem qX6_swap_19 : ey FX6 ini rt fin K0 K (decode cX6_swap 19) 19 L (st) h cs ss = (K0 19 L st h cs ss) := by
  rw [dX6_swap_19, ey_ok, nx_new_75]
theorem qX6_swap_22 : ey FX6 ini rt fin K0 K (decode cX6_swap 22) 22 L (v :: r) h cs ss = (v.category = 1 ∧ K 23 L (v :: v :: r) h cs ss) := by
  rw [dX6_swap_22, ey_ok, nx_dup_27]
theorem qX6_swap_26 : ey FX6 ini rt fin K0 K (decode cX6_swap 26) 26 L (st) h cs ss = (K0 26 L st h cs ss) := by
  rw [dX6_swap_26, ey_ok, nx_invokespecial_74]
theorem qX6_swap_29 : ey FX6 ini rt fin K0 K (decode cX6_swap 29) 29 L (st) h cs ss = (K0 29 L st h cs ss) := by
  rw [dX6_swap_29, ey_ok, nx_athrow_80]
theorem qX6_swap_30 : ey FX6 ini rt fin K0 K (decode cX6_swap 30) 30 L (st) h cs ss = (lhas L 0 ∧ isRf (lgt L 0) ∧ K 31 L (lgt L 0 :: st) h cs ss) := by
  rw [dX6_swap_30, ey_ok, nx_aload_n_3] <;> rfl
theorem qX6_swap_31 : ey FX6 ini rt fin K0 K (decode cX6_swap 31) 31 L (.ref a :: r) h cs ss = (h.1 a = some (.inl 6) ∧ K 34 L (h.2 a 9 :: r) h cs ss) := by
  rw [dX6_swap_31, ey_ok, nx_getfield_54]
  exact and_l rfl
theorem qX6_swap_34 : ey FX6 ini rt fin K0 K (decode cX6_swap 34) 34 L (.int x :: r) h cs ss = (2 < L.length ∧ K 35 (L.set 2 (some (.int x))) r h cs ss) := by
  rw [dX6_swap_34, ey_ok, nx_istore_n_5] <;> rfl
theorem qX6_swap_35 : ey FX6 ini rt fin K0 K (decode cX6_swap 35) 35 L (st) h cs ss = (lhas L 0 ∧ isRf (lgt L 0) ∧ K 36 L (lgt L 0 :: st) h cs ss) := by
  rw [dX6_swap_35, ey_ok, nx_aload_n_3] <;> rfl
theorem qX6_swap_36 : ey FX6 ini rt fin K0 K (decode cX6_swap 36) 36 L (.ref a :: r) h cs ss = (h.1 a = some (.inl 6) ∧ K 39 L (h.2 a 5 :: r) h cs ss) := by
  rw [dX6_swap_36, ey_ok, nx_getfield_54]
  exact and_l rfl
theorem qX6_swap_39r : ey FX6 ini rt fin K0 K (decode cX6_swap 39) 39 L (.ref a :: r) h cs ss = (3 < L.length ∧ K 40 (L.set 3 (some (.ref a))) r h cs ss) := by
  rw [dX6_swap_39, ey_ok, nx_astore_n_8] <;> rfl
theorem qX6_swap_39n : ey FX6 ini rt fin K0 K (decode cX6_swap 39) 39 L (.null :: r) h cs ss = (3 < L.length ∧ K 40 (L.set 3 (some .null)) r h cs ss) := by
  rw [dX6_swap_39, ey_ok, nx_astore_n_9] <;> rfl
theorem qX6_swap_40 : ey FX6 ini rt fin K0 K (decode cX6_swap 40) 40 L (st) h cs ss = (lhas L 3 ∧ isRf (lgt L 3) ∧ K 41 L (lgt L 3 :: st) h cs ss) := by
  rw [dX6_swap_40, ey_ok, nx_aload_n_3] <;> rfl
theorem qX6_swap_41 : ey FX6 ini rt fin K0 K (decode cX6_swap 41) 41 L (.ref a :: r) h cs ss = (isA (h.1 a) (fun _ _ => True) ∧ K 42 L (.int (nI (alen (h.1 a))) :: r) h cs ss) := by
  rw [dX6_swap_41, ey_ok, nx_arraylength_56]
theorem qX6_swap_42 : ey FX6 ini rt fin K0 K (decode cX6_swap 42) 42 L (.int x :: r) h cs ss = (4 < L.length ∧ K 44 (L.set 4 (some (.int x))) r h cs ss) := by
  rw [dX6_swap_42, ey_ok, nx_istore_4] <;> rfl
theorem qX6_swap_44 : ey FX6 ini rt fin K0 K (decode cX6_swap 44) 44 L (st) h cs ss = (K 45 L (.int 0 :: st) h cs ss) := by
  rw [dX6_swap_44, ey_ok, nx_iconst_11] <;> rfl
theorem qX6_swap_45 : ey FX6 ini rt fin K0 K (decode cX6_swap 45) 45 L (.int x :: r) h cs ss = (5 < L.length ∧ K 47 (L.set 5 (some (.int x))) r h cs ss) := by
  rw [dX6_swap_45, ey_ok, nx_istore_4] <;> rfl
theorem qX6_swap_47 : ey FX6 ini rt fin K0 K (decode cX6_swap 47) 47 L (st) h cs ss = (lhas L 5 ∧ isI (lgt L 5) ∧ K 49 L (lgt L 5 :: st) h cs ss) := by
  rw [dX6_swap_47, ey_ok, nx_iload_0] <;> rfl
theorem qX6_swap_49 : ey FX6 ini rt fin K0 K (decode cX6_swap 49) 49 L (st) h cs ss = (lhas L 4 ∧ isI (lgt L 4) ∧ K 51 L (lgt L 4 :: st) h cs ss) := by
  rw [dX6_swap_49, ey_ok, nx_iload_0] <;> rfl
theorem qX6_swap_51 : ey FX6 ini rt fin K0 K (decode cX6_swap 51) 51 L (.int y :: .int x :: r) h cs ss = (if y ≤ x then K 85 L r h cs ss else K 54 L r h cs ss) := by
  rw [dX6_swap_51, ey_ok, nx_if_icmp_39]
  exact and_l (by unfold jok; decide)
theorem qX6_swap_54 : ey FX6 ini rt fin K0 K (decode cX6_swap 54) 54 L (st) h cs ss = (lhas L 3 ∧ isRf (lgt L 3) ∧ K 55 L (lgt L 3 :: st) h cs ss) := by
  rw [dX6_swap_54, ey_ok, nx_aload_n_3] <;> rfl
theorem qX6_swap_55 : ey FX6 ini rt fin K0 K (decode cX6_swap 55) 55 L (st) h cs ss = (lhas L 5 ∧ isI (lgt L 5) ∧ K 57 L (lgt L 5 :: st) h cs ss) := by
  rw [dX6_swap_55, ey_ok, nx_iload_0] <;> rfl
theorem qX6_swap_57 : ey FX6 ini rt fin K0 K (decode cX6_swap 57) 57 L (.int i :: .ref a :: r) h cs ss = (isA (h.1 a) (fun k m => 4 ≤ k ∧ vp_in i m) ∧ K 58 L (h.2 a i.toNatClampNeg :: r) h cs ss) := by
  rw [dX6_swap_57, ey_ok, nx_aaload_61]
theorem qX6_swap_58r : ey FX6 ini rt fin K0 K (decode cX6_swap 58) 58 L (.ref a :: r) h cs ss = (6 < L.length ∧ K 60 (L.set 6 (some (.ref a))) r h cs ss) := by
  rw [dX6_swap_58, ey_ok, nx_astore_6] <;> rfl
theorem qX6_swap_58n : ey FX6 ini rt fin K0 K (decode cX6_swap 58) 58 L (.null :: r) h cs ss = (6 < L.length ∧ K 60 (L.set 6 (some .null)) r h cs ss) := by
  rw [dX6_swap_58, ey_ok, nx_astore_7] <;> rfl
theorem qX6_swap_60 : ey FX6 ini rt fin K0 K (decode cX6_swap 60) 60 L (st) h cs ss = (lhas L 6 ∧ isRf (lgt L 6) ∧ K 62 L (lgt L 6 :: st) h cs ss) := by
  rw [dX6_swap_60, ey_ok, nx_aload_2] <;> rfl
theorem qX6_swap_62n : ey FX6 ini rt fin K0 K (decode cX6_swap 62) 62 L (.null :: r) h cs ss = (K 79 L r h cs ss) := by
  rw [dX6_swap_62, ey_ok, nx_ifnull_50]
  exact and_l (by unfold jok; decide)
theorem qX6_swap_62r : ey FX6 ini rt fin K0 K (decode cX6_swap 62) 62 L (.ref a :: r) h cs ss = (K 65 L r h cs ss) := by
  rw [dX6_swap_62, ey_ok, nx_ifnull_51]
  exact and_l (by unfold jok; decide)
theorem qX6_swap_65 : ey FX6 ini rt fin K0 K (decode cX6_swap 65) 65 L (st) h cs ss = (lhas L 0 ∧ isRf (lgt L 0) ∧ K 66 L (lgt L 0 :: st) h cs ss) := by
  rw [dX6_swap_65, ey_ok, nx_aload_n_3] <;> rfl
theorem qX6_swap_66 : ey FX6 ini rt fin K0 K (decode cX6_swap 66) 66 L (st) h cs ss = (lhas L 6 ∧ isRf (lgt L 6) ∧ K 68 L (lgt L 6 :: st) h cs ss) := by
  rw [dX6_swap_66, ey_ok, nx_aload_2] <;> rfl
theorem qX6_swap_68 : ey FX6 ini rt fin K0 K (decode cX6_swap 68) 68 L (.ref a :: r) h cs ss = (h.1 a = some (.inl 1) ∧ K 71 L (h.2 a 2 :: r) h cs ss) := by
  rw [dX6_swap_68, ey_ok, nx_getfield_54]
  exact and_l rfl
theorem qX6_swap_71 : ey FX6 ini rt fin K0 K (decode cX6_swap 71) 71 L (st) h cs ss = (lhas L 6 ∧ isRf (lgt L 6) ∧ K 73 L (lgt L 6 :: st) h cs ss) := by
  rw [dX6_swap_71, ey_ok, nx_aload_2] <;> rfl
theorem qX6_swap_73 : ey FX6 ini rt fin K0 K (decode cX6_swap 73) 73 L (.ref a :: r) h cs ss = (h.1 a = some (.inl 1) ∧ K 76 L (h.2 a 0 :: r) h cs ss) := by
  rw [dX6_swap_73, ey_ok, nx_getfield_54]
  exact and_l rfl
theorem qX6_swap_76 : ey FX6 ini rt fin K0 K (decode cX6_swap 76) 76 L (st) h cs ss = (K0 76 L st h cs ss) := by
  rw [dX6_swap_76, ey_ok, nx_invokevirtual_72]
theorem qX6_swap_79 : ey FX6 ini rt fin K0 K (decode cX6_swap 79) 79 L (st) h cs ss = (lhas L 5 ∧ isI (lgt L 5) ∧ K 82 (L.set 5 (some (inc (lgt L 5) 1))) st h cs ss) := by
  rw [dX6_swap_79, ey_ok, nx_iinc_10] <;> rfl
theorem qX6_swap_82 : ey FX6 ini rt fin K0 K (decode cX6_swap 82) 82 L (st) h cs ss = (K 47 L st h cs ss) := by
  rw [dX6_swap_82, ey_ok, nx_goto_29]
  exact and_l (by unfold jok; decide)
theorem qX6_swap_85 : ey FX6 ini rt fin K0 K (decode cX6_swap 85) 85 L (st) h cs ss = (lhas L 0 ∧ isRf (lgt L 0) ∧ K 86 L (lgt L 0 :: st) h cs ss) := by
  rw [dX6_swap_85, ey_ok, nx_aload_n_3] <;> rfl
theorem qX6_swap_86 : ey FX6 ini rt fin K0 K (decode cX6_swap 86) 86 L (st) h cs ss = (K0 86 L st h cs ss) := by
  rw [dX6_swap_86, ey_ok, nx_invokevirtual_72]
theorem qX6_swap_89 : ey FX6 ini rt fin K0 K (decode cX6_swap 89) 89 L (v :: r) h cs ss = (v.category = 1 ∧ K 90 L r h cs ss) := by
  rw [dX6_swap_89, ey_ok, nx_pop_28]
theorem qX6_swap_90 : ey FX6 ini rt fin K0 K (decode cX6_swap 90) 90 L (st) h cs ss = (lhas L 0 ∧ isRf (lgt L 0) ∧ K 91 L (lgt L 0 :: st) h cs ss) := by
  rw [dX6_swap_90, ey_ok, nx_aload_n_3] <;> rfl
theorem qX6_swap_91 : ey FX6 ini rt fin K0 K (decode cX6_swap 91) 91 L (.ref a :: r) h cs ss = (h.1 a = some (.inl 6) ∧ K 94 L (h.2 a 9 :: r) h cs ss) := by
  rw [dX6_swap_91, ey_ok, nx_getfield_54]
  exact and_l rfl
theorem qX6_swap_94 : ey FX6 ini rt fin K0 K (decode cX6_swap 94) 94 L (st) h cs ss = (lhas L 2 ∧ isI (lgt L 2) ∧ K 95 L (lgt L 2 :: st) h cs ss) := by
  rw [dX6_swap_94, ey_ok, nx_iload_n_1] <;> rfl
theorem qX6_swap_95 : ey FX6 ini rt fin K0 K (decode cX6_swap 95) 95 L (.int y :: .int x :: r) h cs ss = (K 96 L (.int (x - y) :: r) h cs ss) := by
  rw [dX6_swap_95, ey_ok, nx_isub_17]
theorem qX6_swap_96 : ey FX6 ini rt fin K0 K (decode cX6_swap 96) 96 L ([.int x]) h cs ss = (rokI rt x ∧ fin (some (.int x)) h cs ss) := by
  rw [dX6_swap_96, ey_ok, nx_ireturn_68]
theorem qX6_theWorker_0 : ey FX6 ini rt fin K0 K (decode cX6_theWorker 0) 0 L (st) h cs ss = (lhas L 1 ∧ isI (lgt L 1) ∧ K 1 L (lgt L 1 :: st) h cs ss) := by
  rw [dX6_theWorker_0, ey_ok, nx_iload_n_1] <;> rfl
theorem qX6_theWorker_1 : ey FX6 ini rt fin K0 K (decode cX6_theWorker 1) 1 L (.int x :: r) h cs ss = (if x < 0 then K 13 L r h cs ss else K 4 L r h cs ss) := by
  rw [dX6_theWorker_1, ey_ok, nx_ifond_32]
  exact and_l (by unfold jok; decide)
theorem qX6_theWorker_4 : ey FX6 ini rt fin K0 K (decode cX6_theWorker 4) 4 L (st) h cs ss = (lhas L 1 ∧ isI (lgt L 1) ∧ K 5 L (lgt L 1 :: st) h cs ss) := by
  rw [dX6_theWorker_4, ey_ok, nx_iload_n_1] <;> rfl
theorem qX6_theWorker_5 : ey FX6 ini rt fin K0 K (decode cX6_theWorker 5) 5 L (st) h cs ss = (lhas L 0 ∧ isRf (lgt L 0) ∧ K 6 L (lgt L 0 :: st) h cs ss) := by
  rw [dX6_theWorker_5, ey_ok, nx_aload_n_3] <;> rfl
theorem qX6_theWorker_6 : ey FX6 ini rt fin K0 K (decode cX6_theWorker 6) 6 L (.ref a :: r) h cs ss = (h.1 a = some (.inl 6) ∧ K 9 L (h.2 a 0 :: r) h cs ss) := by
  rw [dX6_theWorker_6, ey_ok, nx_getfield_54]
  exact and_l rfl
theorem qX6_theWorker_9 : ey FX6 ini rt fin K0 K (decode cX6_theWorker 9) 9 L (.ref a :: r) h cs ss = (isA (h.1 a) (fun _ _ => True) ∧ K 10 L (.int (nI (alen (h.1 a))) :: r) h cs ss) := by
  rw [dX6_theWorker_9, ey_ok, nx_arraylength_56]
theorem qX6_theWorker_10 : ey FX6 ini rt fin K0 K (decode cX6_theWorker 10) 10 L (.int y :: .int x :: r) h cs ss = (if x < y then K 17 L r h cs ss else K 13 L r h cs ss) := by
  rw [dX6_theWorker_10, ey_ok, nx_if_icmp_38]
  exact and_l (by unfold jok; decide)
theorem qX6_theWorker_13 : ey FX6 ini rt fin K0 K (decode cX6_theWorker 13) 13 L (st) h cs ss = (K 14 L (.null :: st) h cs ss) := by
  rw [dX6_theWorker_13, ey_ok, nx_aconst_null_15]
theorem qX6_theWorker_14 : ey FX6 ini rt fin K0 K (decode cX6_theWorker 14) 14 L (st) h cs ss = (K 23 L st h cs ss) := by
  rw [dX6_theWorker_14, ey_ok, nx_goto_29]
  exact and_l (by unfold jok; decide)
theorem qX6_theWorker_17 : ey FX6 ini rt fin K0 K (decode cX6_theWorker 17) 17 L (st) h cs ss = (lhas L 0 ∧ isRf (lgt L 0) ∧ K 18 L (lgt L 0 :: st) h cs ss) := by
  rw [dX6_theWorker_17, ey_ok, nx_aload_n_3] <;> rfl
theorem qX6_theWorker_18 : ey FX6 ini rt fin K0 K (decode cX6_theWorker 18) 18 L (.ref a :: r) h cs ss = (h.1 a = some (.inl 6) ∧ K 21 L (h.2 a 0 :: r) h cs ss) := by
  rw [dX6_theWorker_18, ey_ok, nx_getfield_54]
  exact and_l rfl
theorem qX6_theWorker_21 : ey FX6 ini rt fin K0 K (decode cX6_theWorker 21) 21 L (st) h cs ss = (lhas L 1 ∧ isI (lgt L 1) ∧ K 22 L (lgt L 1 :: st) h cs ss) := by
  rw [dX6_theWorker_21, ey_ok, nx_iload_n_1] <;> rfl
theorem qX6_theWorker_22 : ey FX6 ini rt fin K0 K (decode cX6_theWorker 22) 22 L (.int i :: .ref a :: r) h cs ss = (isA (h.1 a) (fun k m => 4 ≤ k ∧ vp_in i m) ∧ K 23 L (h.2 a i.toNatClampNeg :: r) h cs ss) := by
  rw [dX6_theWorker_22, ey_ok, nx_aaload_61]
theorem qX6_theWorker_23r : ey FX6 ini rt fin K0 K (decode cX6_theWorker 23) 23 L (.ref a :: r) h cs ss = (2 < L.length ∧ K 24 (L.set 2 (some (.ref a))) r h cs ss) := by
  rw [dX6_theWorker_23, ey_ok, nx_astore_n_8] <;> rfl
theorem qX6_theWorker_23n : ey FX6 ini rt fin K0 K (decode cX6_theWorker 23) 23 L (.null :: r) h cs ss = (2 < L.length ∧ K 24 (L.set 2 (some .null)) r h cs ss) := by
  rw [dX6_theWorker_23, ey_ok, nx_astore_n_9] <;> rfl
theorem qX6_theWorker_24 : ey FX6 ini rt fin K0 K (decode cX6_theWorker 24) 24 L (st) h cs ss = (lhas L 2 ∧ isRf (lgt L 2) ∧ K 25 L (lgt L 2 :: st) h cs ss) := by
  rw [dX6_theWorker_24, ey_ok, nx_aload_n_3] <;> rfl
theorem qX6_theWorker_25n : ey FX6 ini rt fin K0 K (decode cX6_theWorker 25) 25 L (.null :: r) h cs ss = (K 28 L r h cs ss) := by
  rw [dX6_theWorker_25, ey_ok, nx_ifnonnull_52]
  exact and_l (by unfold jok; decide)
theorem qX6_theWorker_25r : ey FX6 ini rt fin K0 K (decode cX6_theWorker 25) 25 L (.ref a :: r) h cs ss = (K 39 L r h cs ss) := by
  rw [dX6_theWorker_25, ey_ok, nx_ifnonnull_53]
  exact and_l (by unfold jok; decide)
theorem qX6_theWorker_28 : ey FX6 ini rt fin K0 K (decode cX6_theWorker 28) 28 L (st) h cs ss = (K0 28 L st h cs ss) := by
  rw [dX6_theWorker_28, ey_ok, nx_new_75]
theorem qX6_theWorker_31 : ey FX6 ini rt fin K0 K (decode cX6_theWorker 31) 31 L (v :: r) h cs ss = (v.category = 1 ∧ K 32 L (v :: v :: r) h cs ss) := by
  rw [dX6_theWorker_31, ey_ok, nx_dup_27]
theorem qX6_theWorker_35 : ey FX6 ini rt fin K0 K (decode cX6_theWorker 35) 35 L (st) h cs ss = (K0 35 L st h cs ss) := by
  rw [dX6_theWorker_35, ey_ok, nx_invokespecial_74]
theorem qX6_theWorker_38 : ey FX6 ini rt fin K0 K (decode cX6_theWorker 38) 38 L (st) h cs ss = (K0 38 L st h cs ss) := by
  rw [dX6_theWorker_38, ey_ok, nx_athrow_80]
theorem qX6_theWorker_39 : ey FX6 ini rt fin K0 K (decode cX6_theWorker 39) 39 L (st) h cs ss = (lhas L 2 ∧ isRf (lgt L 2) ∧ K 40 L (lgt L 2 :: st) h cs ss) := by
  rw [dX6_theWorker_39, ey_ok, nx_aload_n_3] <;> rfl
theorem qX6_theWorker_40r : ey FX6 ini rt fin K0 K (decode cX6_theWorker 40) 40 L ([.ref a]) h cs ss = (isR rt ∧ fin (some (.ref a)) h cs ss) := by
  rw [dX6_theWorker_40, ey_ok, nx_areturn_69]
theorem qX6_theWorker_40n : ey FX6 ini rt fin K0 K (decode cX6_theWorker 40) 40 L ([.null]) h cs ss = (isR rt ∧ fin (some .null) h cs ss) := by
  rw [dX6_theWorker_40, ey_ok, nx_areturn_70]
theorem qX6_theShift_0 : ey FX6 ini rt fin K0 K (decode cX6_theShift 0) 0 L (st) h cs ss = (lhas L 1 ∧ isI (lgt L 1) ∧ K 1 L (lgt L 1 :: st) h cs ss) := by
  rw [dX6_theShift_0, ey_ok, nx_iload_n_1] <;> rfl
theorem qX6_theShift_1 : ey FX6 ini rt fin K0 K (decode cX6_theShift 1) 1 L (.int x :: r) h cs ss = (if x < 0 then K 13 L r h cs ss else K 4 L r h cs ss) := by
  rw [dX6_theShift_1, ey_ok, nx_ifond_32]
  exact and_l (by unfold jok; decide)
theorem qX6_theShift_4 : ey FX6 ini rt fin K0 K (decode cX6_theShift 4) 4 L (st) h cs ss = (lhas L 1 ∧ isI (lgt L 1) ∧ K 5 L (lgt L 1 :: st) h cs ss) := by
  rw [dX6_theShift_4, ey_ok, nx_iload_n_1] <;> rfl
theorem qX6_theShift_5 : ey FX6 ini rt fin K0 K (decode cX6_theShift 5) 5 L (st) h cs ss = (lhas L 0 ∧ isRf (lgt L 0) ∧ K 6 L (lgt L 0 :: st) h cs ss) := by
  rw [dX6_theShift_5, ey_ok, nx_aload_n_3] <;> rfl
theorem qX6_theShift_6 : ey FX6 ini rt fin K0 K (decode cX6_theShift 6) 6 L (.ref a :: r) h cs ss = (h.1 a = some (.inl 6) ∧ K 9 L (h.2 a 1 :: r) h cs ss) := by
  rw [dX6_theShift_6, ey_ok, nx_getfield_54]
  exact and_l rfl
theorem qX6_theShift_9 : ey FX6 ini rt fin K0 K (decode cX6_theShift 9) 9 L (.ref a :: r) h cs ss = (isA (h.1 a) (fun _ _ => True) ∧ K 10 L (.int (nI (alen (h.1 a))) :: r) h cs ss) := by
  rw [dX6_theShift_9, ey_ok, nx_arraylength_56]
theorem qX6_theShift_10 : ey FX6 ini rt fin K0 K (decode cX6_theShift 10) 10 L (.int y :: .int x :: r) h cs ss = (if x < y then K 17 L r h cs ss else K 13 L r h cs ss) := by
  rw [dX6_theShift_10, ey_ok, nx_if_icmp_38]
  exact and_l (by unfold jok; decide)
theorem qX6_theShift_13 : ey FX6 ini rt fin K0 K (decode cX6_theShift 13) 13 L (st) h cs ss = (K 14 L (.null :: st) h cs ss) := by
  rw [dX6_theShift_13, ey_ok, nx_aconst_null_15]
theorem qX6_theShift_14 : ey FX6 ini rt fin K0 K (decode cX6_theShift 14) 14 L (st) h cs ss = (K 23 L st h cs ss) := by
  rw [dX6_theShift_14, ey_ok, nx_goto_29]
  exact and_l (by unfold jok; decide)
theorem qX6_theShift_17 : ey FX6 ini rt fin K0 K (decode cX6_theShift 17) 17 L (st) h cs ss = (lhas L 0 ∧ isRf (lgt L 0) ∧ K 18 L (lgt L 0 :: st) h cs ss) := by
  rw [dX6_theShift_17, ey_ok, nx_aload_n_3] <;> rfl
theorem qX6_theShift_18 : ey FX6 ini rt fin K0 K (decode cX6_theShift 18) 18 L (.ref a :: r) h cs ss = (h.1 a = some (.inl 6) ∧ K 21 L (h.2 a 1 :: r) h cs ss) := by
  rw [dX6_theShift_18, ey_ok, nx_getfield_54]
  exact and_l rfl
theorem qX6_theShift_21 : ey FX6 ini rt fin K0 K (decode cX6_theShift 21) 21 L (st) h cs ss = (lhas L 1 ∧ isI (lgt L 1) ∧ K 22 L (lgt L 1 :: st) h cs ss) := by
  rw [dX6_theShift_21, ey_ok, nx_iload_n_1] <;> rfl
theorem qX6_theShift_22 : ey FX6 ini rt fin K0 K (decode cX6_theShift 22) 22 L (.int i :: .ref a :: r) h cs ss = (isA (h.1 a) (fun k m => 4 ≤ k ∧ vp_in i m) ∧ K 23 L (h.2 a i.toNatClampNeg :: r) h cs ss) := by
  rw [dX6_theShift_22, ey_ok, nx_aaload_61]
theorem qX6_theShift_23r : ey FX6 ini rt fin K0 K (decode cX6_theShift 23) 23 L (.ref a :: r) h cs ss = (2 < L.length ∧ K 24 (L.set 2 (some (.ref a))) r h cs ss) := by
  rw [dX6_theShift_23, ey_ok, nx_astore_n_8] <;> rfl
theorem qX6_theShift_23n : ey FX6 ini rt fin K0 K (decode cX6_theShift 23) 23 L (.null :: r) h cs ss = (2 < L.length ∧ K 24 (L.set 2 (some .null)) r h cs ss) := by
  rw [dX6_theShift_23, ey_ok, nx_astore_n_9] <;> rfl
theorem qX6_theShift_24 : ey FX6 ini rt fin K0 K (decode cX6_theShift 24) 24 L (st) h cs ss = (lhas L 2 ∧ isRf (lgt L 2) ∧ K 25 L (lgt L 2 :: st) h cs ss) := by
  rw [dX6_theShift_24, ey_ok, nx_aload_n_3] <;> rfl
theorem qX6_theShift_25n : ey FX6 ini rt fin K0 K (decode cX6_theShift 25) 25 L (.null :: r) h cs ss = (K 28 L r h cs ss) := by
  rw [dX6_theShift_25, ey_ok, nx_ifnonnull_52]
  exact and_l (by unfold jok; decide)
theorem qX6_theShift_25r : ey FX6 ini rt fin K0 K (decode cX6_theShift 25) 25 L (.ref a :: r) h cs ss = (K 39 L r h cs ss) := by
  rw [dX6_theShift_25, ey_ok, nx_ifnonnull_53]
  exact and_l (by unfold jok; decide)
theorem qX6_theShift_28 : ey FX6 ini rt fin K0 K (decode cX6_theShift 28) 28 L (st) h cs ss = (K0 28 L st h cs ss) := by
  rw [dX6_theShift_28, ey_ok, nx_new_75]
theorem qX6_theShift_31 : ey FX6 ini rt fin K0 K (decode cX6_theShift 31) 31 L (v :: r) h cs ss = (v.category = 1 ∧ K 32 L (v :: v :: r) h cs ss) := by
  rw [dX6_theShift_31, ey_ok, nx_dup_27]
theorem qX6_theShift_35 : ey FX6 ini rt fin K0 K (decode cX6_theShift 35) 35 L (st) h cs ss = (K0 35 L st h cs ss) := by
  rw [dX6_theShift_35, ey_ok, nx_invokespecial_74]
theorem qX6_theShift_38 : ey FX6 ini rt fin K0 K (decode cX6_theShift 38) 38 L (st) h cs ss = (K0 38 L st h cs ss) := by
  rw [dX6_theShift_38, ey_ok, nx_athrow_80]
theorem qX6_theShift_39 : ey FX6 ini rt fin K0 K (decode cX6_theShift 39) 39 L (st) h cs ss = (lhas L 2 ∧ isRf (lgt L 2) ∧ K 40 L (lgt L 2 :: st) h cs ss) := by
  rw [dX6_theShift_39, ey_ok, nx_aload_n_3] <;> rfl
theorem qX6_theShift_40r : ey FX6 ini rt fin K0 K (decode cX6_theShift 40) 40 L ([.ref a]) h cs ss = (isR rt ∧ fin (some (.ref a)) h cs ss) := by
  rw [dX6_theShift_40, ey_ok, nx_areturn_69]
theorem qX6_theShift_40n : ey FX6 ini rt fin K0 K (decode cX6_theShift 40) 40 L ([.null]) h cs ss = (isR rt ∧ fin (some .null) h cs ss) := by
  rw [dX6_theShift_40, ey_ok, nx_areturn_70]
theorem qX6_theRule_0 : ey FX6 ini rt fin K0 K (decode cX6_theRule 0) 0 L (st) h cs ss = (lhas L 1 ∧ isI (lgt L 1) ∧ K 1 L (lgt L 1 :: st) h cs ss) := by
  rw [dX6_theRule_0, ey_ok, nx_iload_n_1] <;> rfl
theorem qX6_theRule_1 : ey FX6 ini rt fin K0 K (decode cX6_theRule 1) 1 L (.int x :: r) h cs ss = (if x < 0 then K 13 L r h cs ss else K 4 L r h cs ss) := by
  rw [dX6_theRule_1, ey_ok, nx_ifond_32]
  exact and_l (by unfold jok; decide)
theorem qX6_theRule_4 : ey FX6 ini rt fin K0 K (decode cX6_theRule 4) 4 L (st) h cs ss = (lhas L 1 ∧ isI (lgt L 1) ∧ K 5 L (lgt L 1 :: st) h cs ss) := by
  rw [dX6_theRule_4, ey_ok, nx_iload_n_1] <;> rfl
theorem qX6_theRule_5 : ey FX6 ini rt fin K0 K (decode cX6_theRule 5) 5 L (st) h cs ss = (lhas L 0 ∧ isRf (lgt L 0) ∧ K 6 L (lgt L 0 :: st) h cs ss) := by
  rw [dX6_theRule_5, ey_ok, nx_aload_n_3] <;> rfl
theorem qX6_theRule_6 : ey FX6 ini rt fin K0 K (decode cX6_theRule 6) 6 L (.ref a :: r) h cs ss = (h.1 a = some (.inl 6) ∧ K 9 L (h.2 a 2 :: r) h cs ss) := by
  rw [dX6_theRule_6, ey_ok, nx_getfield_54]
  exact and_l rfl
theorem qX6_theRule_9 : ey FX6 ini rt fin K0 K (decode cX6_theRule 9) 9 L (.ref a :: r) h cs ss = (isA (h.1 a) (fun _ _ => True) ∧ K 10 L (.int (nI (alen (h.1 a))) :: r) h cs ss) := by
  rw [dX6_theRule_9, ey_ok, nx_arraylength_56]
theorem qX6_theRule_10 : ey FX6 ini rt fin K0 K (decode cX6_theRule 10) 10 L (.int y :: .int x :: r) h cs ss = (if x < y then K 17 L r h cs ss else K 13 L r h cs ss) := by
  rw [dX6_theRule_10, ey_ok, nx_if_icmp_38]
  exact and_l (by unfold jok; decide)
theorem qX6_theRule_13 : ey FX6 ini rt fin K0 K (decode cX6_theRule 13) 13 L (st) h cs ss = (K 14 L (.null :: st) h cs ss) := by
  rw [dX6_theRule_13, ey_ok, nx_aconst_null_15]
theorem qX6_theRule_14 : ey FX6 ini rt fin K0 K (decode cX6_theRule 14) 14 L (st) h cs ss = (K 23 L st h cs ss) := by
  rw [dX6_theRule_14, ey_ok, nx_goto_29]
  exact and_l (by unfold jok; decide)
theorem qX6_theRule_17 : ey FX6 ini rt fin K0 K (decode cX6_theRule 17) 17 L (st) h cs ss = (lhas L 0 ∧ isRf (lgt L 0) ∧ K 18 L (lgt L 0 :: st) h cs ss) := by
  rw [dX6_theRule_17, ey_ok, nx_aload_n_3] <;> rfl
theorem qX6_theRule_18 : ey FX6 ini rt fin K0 K (decode cX6_theRule 18) 18 L (.ref a :: r) h cs ss = (h.1 a = some (.inl 6) ∧ K 21 L (h.2 a 2 :: r) h cs ss) := by
  rw [dX6_theRule_18, ey_ok, nx_getfield_54]
  exact and_l rfl
theorem qX6_theRule_21 : ey FX6 ini rt fin K0 K (decode cX6_theRule 21) 21 L (st) h cs ss = (lhas L 1 ∧ isI (lgt L 1) ∧ K 22 L (lgt L 1 :: st) h cs ss) := by
  rw [dX6_theRule_21, ey_ok, nx_iload_n_1] <;> rfl
theorem qX6_theRule_22 : ey FX6 ini rt fin K0 K (decode cX6_theRule 22) 22 L (.int i :: .ref a :: r) h cs ss = (isA (h.1 a) (fun k m => 4 ≤ k ∧ vp_in i m) ∧ K 23 L (h.2 a i.toNatClampNeg :: r) h cs ss) := by
  rw [dX6_theRule_22, ey_ok, nx_aaload_61]
theorem qX6_theRule_23r : ey FX6 ini rt fin K0 K (decode cX6_theRule 23) 23 L (.ref a :: r) h cs ss = (2 < L.length ∧ K 24 (L.set 2 (some (.ref a))) r h cs ss) := by
  rw [dX6_theRule_23, ey_ok, nx_astore_n_8] <;> rfl
theorem qX6_theRule_23n : ey FX6 ini rt fin K0 K (decode cX6_theRule 23) 23 L (.null :: r) h cs ss = (2 < L.length ∧ K 24 (L.set 2 (some .null)) r h cs ss) := by
  rw [dX6_theRule_23, ey_ok, nx_astore_n_9] <;> rfl
theorem qX6_theRule_24 : ey FX6 ini rt fin K0 K (decode cX6_theRule 24) 24 L (st) h cs ss = (lhas L 2 ∧ isRf (lgt L 2) ∧ K 25 L (lgt L 2 :: st) h cs ss) := by
  rw [dX6_theRule_24, ey_ok, nx_aload_n_3] <;> rfl
theorem qX6_theRule_25n : ey FX6 ini rt fin K0 K (decode cX6_theRule 25) 25 L (.null :: r) h cs ss = (K 28 L r h cs ss) := by
  rw [dX6_theRule_25, ey_ok, nx_ifnonnull_52]
  exact and_l (by unfold jok; decide)
theorem qX6_theRule_25r : ey FX6 ini rt fin K0 K (decode cX6_theRule 25) 25 L (.ref a :: r) h cs ss = (K 39 L r h cs ss) := by
  rw [dX6_theRule_25, ey_ok, nx_ifnonnull_53]
  exact and_l (by unfold jok; decide)
theorem qX6_theRule_28 : ey FX6 ini rt fin K0 K (decode cX6_theRule 28) 28 L (st) h cs ss = (K0 28 L st h cs ss) := by
  rw [dX6_theRule_28, ey_ok, nx_new_75]
theorem qX6_theRule_31 : ey FX6 ini rt fin K0 K (decode cX6_theRule 31) 31 L (v :: r) h cs ss = (v.category = 1 ∧ K 32 L (v :: v :: r) h cs ss) := by
  rw [dX6_theRule_31, ey_ok, nx_dup_27]
theorem qX6_theRule_35 : ey FX6 ini rt fin K0 K (decode cX6_theRule 35) 35 L (st) h cs ss = (K0 35 L st h cs ss) := by
  rw [dX6_theRule_35, ey_ok, nx_invokespecial_74]
theorem qX6_theRule_38 : ey FX6 ini rt fin K0 K (decode cX6_theRule 38) 38 L (st) h cs ss = (K0 38 L st h cs ss) := by
  rw [dX6_theRule_38, ey_ok, nx_athrow_80]
theorem qX6_theRule_39 : ey FX6 ini rt fin K0 K (decode cX6_theRule 39) 39 L (st) h cs ss = (lhas L 2 ∧ isRf (lgt L 2) ∧ K 40 L (lgt L 2 :: st) h cs ss) := by
  rw [dX6_theRule_39, ey_ok, nx_aload_n_3] <;> rfl
theorem qX6_theRule_40r : ey FX6 ini rt fin K0 K (decode cX6_theRule 40) 40 L ([.ref a]) h cs ss = (isR rt ∧ fin (some (.ref a)) h cs ss) := by
  rw [dX6_theRule_40, ey_ok, nx_areturn_69]
theorem qX6_theRule_40n : ey FX6 ini rt fin K0 K (decode cX6_theRule 40) 40 L ([.null]) h cs ss = (isR rt ∧ fin (some .null) h cs ss) := by
  rw [dX6_theRule_40, ey_ok, nx_areturn_70]
theorem qX6_theClaim_0 : ey FX6 ini rt fin K0 K (decode cX6_theClaim 0) 0 L (st) h cs ss = (lhas L 1 ∧ isI (lgt L 1) ∧ K 1 L (lgt L 1 :: st) h cs ss) := by
  rw [dX6_theClaim_0, ey_ok, nx_iload_n_1] <;> rfl
theorem qX6_theClaim_1 : ey FX6 ini rt fin K0 K (decode cX6_theClaim 1) 1 L (.int x :: r) h cs ss = (if x < 0 then K 13 L r h cs ss else K 4 L r h cs ss) := by
  rw [dX6_theClaim_1, ey_ok, nx_ifond_32]
  exact and_l (by unfold jok; decide)
theorem qX6_theClaim_4 : ey FX6 ini rt fin K0 K (decode cX6_theClaim 4) 4 L (st) h cs ss = (lhas L 1 ∧ isI (lgt L 1) ∧ K 5 L (lgt L 1 :: st) h cs ss) := by
  rw [dX6_theClaim_4, ey_ok, nx_iload_n_1] <;> rfl
theorem qX6_theClaim_5 : ey FX6 ini rt fin K0 K (decode cX6_theClaim 5) 5 L (st) h cs ss = (lhas L 0 ∧ isRf (lgt L 0) ∧ K 6 L (lgt L 0 :: st) h cs ss) := by
  rw [dX6_theClaim_5, ey_ok, nx_aload_n_3] <;> rfl
theorem qX6_theClaim_6 : ey FX6 ini rt fin K0 K (decode cX6_theClaim 6) 6 L (.ref a :: r) h cs ss = (h.1 a = some (.inl 6) ∧ K 9 L (h.2 a 3 :: r) h cs ss) := by
  rw [dX6_theClaim_6, ey_ok, nx_getfield_54]
  exact and_l rfl
theorem qX6_theClaim_9 : ey FX6 ini rt fin K0 K (decode cX6_theClaim 9) 9 L (.ref a :: r) h cs ss = (isA (h.1 a) (fun _ _ => True) ∧ K 10 L (.int (nI (alen (h.1 a))) :: r) h cs ss) := by
  rw [dX6_theClaim_9, ey_ok, nx_arraylength_56]
theorem qX6_theClaim_10 : ey FX6 ini rt fin K0 K (decode cX6_theClaim 10) 10 L (.int y :: .int x :: r) h cs ss = (if x < y then K 17 L r h cs ss else K 13 L r h cs ss) := by
  rw [dX6_theClaim_10, ey_ok, nx_if_icmp_38]
  exact and_l (by unfold jok; decide)
theorem qX6_theClaim_13 : ey FX6 ini rt fin K0 K (decode cX6_theClaim 13) 13 L (st) h cs ss = (K 14 L (.null :: st) h cs ss) := by
  rw [dX6_theClaim_13, ey_ok, nx_aconst_null_15]
theorem qX6_theClaim_14 : ey FX6 ini rt fin K0 K (decode cX6_theClaim 14) 14 L (st) h cs ss = (K 23 L st h cs ss) := by
  rw [dX6_theClaim_14, ey_ok, nx_goto_29]
  exact and_l (by unfold jok; decide)
theorem qX6_theClaim_17 : ey FX6 ini rt fin K0 K (decode cX6_theClaim 17) 17 L (st) h cs ss = (lhas L 0 ∧ isRf (lgt L 0) ∧ K 18 L (lgt L 0 :: st) h cs ss) := by
  rw [dX6_theClaim_17, ey_ok, nx_aload_n_3] <;> rfl
theorem qX6_theClaim_18 : ey FX6 ini rt fin K0 K (decode cX6_theClaim 18) 18 L (.ref a :: r) h cs ss = (h.1 a = some (.inl 6) ∧ K 21 L (h.2 a 3 :: r) h cs ss) := by
  rw [dX6_theClaim_18, ey_ok, nx_getfield_54]
  exact and_l rfl
theorem qX6_theClaim_21 : ey FX6 ini rt fin K0 K (decode cX6_theClaim 21) 21 L (st) h cs ss = (lhas L 1 ∧ isI (lgt L 1) ∧ K 22 L (lgt L 1 :: st) h cs ss) := by
  rw [dX6_theClaim_21, ey_ok, nx_iload_n_1] <;> rfl
theorem qX6_theClaim_22 : ey FX6 ini rt fin K0 K (decode cX6_theClaim 22) 22 L (.int i :: .ref a :: r) h cs ss = (isA (h.1 a) (fun k m => 4 ≤ k ∧ vp_in i m) ∧ K 23 L (h.2 a i.toNatClampNeg :: r) h cs ss) := by
  rw [dX6_theClaim_22, ey_ok, nx_aaload_61]
theorem qX6_theClaim_23r : ey FX6 ini rt fin K0 K (decode cX6_theClaim 23) 23 L (.ref a :: r) h cs ss = (2 < L.length ∧ K 24 (L.set 2 (some (.ref a))) r h cs ss) := by
  rw [dX6_theClaim_23, ey_ok, nx_astore_n_8] <;> rfl
theorem qX6_theClaim_23n : ey FX6 ini rt fin K0 K (decode cX6_theClaim 23) 23 L (.null :: r) h cs ss = (2 < L.length ∧ K 24 (L.set 2 (some .null)) r h cs ss) := by
  rw [dX6_theClaim_23, ey_ok, nx_astore_n_9] <;> rfl
theorem qX6_theClaim_24 : ey FX6 ini rt fin K0 K (decode cX6_theClaim 24) 24 L (st) h cs ss = (lhas L 2 ∧ isRf (lgt L 2) ∧ K 25 L (lgt L 2 :: st) h cs ss) := by
  rw [dX6_theClaim_24, ey_ok, nx_aload_n_3] <;> rfl
theorem qX6_theClaim_25n : ey FX6 ini rt fin K0 K (decode cX6_theClaim 25) 25 L (.null :: r) h cs ss = (K 28 L r h cs ss) := by
  rw [dX6_theClaim_25, ey_ok, nx_ifnonnull_52]
  exact and_l (by unfold jok; decide)
theorem qX6_theClaim_25r : ey FX6 ini rt fin K0 K (decode cX6_theClaim 25) 25 L (.ref a :: r) h cs ss = (K 39 L r h cs ss) := by
  rw [dX6_theClaim_25, ey_ok, nx_ifnonnull_53]
  exact and_l (by unfold jok; decide)
theorem qX6_theClaim_28 : ey FX6 ini rt fin K0 K (decode cX6_theClaim 28) 28 L (st) h cs ss = (K0 28 L st h cs ss) := by
  rw [dX6_theClaim_28, ey_ok, nx_new_75]
theorem qX6_theClaim_31 : ey FX6 ini rt fin K0 K (decode cX6_theClaim 31) 31 L (v :: r) h cs ss = (v.category = 1 ∧ K 32 L (v :: v :: r) h cs ss) := by
  rw [dX6_theClaim_31, ey_ok, nx_dup_27]
theorem qX6_theClaim_35 : ey FX6 ini rt fin K0 K (decode cX6_theClaim 35) 35 L (st) h cs ss = (K0 35 L st h cs ss) := by
  rw [dX6_theClaim_35, ey_ok, nx_invokespecial_74]
theorem qX6_theClaim_38 : ey FX6 ini rt fin K0 K (decode cX6_theClaim 38) 38 L (st) h cs ss = (K0 38 L st h cs ss) := by
  rw [dX6_theClaim_38, ey_ok, nx_athrow_80]
theorem qX6_theClaim_39 : ey FX6 ini rt fin K0 K (decode cX6_theClaim 39) 39 L (st) h cs ss = (lhas L 2 ∧ isRf (lgt L 2) ∧ K 40 L (lgt L 2 :: st) h cs ss) := by
  rw [dX6_theClaim_39, ey_ok, nx_aload_n_3] <;> rfl
theorem qX6_theClaim_40r : ey FX6 ini rt fin K0 K (decode cX6_theClaim 40) 40 L ([.ref a]) h cs ss = (isR rt ∧ fin (some (.ref a)) h cs ss) := by
  rw [dX6_theClaim_40, ey_ok, nx_areturn_69]
theorem qX6_theClaim_40n : ey FX6 ini rt fin K0 K (decode cX6_theClaim 40) 40 L ([.null]) h cs ss = (isR rt ∧ fin (some .null) h cs ss) := by
  rw [dX6_theClaim_40, ey_ok, nx_areturn_70]
theorem qX6_theOffer_0 : ey FX6 ini rt fin K0 K (decode cX6_theOffer 0) 0 L (st) h cs ss = (lhas L 1 ∧ isI (lgt L 1) ∧ K 1 L (lgt L 1 :: st) h cs ss) := by
  rw [dX6_theOffer_0, ey_ok, nx_iload_n_1] <;> rfl
theorem qX6_theOffer_1 : ey FX6 ini rt fin K0 K (decode cX6_theOffer 1) 1 L (.int x :: r) h cs ss = (if x < 0 then K 13 L r h cs ss else K 4 L r h cs ss) := by
  rw [dX6_theOffer_1, ey_ok, nx_ifond_32]
  exact and_l (by unfold jok; decide)
theorem qX6_theOffer_4 : ey FX6 ini rt fin K0 K (decode cX6_theOffer 4) 4 L (st) h cs ss = (lhas L 1 ∧ isI (lgt L 1) ∧ K 5 L (lgt L 1 :: st) h cs ss) := by
  rw [dX6_theOffer_4, ey_ok, nx_iload_n_1] <;> rfl
theorem qX6_theOffer_5 : ey FX6 ini rt fin K0 K (decode cX6_theOffer 5) 5 L (st) h cs ss = (lhas L 0 ∧ isRf (lgt L 0) ∧ K 6 L (lgt L 0 :: st) h cs ss) := by
  rw [dX6_theOffer_5, ey_ok, nx_aload_n_3] <;> rfl
theorem qX6_theOffer_6 : ey FX6 ini rt fin K0 K (decode cX6_theOffer 6) 6 L (.ref a :: r) h cs ss = (h.1 a = some (.inl 6) ∧ K 9 L (h.2 a 4 :: r) h cs ss) := by
  rw [dX6_theOffer_6, ey_ok, nx_getfield_54]
  exact and_l rfl
theorem qX6_theOffer_9 : ey FX6 ini rt fin K0 K (decode cX6_theOffer 9) 9 L (.ref a :: r) h cs ss = (isA (h.1 a) (fun _ _ => True) ∧ K 10 L (.int (nI (alen (h.1 a))) :: r) h cs ss) := by
  rw [dX6_theOffer_9, ey_ok, nx_arraylength_56]
theorem qX6_theOffer_10 : ey FX6 ini rt fin K0 K (decode cX6_theOffer 10) 10 L (.int y :: .int x :: r) h cs ss = (if x < y then K 17 L r h cs ss else K 13 L r h cs ss) := by
  rw [dX6_theOffer_10, ey_ok, nx_if_icmp_38]
  exact and_l (by unfold jok; decide)
theorem qX6_theOffer_13 : ey FX6 ini rt fin K0 K (decode cX6_theOffer 13) 13 L (st) h cs ss = (K 14 L (.null :: st) h cs ss) := by
  rw [dX6_theOffer_13, ey_ok, nx_aconst_null_15]
theorem qX6_theOffer_14 : ey FX6 ini rt fin K0 K (decode cX6_theOffer 14) 14 L (st) h cs ss = (K 23 L st h cs ss) := by
  rw [dX6_theOffer_14, ey_ok, nx_goto_29]
  exact and_l (by unfold jok; decide)
theorem qX6_theOffer_17 : ey FX6 ini rt fin K0 K (decode cX6_theOffer 17) 17 L (st) h cs ss = (lhas L 0 ∧ isRf (lgt L 0) ∧ K 18 L (lgt L 0 :: st) h cs ss) := by
  rw [dX6_theOffer_17, ey_ok, nx_aload_n_3] <;> rfl
theorem qX6_theOffer_18 : ey FX6 ini rt fin K0 K (decode cX6_theOffer 18) 18 L (.ref a :: r) h cs ss = (h.1 a = some (.inl 6) ∧ K 21 L (h.2 a 4 :: r) h cs ss) := by
  rw [dX6_theOffer_18, ey_ok, nx_getfield_54]
  exact and_l rfl
theorem qX6_theOffer_21 : ey FX6 ini rt fin K0 K (decode cX6_theOffer 21) 21 L (st) h cs ss = (lhas L 1 ∧ isI (lgt L 1) ∧ K 22 L (lgt L 1 :: st) h cs ss) := by
  rw [dX6_theOffer_21, ey_ok, nx_iload_n_1] <;> rfl
theorem qX6_theOffer_22 : ey FX6 ini rt fin K0 K (decode cX6_theOffer 22) 22 L (.int i :: .ref a :: r) h cs ss = (isA (h.1 a) (fun k m => 4 ≤ k ∧ vp_in i m) ∧ K 23 L (h.2 a i.toNatClampNeg :: r) h cs ss) := by
  rw [dX6_theOffer_22, ey_ok, nx_aaload_61]
theorem qX6_theOffer_23r : ey FX6 ini rt fin K0 K (decode cX6_theOffer 23) 23 L (.ref a :: r) h cs ss = (2 < L.length ∧ K 24 (L.set 2 (some (.ref a))) r h cs ss) := by
  rw [dX6_theOffer_23, ey_ok, nx_astore_n_8] <;> rfl
theorem qX6_theOffer_23n : ey FX6 ini rt fin K0 K (decode cX6_theOffer 23) 23 L (.null :: r) h cs ss = (2 < L.length ∧ K 24 (L.set 2 (some .null)) r h cs ss) := by
  rw [dX6_theOffer_23, ey_ok, nx_astore_n_9] <;> rfl
theorem qX6_theOffer_24 : ey FX6 ini rt fin K0 K (decode cX6_theOffer 24) 24 L (st) h cs ss = (lhas L 2 ∧ isRf (lgt L 2) ∧ K 25 L (lgt L 2 :: st) h cs ss) := by
  rw [dX6_theOffer_24, ey_ok, nx_aload_n_3] <;> rfl
theorem qX6_theOffer_25n : ey FX6 ini rt fin K0 K (decode cX6_theOffer 25) 25 L (.null :: r) h cs ss = (K 28 L r h cs ss) := by
  rw [dX6_theOffer_25, ey_ok, nx_ifnonnull_52]
  exact and_l (by unfold jok; decide)
theorem qX6_theOffer_25r : ey FX6 ini rt fin K0 K (decode cX6_theOffer 25) 25 L (.ref a :: r) h cs ss = (K 39 L r h cs ss) := by
  rw [dX6_theOffer_25, ey_ok, nx_ifnonnull_53]
  exact and_l (by unfold jok; decide)
theorem qX6_theOffer_28 : ey FX6 ini rt fin K0 K (decode cX6_theOffer 28) 28 L (st) h cs ss = (K0 28 L st h cs ss) := by
  rw [dX6_theOffer_28, ey_ok, nx_new_75]
theorem qX6_theOffer_31 : ey FX6 ini rt fin K0 K (decode cX6_theOffer 31) 31 L (v :: r) h cs ss = (v.category = 1 ∧ K 32 L (v :: v :: r) h cs ss) := by
  rw [dX6_theOffer_31, ey_ok, nx_dup_27]
theorem qX6_theOffer_35 : ey FX6 ini rt fin K0 K (decode cX6_theOffer 35) 35 L (st) h cs ss = (K0 35 L st h cs ss) := by
  rw [dX6_theOffer_35, ey_ok, nx_invokespecial_74]
theorem qX6_theOffer_38 : ey FX6 ini rt fin K0 K (decode cX6_theOffer 38) 38 L (st) h cs ss = (K0 38 L st h cs ss) := by
  rw [dX6_theOffer_38, ey_ok, nx_athrow_80]
theorem qX6_theOffer_39 : ey FX6 ini rt fin K0 K (decode cX6_theOffer 39) 39 L (st) h cs ss = (lhas L 2 ∧ isRf (lgt L 2) ∧ K 40 L (lgt L 2 :: st) h cs ss) := by
  rw [dX6_theOffer_39, ey_ok, nx_aload_n_3] <;> rfl
theorem qX6_theOffer_40r : ey FX6 ini rt fin K0 K (decode cX6_theOffer 40) 40 L ([.ref a]) h cs ss = (isR rt ∧ fin (some (.ref a)) h cs ss) := by
  rw [dX6_theOffer_40, ey_ok, nx_areturn_69]
theorem qX6_theOffer_40n : ey FX6 ini rt fin K0 K (decode cX6_theOffer 40) 40 L ([.null]) h cs ss = (isR rt ∧ fin (some .null) h cs ss) := by
  rw [dX6_theOffer_40, ey_ok, nx_areturn_70]
theorem qX6_judgeAll_0 : ey FX6 ini rt fin K0 K (decode cX6_judgeAll 0) 0 L (st) h cs ss = (K 1 L (.int 0 :: st) h cs ss) := by
  rw [dX6_judgeAll_0, ey_ok, nx_iconst_11] <;> rfl
theorem qX6_judgeAll_1 : ey FX6 ini rt fin K0 K (decode cX6_judgeAll 1) 1 L (.int x :: r) h cs ss = (1 < L.length ∧ K 2 (L.set 1 (some (.int x))) r h cs ss) := by
  rw [dX6_judgeAll_1, ey_ok, nx_istore_n_5] <;> rfl
theorem qX6_judgeAll_2 : ey FX6 ini rt fin K0 K (decode cX6_judgeAll 2) 2 L (st) h cs ss = (lhas L 0 ∧ isRf (lgt L 0) ∧ K 3 L (lgt L 0 :: st) h cs ss) := by
  rw [dX6_judgeAll_2, ey_ok, nx_aload_n_3] <;> rfl
theorem qX6_judgeAll_3 : ey FX6 ini rt fin K0 K (decode cX6_judgeAll 3) 3 L (.ref a :: r) h cs ss = (h.1 a = some (.inl 6) ∧ K 6 L (h.2 a 3 :: r) h cs ss) := by
  rw [dX6_judgeAll_3, ey_ok, nx_getfield_54]
  exact and_l rfl
theorem qX6_judgeAll_6r : ey FX6 ini rt fin K0 K (decode cX6_judgeAll 6) 6 L (.ref a :: r) h cs ss = (2 < L.length ∧ K 7 (L.set 2 (some (.ref a))) r h cs ss) := by
  rw [dX6_judgeAll_6, ey_ok, nx_astore_n_8] <;> rfl
theorem qX6_judgeAll_6n : ey FX6 ini rt fin K0 K (decode cX6_judgeAll 6) 6 L (.null :: r) h cs ss = (2 < L.length ∧ K 7 (L.set 2 (some .null)) r h cs ss) := by
  rw [dX6_judgeAll_6, ey_ok, nx_astore_n_9] <;> rfl
theorem qX6_judgeAll_7 : ey FX6 ini rt fin K0 K (decode cX6_judgeAll 7) 7 L (st) h cs ss = (lhas L 2 ∧ isRf (lgt L 2) ∧ K 8 L (lgt L 2 :: st) h cs ss) := by
  rw [dX6_judgeAll_7, ey_ok, nx_aload_n_3] <;> rfl
theorem qX6_judgeAll_8 : ey FX6 ini rt fin K0 K (decode cX6_judgeAll 8) 8 L (.ref a :: r) h cs ss = (isA (h.1 a) (fun _ _ => True) ∧ K 9 L (.int (nI (alen (h.1 a))) :: r) h cs ss) := by
  rw [dX6_judgeAll_8, ey_ok, nx_arraylength_56]
theorem qX6_judgeAll_9 : ey FX6 ini rt fin K0 K (decode cX6_judgeAll 9) 9 L (.int x :: r) h cs ss = (3 < L.length ∧ K 10 (L.set 3 (some (.int x))) r h cs ss) := by
  rw [dX6_judgeAll_9, ey_ok, nx_istore_n_5] <;> rfl
theorem qX6_judgeAll_10 : ey FX6 ini rt fin K0 K (decode cX6_judgeAll 10) 10 L (st) h cs ss = (K 11 L (.int 0 :: st) h cs ss) := by
  rw [dX6_judgeAll_10, ey_ok, nx_iconst_11] <;> rfl
theorem qX6_judgeAll_11 : ey FX6 ini rt fin K0 K (decode cX6_judgeAll 11) 11 L (.int x :: r) h cs ss = (4 < L.length ∧ K 13 (L.set 4 (some (.int x))) r h cs ss) := by
  rw [dX6_judgeAll_11, ey_ok, nx_istore_4] <;> rfl
theorem qX6_judgeAll_13 : ey FX6 ini rt fin K0 K (decode cX6_judgeAll 13) 13 L (st) h cs ss = (lhas L 4 ∧ isI (lgt L 4) ∧ K 15 L (lgt L 4 :: st) h cs ss) := by
  rw [dX6_judgeAll_13, ey_ok, nx_iload_0] <;> rfl
theorem qX6_judgeAll_15 : ey FX6 ini rt fin K0 K (decode cX6_judgeAll 15) 15 L (st) h cs ss = (lhas L 3 ∧ isI (lgt L 3) ∧ K 16 L (lgt L 3 :: st) h cs ss) := by
  rw [dX6_judgeAll_15, ey_ok, nx_iload_n_1] <;> rfl
theorem qX6_judgeAll_16 : ey FX6 ini rt fin K0 K (decode cX6_judgeAll 16) 16 L (.int y :: .int x :: r) h cs ss = (if y ≤ x then K 55 L r h cs ss else K 19 L r h cs ss) := by
  rw [dX6_judgeAll_16, ey_ok, nx_if_icmp_39]
  exact and_l (by unfold jok; decide)
theorem qX6_judgeAll_19 : ey FX6 ini rt fin K0 K (decode cX6_judgeAll 19) 19 L (st) h cs ss = (lhas L 2 ∧ isRf (lgt L 2) ∧ K 20 L (lgt L 2 :: st) h cs ss) := by
  rw [dX6_judgeAll_19, ey_ok, nx_aload_n_3] <;> rfl
theorem qX6_judgeAll_20 : ey FX6 ini rt fin K0 K (decode cX6_judgeAll 20) 20 L (st) h cs ss = (lhas L 4 ∧ isI (lgt L 4) ∧ K 22 L (lgt L 4 :: st) h cs ss) := by
  rw [dX6_judgeAll_20, ey_ok, nx_iload_0] <;> rfl
theorem qX6_judgeAll_22 : ey FX6 ini rt fin K0 K (decode cX6_judgeAll 22) 22 L (.int i :: .ref a :: r) h cs ss = (isA (h.1 a) (fun k m => 4 ≤ k ∧ vp_in i m) ∧ K 23 L (h.2 a i.toNatClampNeg :: r) h cs ss) := by
  rw [dX6_judgeAll_22, ey_ok, nx_aaload_61]
theorem qX6_judgeAll_23r : ey FX6 ini rt fin K0 K (decode cX6_judgeAll 23) 23 L (.ref a :: r) h cs ss = (5 < L.length ∧ K 25 (L.set 5 (some (.ref a))) r h cs ss) := by
  rw [dX6_judgeAll_23, ey_ok, nx_astore_6] <;> rfl
theorem qX6_judgeAll_23n : ey FX6 ini rt fin K0 K (decode cX6_judgeAll 23) 23 L (.null :: r) h cs ss = (5 < L.length ∧ K 25 (L.set 5 (some .null)) r h cs ss) := by
  rw [dX6_judgeAll_23, ey_ok, nx_astore_7] <;> rfl
theorem qX6_judgeAll_25 : ey FX6 ini rt fin K0 K (decode cX6_judgeAll 25) 25 L (st) h cs ss = (lhas L 5 ∧ isRf (lgt L 5) ∧ K 27 L (lgt L 5 :: st) h cs ss) := by
  rw [dX6_judgeAll_25, ey_ok, nx_aload_2] <;> rfl
theorem qX6_judgeAll_27n : ey FX6 ini rt fin K0 K (decode cX6_judgeAll 27) 27 L (.null :: r) h cs ss = (K 49 L r h cs ss) := by
  rw [dX6_judgeAll_27, ey_ok, nx_ifnull_50]
  exact and_l (by unfold jok; decide)
theorem qX6_judgeAll_27r : ey FX6 ini rt fin K0 K (decode cX6_judgeAll 27) 27 L (.ref a :: r) h cs ss = (K 30 L r h cs ss) := by
  rw [dX6_judgeAll_27, ey_ok, nx_ifnull_51]
  exact and_l (by unfold jok; decide)
theorem qX6_judgeAll_30 : ey FX6 ini rt fin K0 K (decode cX6_judgeAll 30) 30 L (st) h cs ss = (lhas L 5 ∧ isRf (lgt L 5) ∧ K 32 L (lgt L 5 :: st) h cs ss) := by
  rw [dX6_judgeAll_30, ey_ok, nx_aload_2] <;> rfl
theorem qX6_judgeAll_32 : ey FX6 ini rt fin K0 K (decode cX6_judgeAll 32) 32 L (st) h cs ss = (K0 32 L st h cs ss) := by
  rw [dX6_judgeAll_32, ey_ok, nx_invokevirtual_72]
theorem qX6_judgeAll_35 : ey FX6 ini rt fin K0 K (decode cX6_judgeAll 35) 35 L (.int x :: r) h cs ss = (if ¬ x = 0 then K 49 L r h cs ss else K 38 L r h cs ss) := by
  rw [dX6_judgeAll_35, ey_ok, nx_ifond_31]
  exact and_l (by unfold jok; decide)
theorem qX6_judgeAll_38 : ey FX6 ini rt fin K0 K (decode cX6_judgeAll 38) 38 L (st) h cs ss = (lhas L 5 ∧ isRf (lgt L 5) ∧ K 40 L (lgt L 5 :: st) h cs ss) := by
  rw [dX6_judgeAll_38, ey_ok, nx_aload_2] <;> rfl
theorem qX6_judgeAll_40 : ey FX6 ini rt fin K0 K (decode cX6_judgeAll 40) 40 L (st) h cs ss = (K0 40 L st h cs ss) := by
  rw [dX6_judgeAll_40, ey_ok, nx_invokevirtual_72]
theorem qX6_judgeAll_43 : ey FX6 ini rt fin K0 K (decode cX6_judgeAll 43) 43 L (.int x :: r) h cs ss = (if x = 0 then K 49 L r h cs ss else K 46 L r h cs ss) := by
  rw [dX6_judgeAll_43, ey_ok, nx_ifond_30]
  exact and_l (by unfold jok; decide)
theorem qX6_judgeAll_46 : ey FX6 ini rt fin K0 K (decode cX6_judgeAll 46) 46 L (st) h cs ss = (lhas L 1 ∧ isI (lgt L 1) ∧ K 49 (L.set 1 (some (inc (lgt L 1) 1))) st h cs ss) := by
  rw [dX6_judgeAll_46, ey_ok, nx_iinc_10] <;> rfl
theorem qX6_judgeAll_49 : ey FX6 ini rt fin K0 K (decode cX6_judgeAll 49) 49 L (st) h cs ss = (lhas L 4 ∧ isI (lgt L 4) ∧ K 52 (L.set 4 (some (inc (lgt L 4) 1))) st h cs ss) := by
  rw [dX6_judgeAll_49, ey_ok, nx_iinc_10] <;> rfl
theorem qX6_judgeAll_52 : ey FX6 ini rt fin K0 K (decode cX6_judgeAll 52) 52 L (st) h cs ss = (K 13 L st h cs ss) := by
  rw [dX6_judgeAll_52, ey_ok, nx_goto_29]
  exact and_l (by unfold jok; decide)
theorem qX6_judgeAll_55 : ey FX6 ini rt fin K0 K (decode cX6_judgeAll 55) 55 L (st) h cs ss = (lhas L 0 ∧ isRf (lgt L 0) ∧ K 56 L (lgt L 0 :: st) h cs ss) := by
  rw [dX6_judgeAll_55, ey_ok, nx_aload_n_3] <;> rfl
theorem qX6_judgeAll_56 : ey FX6 ini rt fin K0 K (decode cX6_judgeAll 56) 56 L (.ref a :: r) h cs ss = (h.1 a = some (.inl 6) ∧ K 59 L (h.2 a 1 :: r) h cs ss) := by
  rw [dX6_judgeAll_56, ey_ok, nx_getfield_54]
  exact and_l rfl
theorem qX6_judgeAll_59r : ey FX6 ini rt fin K0 K (decode cX6_judgeAll 59) 59 L (.ref a :: r) h cs ss = (2 < L.length ∧ K 60 (L.set 2 (some (.ref a))) r h cs ss) := by
  rw [dX6_judgeAll_59, ey_ok, nx_astore_n_8] <;> rfl
theorem qX6_judgeAll_59n : ey FX6 ini rt fin K0 K (decode cX6_judgeAll 59) 59 L (.null :: r) h cs ss = (2 < L.length ∧ K 60 (L.set 2 (some .null)) r h cs ss) := by
  rw [dX6_judgeAll_59, ey_ok, nx_astore_n_9] <;> rfl
theorem qX6_judgeAll_60 : ey FX6 ini rt fin K0 K (decode cX6_judgeAll 60) 60 L (st) h cs ss = (lhas L 2 ∧ isRf (lgt L 2) ∧ K 61 L (lgt L 2 :: st) h cs ss) := by
  rw [dX6_judgeAll_60, ey_ok, nx_aload_n_3] <;> rfl
theorem qX6_judgeAll_61 : ey FX6 ini rt fin K0 K (decode cX6_judgeAll 61) 61 L (.ref a :: r) h cs ss = (isA (h.1 a) (fun _ _ => True) ∧ K 62 L (.int (nI (alen (h.1 a))) :: r) h cs ss) := by
  rw [dX6_judgeAll_61, ey_ok, nx_arraylength_56]
theorem qX6_judgeAll_62 : ey FX6 ini rt fin K0 K (decode cX6_judgeAll 62) 62 L (.int x :: r) h cs ss = (3 < L.length ∧ K 63 (L.set 3 (some (.int x))) r h cs ss) := by
  rw [dX6_judgeAll_62, ey_ok, nx_istore_n_5] <;> rfl
theorem qX6_judgeAll_63 : ey FX6 ini rt fin K0 K (decode cX6_judgeAll 63) 63 L (st) h cs ss = (K 64 L (.int 0 :: st) h cs ss) := by
  rw [dX6_judgeAll_63, ey_ok, nx_iconst_11] <;> rfl
theorem qX6_judgeAll_64 : ey FX6 ini rt fin K0 K (decode cX6_judgeAll 64) 64 L (.int x :: r) h cs ss = (4 < L.length ∧ K 66 (L.set 4 (some (.int x))) r h cs ss) := by
  rw [dX6_judgeAll_64, ey_ok, nx_istore_4] <;> rfl
theorem qX6_judgeAll_66 : ey FX6 ini rt fin K0 K (decode cX6_judgeAll 66) 66 L (st) h cs ss = (lhas L 4 ∧ isI (lgt L 4) ∧ K 68 L (lgt L 4 :: st) h cs ss) := by
  rw [dX6_judgeAll_66, ey_ok, nx_iload_0] <;> rfl
theorem qX6_judgeAll_68 : ey FX6 ini rt fin K0 K (decode cX6_judgeAll 68) 68 L (st) h cs ss = (lhas L 3 ∧ isI (lgt L 3) ∧ K 69 L (lgt L 3 :: st) h cs ss) := by
  rw [dX6_judgeAll_68, ey_ok, nx_iload_n_1] <;> rfl
theorem qX6_judgeAll_69 : ey FX6 ini rt fin K0 K (decode cX6_judgeAll 69) 69 L (.int y :: .int x :: r) h cs ss = (if y ≤ x then K 108 L r h cs ss else K 72 L r h cs ss) := by
  rw [dX6_judgeAll_69, ey_ok, nx_if_icmp_39]
  exact and_l (by unfold jok; decide)
theorem qX6_judgeAll_72 : ey FX6 ini rt fin K0 K (decode cX6_judgeAll 72) 72 L (st) h cs ss = (lhas L 2 ∧ isRf (lgt L 2) ∧ K 73 L (lgt L 2 :: st) h cs ss) := by
  rw [dX6_judgeAll_72, ey_ok, nx_aload_n_3] <;> rfl
theorem qX6_judgeAll_73 : ey FX6 ini rt fin K0 K (decode cX6_judgeAll 73) 73 L (st) h cs ss = (lhas L 4 ∧ isI (lgt L 4) ∧ K 75 L (lgt L 4 :: st) h cs ss) := by
  rw [dX6_judgeAll_73, ey_ok, nx_iload_0] <;> rfl
theorem qX6_judgeAll_75 : ey FX6 ini rt fin K0 K (decode cX6_judgeAll 75) 75 L (.int i :: .ref a :: r) h cs ss = (isA (h.1 a) (fun k m => 4 ≤ k ∧ vp_in i m) ∧ K 76 L (h.2 a i.toNatClampNeg :: r) h cs ss) := by
  rw [dX6_judgeAll_75, ey_ok, nx_aaload_61]
theorem qX6_judgeAll_76r : ey FX6 ini rt fin K0 K (decode cX6_judgeAll 76) 76 L (.ref a :: r) h cs ss = (5 < L.length ∧ K 78 (L.set 5 (some (.ref a))) r h cs ss) := by
  rw [dX6_judgeAll_76, ey_ok, nx_astore_6] <;> rfl
theorem qX6_judgeAll_76n : ey FX6 ini rt fin K0 K (decode cX6_judgeAll 76) 76 L (.null :: r) h cs ss = (5 < L.length ∧ K 78 (L.set 5 (some .null)) r h cs ss) := by
  rw [dX6_judgeAll_76, ey_ok, nx_astore_7] <;> rfl
theorem qX6_judgeAll_78 : ey FX6 ini rt fin K0 K (decode cX6_judgeAll 78) 78 L (st) h cs ss = (lhas L 5 ∧ isRf (lgt L 5) ∧ K 80 L (lgt L 5 :: st) h cs ss) := by
  rw [dX6_judgeAll_78, ey_ok, nx_aload_2] <;> rfl
theorem qX6_judgeAll_80n : ey FX6 ini rt fin K0 K (decode cX6_judgeAll 80) 80 L (.null :: r) h cs ss = (K 102 L r h cs ss) := by
  rw [dX6_judgeAll_80, ey_ok, nx_ifnull_50]
  exact and_l (by unfold jok; decide)
theorem qX6_judgeAll_80r : ey FX6 ini rt fin K0 K (decode cX6_judgeAll 80) 80 L (.ref a :: r) h cs ss = (K 83 L r h cs ss) := by
  rw [dX6_judgeAll_80, ey_ok, nx_ifnull_51]
  exact and_l (by unfold jok; decide)
theorem qX6_judgeAll_83 : ey FX6 ini rt fin K0 K (decode cX6_judgeAll 83) 83 L (st) h cs ss = (lhas L 5 ∧ isRf (lgt L 5) ∧ K 85 L (lgt L 5 :: st) h cs ss) := by
  rw [dX6_judgeAll_83, ey_ok, nx_aload_2] <;> rfl
theorem qX6_judgeAll_85 : ey FX6 ini rt fin K0 K (decode cX6_judgeAll 85) 85 L (.ref a :: r) h cs ss = (h.1 a = some (.inl 4) ∧ K 88 L (h.2 a 6 :: r) h cs ss) := by
  rw [dX6_judgeAll_85, ey_ok, nx_getfield_54]
  exact and_l rfl
theorem qX6_judgeAll_88n : ey FX6 ini rt fin K0 K (decode cX6_judgeAll 88) 88 L (.null :: r) h cs ss = (K 102 L r h cs ss) := by
  rw [dX6_judgeAll_88, ey_ok, nx_ifnull_50]
  exact and_l (by unfold jok; decide)
theorem qX6_judgeAll_88r : ey FX6 ini rt fin K0 K (decode cX6_judgeAll 88) 88 L (.ref a :: r) h cs ss = (K 91 L r h cs ss) := by
  rw [dX6_judgeAll_88, ey_ok, nx_ifnull_51]
  exact and_l (by unfold jok; decide)
theorem qX6_judgeAll_91 : ey FX6 ini rt fin K0 K (decode cX6_judgeAll 91) 91 L (st) h cs ss = (lhas L 0 ∧ isRf (lgt L 0) ∧ K 92 L (lgt L 0 :: st) h cs ss) := by
  rw [dX6_judgeAll_91, ey_ok, nx_aload_n_3] <;> rfl
theorem qX6_judgeAll_92 : ey FX6 ini rt fin K0 K (decode cX6_judgeAll 92) 92 L (st) h cs ss = (lhas L 5 ∧ isRf (lgt L 5) ∧ K 94 L (lgt L 5 :: st) h cs ss) := by
  rw [dX6_judgeAll_92, ey_ok, nx_aload_2] <;> rfl
theorem qX6_judgeAll_94 : ey FX6 ini rt fin K0 K (decode cX6_judgeAll 94) 94 L (st) h cs ss = (lhas L 5 ∧ isRf (lgt L 5) ∧ K 96 L (lgt L 5 :: st) h cs ss) := by
  rw [dX6_judgeAll_94, ey_ok, nx_aload_2] <;> rfl
theorem qX6_judgeAll_96 : ey FX6 ini rt fin K0 K (decode cX6_judgeAll 96) 96 L (.ref a :: r) h cs ss = (h.1 a = some (.inl 4) ∧ K 99 L (h.2 a 6 :: r) h cs ss) := by
  rw [dX6_judgeAll_96, ey_ok, nx_getfield_54]
  exact and_l rfl
theorem qX6_judgeAll_99 : ey FX6 ini rt fin K0 K (decode cX6_judgeAll 99) 99 L (st) h cs ss = (K0 99 L st h cs ss) := by
  rw [dX6_judgeAll_99, ey_ok, nx_invokevirtual_72]
theorem qX6_judgeAll_102 : ey FX6 ini rt fin K0 K (decode cX6_judgeAll 102) 102 L (st) h cs ss = (lhas L 4 ∧ isI (lgt L 4) ∧ K 105 (L.set 4 (some (inc (lgt L 4) 1))) st h cs ss) := by
  rw [dX6_judgeAll_102, ey_ok, nx_iinc_10] <;> rfl
theorem qX6_judgeAll_105 : ey FX6 ini rt fin K0 K (decode cX6_judgeAll 105) 105 L (st) h cs ss = (K 66 L st h cs ss) := by
  rw [dX6_judgeAll_105, ey_ok, nx_goto_29]
  exact and_l (by unfold jok; decide)
theorem qX6_judgeAll_108 : ey FX6 ini rt fin K0 K (decode cX6_judgeAll 108) 108 L (st) h cs ss = (lhas L 1 ∧ isI (lgt L 1) ∧ K 109 L (lgt L 1 :: st) h cs ss) := by
  rw [dX6_judgeAll_108, ey_ok, nx_iload_n_1] <;> rfl
theorem qX6_judgeAll_109 : ey FX6 ini rt fin K0 K (decode cX6_judgeAll 109) 109 L ([.int x]) h cs ss = (rokI rt x ∧ fin (some (.int x)) h cs ss) := by
  rw [dX6_judgeAll_109, ey_ok, nx_ireturn_68]
theorem qX6_claimFor_0 : ey FX6 ini rt fin K0 K (decode cX6_claimFor 0) 0 L (st) h cs ss = (lhas L 0 ∧ isRf (lgt L 0) ∧ K 1 L (lgt L 0 :: st) h cs ss) := by
  rw [dX6_claimFor_0, ey_ok, nx_aload_n_3] <;> rfl
theorem qX6_claimFor_1 : ey FX6 ini rt fin K0 K (decode cX6_claimFor 1) 1 L (.ref a :: r) h cs ss = (h.1 a = some (.inl 6) ∧ K 4 L (h.2 a 2 :: r) h cs ss) := by
  rw [dX6_claimFor_1, ey_ok, nx_getfield_54]
  exact and_l rfl
theorem qX6_claimFor_4r : ey FX6 ini rt fin K0 K (decode cX6_claimFor 4) 4 L (.ref a :: r) h cs ss = (3 < L.length ∧ K 5 (L.set 3 (some (.ref a))) r h cs ss) := by
  rw [dX6_claimFor_4, ey_ok, nx_astore_n_8] <;> rfl
theorem qX6_claimFor_4n : ey FX6 ini rt fin K0 K (decode cX6_claimFor 4) 4 L (.null :: r) h cs ss = (3 < L.length ∧ K 5 (L.set 3 (some .null)) r h cs ss) := by
  rw [dX6_claimFor_4, ey_ok, nx_astore_n_9] <;> rfl
theorem qX6_claimFor_5 : ey FX6 ini rt fin K0 K (decode cX6_claimFor 5) 5 L (st) h cs ss = (lhas L 3 ∧ isRf (lgt L 3) ∧ K 6 L (lgt L 3 :: st) h cs ss) := by
  rw [dX6_claimFor_5, ey_ok, nx_aload_n_3] <;> rfl
theorem qX6_claimFor_6 : ey FX6 ini rt fin K0 K (decode cX6_claimFor 6) 6 L (.ref a :: r) h cs ss = (isA (h.1 a) (fun _ _ => True) ∧ K 7 L (.int (nI (alen (h.1 a))) :: r) h cs ss) := by
  rw [dX6_claimFor_6, ey_ok, nx_arraylength_56]
theorem qX6_claimFor_7 : ey FX6 ini rt fin K0 K (decode cX6_claimFor 7) 7 L (.int x :: r) h cs ss = (4 < L.length ∧ K 9 (L.set 4 (some (.int x))) r h cs ss) := by
  rw [dX6_claimFor_7, ey_ok, nx_istore_4] <;> rfl
theorem qX6_claimFor_9 : ey FX6 ini rt fin K0 K (decode cX6_claimFor 9) 9 L (st) h cs ss = (K 10 L (.int 0 :: st) h cs ss) := by
  rw [dX6_claimFor_9, ey_ok, nx_iconst_11] <;> rfl
theorem qX6_claimFor_10 : ey FX6 ini rt fin K0 K (decode cX6_claimFor 10) 10 L (.int x :: r) h cs ss = (5 < L.length ∧ K 12 (L.set 5 (some (.int x))) r h cs ss) := by
  rw [dX6_claimFor_10, ey_ok, nx_istore_4] <;> rfl
theorem qX6_claimFor_12 : ey FX6 ini rt fin K0 K (decode cX6_claimFor 12) 12 L (st) h cs ss = (lhas L 5 ∧ isI (lgt L 5) ∧ K 14 L (lgt L 5 :: st) h cs ss) := by
  rw [dX6_claimFor_12, ey_ok, nx_iload_0] <;> rfl
theorem qX6_claimFor_14 : ey FX6 ini rt fin K0 K (decode cX6_claimFor 14) 14 L (st) h cs ss = (lhas L 4 ∧ isI (lgt L 4) ∧ K 16 L (lgt L 4 :: st) h cs ss) := by
  rw [dX6_claimFor_14, ey_ok, nx_iload_0] <;> rfl
theorem qX6_claimFor_16 : ey FX6 ini rt fin K0 K (decode cX6_claimFor 16) 16 L (.int y :: .int x :: r) h cs ss = (if y ≤ x then K 75 L r h cs ss else K 19 L r h cs ss) := by
  rw [dX6_claimFor_16, ey_ok, nx_if_icmp_39]
  exact and_l (by unfold jok; decide)
theorem qX6_claimFor_19 : ey FX6 ini rt fin K0 K (decode cX6_claimFor 19) 19 L (st) h cs ss = (lhas L 3 ∧ isRf (lgt L 3) ∧ K 20 L (lgt L 3 :: st) h cs ss) := by
  rw [dX6_claimFor_19, ey_ok, nx_aload_n_3] <;> rfl
theorem qX6_claimFor_20 : ey FX6 ini rt fin K0 K (decode cX6_claimFor 20) 20 L (st) h cs ss = (lhas L 5 ∧ isI (lgt L 5) ∧ K 22 L (lgt L 5 :: st) h cs ss) := by
  rw [dX6_claimFor_20, ey_ok, nx_iload_0] <;> rfl
theorem qX6_claimFor_22 : ey FX6 ini rt fin K0 K (decode cX6_claimFor 22) 22 L (.int i :: .ref a :: r) h cs ss = (isA (h.1 a) (fun k m => 4 ≤ k ∧ vp_in i m) ∧ K 23 L (h.2 a i.toNatClampNeg :: r) h cs ss) := by
  rw [dX6_claimFor_22, ey_ok, nx_aaload_61]
theorem qX6_claimFor_23r : ey FX6 ini rt fin K0 K (decode cX6_claimFor 23) 23 L (.ref a :: r) h cs ss = (6 < L.length ∧ K 25 (L.set 6 (some (.ref a))) r h cs ss) := by
  rw [dX6_claimFor_23, ey_ok, nx_astore_6] <;> rfl
theorem qX6_claimFor_23n : ey FX6 ini rt fin K0 K (decode cX6_claimFor 23) 23 L (.null :: r) h cs ss = (6 < L.length ∧ K 25 (L.set 6 (some .null)) r h cs ss) := by
  rw [dX6_claimFor_23, ey_ok, nx_astore_7] <;> rfl
theorem qX6_claimFor_25 : ey FX6 ini rt fin K0 K (decode cX6_claimFor 25) 25 L (st) h cs ss = (lhas L 6 ∧ isRf (lgt L 6) ∧ K 27 L (lgt L 6 :: st) h cs ss) := by
  rw [dX6_claimFor_25, ey_ok, nx_aload_2] <;> rfl
theorem qX6_claimFor_27n : ey FX6 ini rt fin K0 K (decode cX6_claimFor 27) 27 L (.null :: r) h cs ss = (K 69 L r h cs ss) := by
  rw [dX6_claimFor_27, ey_ok, nx_ifnull_50]
  exact and_l (by unfold jok; decide)
theorem qX6_claimFor_27r : ey FX6 ini rt fin K0 K (decode cX6_claimFor 27) 27 L (.ref a :: r) h cs ss = (K 30 L r h cs ss) := by
  rw [dX6_claimFor_27, ey_ok, nx_ifnull_51]
  exact and_l (by unfold jok; decide)
theorem qX6_claimFor_30 : ey FX6 ini rt fin K0 K (decode cX6_claimFor 30) 30 L (st) h cs ss = (lhas L 6 ∧ isRf (lgt L 6) ∧ K 32 L (lgt L 6 :: st) h cs ss) := by
  rw [dX6_claimFor_30, ey_ok, nx_aload_2] <;> rfl
theorem qX6_claimFor_32 : ey FX6 ini rt fin K0 K (decode cX6_claimFor 32) 32 L (st) h cs ss = (lhas L 1 ∧ isRf (lgt L 1) ∧ K 33 L (lgt L 1 :: st) h cs ss) := by
  rw [dX6_claimFor_32, ey_ok, nx_aload_n_3] <;> rfl
theorem qX6_claimFor_33 : ey FX6 ini rt fin K0 K (decode cX6_claimFor 33) 33 L (st) h cs ss = (K0 33 L st h cs ss) := by
  rw [dX6_claimFor_33, ey_ok, nx_invokevirtual_72]
theorem qX6_claimFor_36 : ey FX6 ini rt fin K0 K (decode cX6_claimFor 36) 36 L (.int x :: r) h cs ss = (if x = 0 then K 69 L r h cs ss else K 39 L r h cs ss) := by
  rw [dX6_claimFor_36, ey_ok, nx_ifond_30]
  exact and_l (by unfold jok; decide)
theorem qX6_claimFor_39 : ey FX6 ini rt fin K0 K (decode cX6_claimFor 39) 39 L (st) h cs ss = (lhas L 1 ∧ isRf (lgt L 1) ∧ K 40 L (lgt L 1 :: st) h cs ss) := by
  rw [dX6_claimFor_39, ey_ok, nx_aload_n_3] <;> rfl
theorem qX6_claimFor_40 : ey FX6 ini rt fin K0 K (decode cX6_claimFor 40) 40 L (st) h cs ss = (lhas L 2 ∧ isRf (lgt L 2) ∧ K 41 L (lgt L 2 :: st) h cs ss) := by
  rw [dX6_claimFor_40, ey_ok, nx_aload_n_3] <;> rfl
theorem qX6_claimFor_41 : ey FX6 ini rt fin K0 K (decode cX6_claimFor 41) 41 L (st) h cs ss = (lhas L 6 ∧ isRf (lgt L 6) ∧ K 43 L (lgt L 6 :: st) h cs ss) := by
  rw [dX6_claimFor_41, ey_ok, nx_aload_2] <;> rfl
theorem qX6_claimFor_43 : ey FX6 ini rt fin K0 K (decode cX6_claimFor 43) 43 L (st) h cs ss = (K0 43 L st h cs ss) := by
  rw [dX6_claimFor_43, ey_ok, nx_invokevirtual_72]
theorem qX6_claimFor_46r : ey FX6 ini rt fin K0 K (decode cX6_claimFor 46) 46 L (.ref a :: r) h cs ss = (7 < L.length ∧ K 48 (L.set 7 (some (.ref a))) r h cs ss) := by
  rw [dX6_claimFor_46, ey_ok, nx_astore_6] <;> rfl
theorem qX6_claimFor_46n : ey FX6 ini rt fin K0 K (decode cX6_claimFor 46) 46 L (.null :: r) h cs ss = (7 < L.length ∧ K 48 (L.set 7 (some .null)) r h cs ss) := by
  rw [dX6_claimFor_46, ey_ok, nx_astore_7] <;> rfl
theorem qX6_claimFor_48 : ey FX6 ini rt fin K0 K (decode cX6_claimFor 48) 48 L (st) h cs ss = (lhas L 7 ∧ isRf (lgt L 7) ∧ K 50 L (lgt L 7 :: st) h cs ss) := by
  rw [dX6_claimFor_48, ey_ok, nx_aload_2] <;> rfl
theorem qX6_claimFor_50n : ey FX6 ini rt fin K0 K (decode cX6_claimFor 50) 50 L (.null :: r) h cs ss = (K 53 L r h cs ss) := by
  rw [dX6_claimFor_50, ey_ok, nx_ifnonnull_52]
  exact and_l (by unfold jok; decide)
theorem qX6_claimFor_50r : ey FX6 ini rt fin K0 K (decode cX6_claimFor 50) 50 L (.ref a :: r) h cs ss = (K 64 L r h cs ss) := by
  rw [dX6_claimFor_50, ey_ok, nx_ifnonnull_53]
  exact and_l (by unfold jok; decide)
theorem qX6_claimFor_53 : ey FX6 ini rt fin K0 K (decode cX6_claimFor 53) 53 L (st) h cs ss = (lhas L 0 ∧ isRf (lgt L 0) ∧ K 54 L (lgt L 0 :: st) h cs ss) := by
  rw [dX6_claimFor_53, ey_ok, nx_aload_n_3] <;> rfl
theorem qX6_claimFor_54 : ey FX6 ini rt fin K0 K (decode cX6_claimFor 54) 54 L (st) h cs ss = (lhas L 2 ∧ isRf (lgt L 2) ∧ K 55 L (lgt L 2 :: st) h cs ss) := by
  rw [dX6_claimFor_54, ey_ok, nx_aload_n_3] <;> rfl
theorem qX6_claimFor_55 : ey FX6 ini rt fin K0 K (decode cX6_claimFor 55) 55 L (st) h cs ss = (lhas L 1 ∧ isRf (lgt L 1) ∧ K 56 L (lgt L 1 :: st) h cs ss) := by
  rw [dX6_claimFor_55, ey_ok, nx_aload_n_3] <;> rfl
theorem qX6_claimFor_56 : ey FX6 ini rt fin K0 K (decode cX6_claimFor 56) 56 L (st) h cs ss = (lhas L 6 ∧ isRf (lgt L 6) ∧ K 58 L (lgt L 6 :: st) h cs ss) := by
  rw [dX6_claimFor_56, ey_ok, nx_aload_2] <;> rfl
theorem qX6_claimFor_58 : ey FX6 ini rt fin K0 K (decode cX6_claimFor 58) 58 L (st) h cs ss = (K0 58 L st h cs ss) := by
  rw [dX6_claimFor_58, ey_ok, nx_invokevirtual_72]
theorem qX6_claimFor_61 : ey FX6 ini rt fin K0 K (decode cX6_claimFor 61) 61 L (st) h cs ss = (K 69 L st h cs ss) := by
  rw [dX6_claimFor_61, ey_ok, nx_goto_29]
  exact and_l (by unfold jok; decide)
theorem qX6_claimFor_64 : ey FX6 ini rt fin K0 K (decode cX6_claimFor 64) 64 L (st) h cs ss = (lhas L 7 ∧ isRf (lgt L 7) ∧ K 66 L (lgt L 7 :: st) h cs ss) := by
  rw [dX6_claimFor_64, ey_ok, nx_aload_2] <;> rfl
theorem qX6_claimFor_66 : ey FX6 ini rt fin K0 K (decode cX6_claimFor 66) 66 L (st) h cs ss = (K0 66 L st h cs ss) := by
  rw [dX6_claimFor_66, ey_ok, nx_invokevirtual_72]
theorem qX6_claimFor_69 : ey FX6 ini rt fin K0 K (decode cX6_claimFor 69) 69 L (st) h cs ss = (lhas L 5 ∧ isI (lgt L 5) ∧ K 72 (L.set 5 (some (inc (lgt L 5) 1))) st h cs ss) := by
  rw [dX6_claimFor_69, ey_ok, nx_iinc_10] <;> rfl
theorem qX6_claimFor_72 : ey FX6 ini rt fin K0 K (decode cX6_claimFor 72) 72 L (st) h cs ss = (K 12 L st h cs ss) := by
  rw [dX6_claimFor_72, ey_ok, nx_goto_29]
  exact and_l (by unfold jok; decide)
theorem qX6_claimFor_75 : ey FX6 ini rt fin K0 K (decode cX6_claimFor 75) 75 L ([]) h cs ss = (rt = none ∧ fin none h cs ss) := by
  rw [dX6_claimFor_75, ey_ok, nx_return__71]
theorem qX6_makeClaim_0 : ey FX6 ini rt fin K0 K (decode cX6_makeClaim 0) 0 L (st) h cs ss = (lhas L 0 ∧ isRf (lgt L 0) ∧ K 1 L (lgt L 0 :: st) h cs ss) := by
  rw [dX6_makeClaim_0, ey_ok, nx_aload_n_3] <;> rfl
theorem qX6_makeClaim_1 : ey FX6 ini rt fin K0 K (decode cX6_makeClaim 1) 1 L (.ref a :: r) h cs ss = (h.1 a = some (.inl 6) ∧ K 4 L (h.2 a 9 :: r) h cs ss) := by
  rw [dX6_makeClaim_1, ey_ok, nx_getfield_54]
  exact and_l rfl
theorem qX6_makeClaim_4 : ey FX6 ini rt fin K0 K (decode cX6_makeClaim 4) 4 L (st) h cs ss = (lhas L 0 ∧ isRf (lgt L 0) ∧ K 5 L (lgt L 0 :: st) h cs ss) := by
  rw [dX6_makeClaim_4, ey_ok, nx_aload_n_3] <;> rfl
theorem qX6_makeClaim_5 : ey FX6 ini rt fin K0 K (decode cX6_makeClaim 5) 5 L (.ref a :: r) h cs ss = (h.1 a = some (.inl 6) ∧ K 8 L (h.2 a 3 :: r) h cs ss) := by
  rw [dX6_makeClaim_5, ey_ok, nx_getfield_54]
  exact and_l rfl
theorem qX6_makeClaim_8 : ey FX6 ini rt fin K0 K (decode cX6_makeClaim 8) 8 L (.ref a :: r) h cs ss = (isA (h.1 a) (fun _ _ => True) ∧ K 9 L (.int (nI (alen (h.1 a))) :: r) h cs ss) := by
  rw [dX6_makeClaim_8, ey_ok, nx_arraylength_56]
theorem qX6_makeClaim_9 : ey FX6 ini rt fin K0 K (decode cX6_makeClaim 9) 9 L (.int y :: .int x :: r) h cs ss = (if x < y then K 13 L r h cs ss else K 12 L r h cs ss) := by
  rw [dX6_makeClaim_9, ey_ok, nx_if_icmp_38]
  exact and_l (by unfold jok; decide)
theorem qX6_makeClaim_12 : ey FX6 ini rt fin K0 K (decode cX6_makeClaim 12) 12 L ([]) h cs ss = (rt = none ∧ fin none h cs ss) := by
  rw [dX6_makeClaim_12, ey_ok, nx_return__71]
theorem qX6_makeClaim_13 : ey FX6 ini rt fin K0 K (decode cX6_makeClaim 13) 13 L (st) h cs ss = (K0 13 L st h cs ss) := by
  rw [dX6_makeClaim_13, ey_ok, nx_new_75]
theorem qX6_makeClaim_16 : ey FX6 ini rt fin K0 K (decode cX6_makeClaim 16) 16 L (v :: r) h cs ss = (v.category = 1 ∧ K 17 L (v :: v :: r) h cs ss) := by
  rw [dX6_makeClaim_16, ey_ok, nx_dup_27]
theorem qX6_makeClaim_17 : ey FX6 ini rt fin K0 K (decode cX6_makeClaim 17) 17 L (st) h cs ss = (lhas L 1 ∧ isRf (lgt L 1) ∧ K 18 L (lgt L 1 :: st) h cs ss) := by
  rw [dX6_makeClaim_17, ey_ok, nx_aload_n_3] <;> rfl
theorem qX6_makeClaim_18 : ey FX6 ini rt fin K0 K (decode cX6_makeClaim 18) 18 L (st) h cs ss = (lhas L 2 ∧ isRf (lgt L 2) ∧ K 19 L (lgt L 2 :: st) h cs ss) := by
  rw [dX6_makeClaim_18, ey_ok, nx_aload_n_3] <;> rfl
theorem qX6_makeClaim_19 : ey FX6 ini rt fin K0 K (decode cX6_makeClaim 19) 19 L (st) h cs ss = (lhas L 3 ∧ isRf (lgt L 3) ∧ K 20 L (lgt L 3 :: st) h cs ss) := by
  rw [dX6_makeClaim_19, ey_ok, nx_aload_n_3] <;> rfl
theorem qX6_makeClaim_20 : ey FX6 ini rt fin K0 K (decode cX6_makeClaim 20) 20 L (st) h cs ss = (K0 20 L st h cs ss) := by
  rw [dX6_makeClaim_20, ey_ok, nx_invokespecial_74]
theorem qX6_makeClaim_23r : ey FX6 ini rt fin K0 K (decode cX6_makeClaim 23) 23 L (.ref a :: r) h cs ss = (4 < L.length ∧ K 25 (L.set 4 (some (.ref a))) r h cs ss) := by
  rw [dX6_makeClaim_23, ey_ok, nx_astore_6] <;> rfl
theorem qX6_makeClaim_23n : ey FX6 ini rt fin K0 K (decode cX6_makeClaim 23) 23 L (.null :: r) h cs ss = (4 < L.length ∧ K 25 (L.set 4 (some .null)) r h cs ss) := by
  rw [dX6_makeClaim_23, ey_ok, nx_astore_7] <;> rfl
theorem qX6_makeClaim_25 : ey FX6 ini rt fin K0 K (decode cX6_makeClaim 25) 25 L (st) h cs ss = (lhas L 2 ∧ isRf (lgt L 2) ∧ K 26 L (lgt L 2 :: st) h cs ss) := by
  rw [dX6_makeClaim_25, ey_ok, nx_aload_n_3] <;> rfl
theorem qX6_makeClaim_26 : ey FX6 ini rt fin K0 K (decode cX6_makeClaim 26) 26 L (st) h cs ss = (lhas L 4 ∧ isRf (lgt L 4) ∧ K 28 L (lgt L 4 :: st) h cs ss) := by
  rw [dX6_makeClaim_26, ey_ok, nx_aload_2] <;> rfl
theorem qX6_makeClaim_28 : ey FX6 ini rt fin K0 K (decode cX6_makeClaim 28) 28 L (v :: .ref a :: r) h cs ss = (h.1 a = some (.inl 4) ∧ okv (.object "UnionClock$Claim") v ∧ K 31 L r (h.1, hup h.2 a 7 v) cs ss) := by
  rw [dX6_makeClaim_28, ey_ok, nx_putfield_55]
  exact (and_l rfl).trans (and_m (fun z => nomatch z))
theorem qX6_makeClaim_31 : ey FX6 ini rt fin K0 K (decode cX6_makeClaim 31) 31 L (st) h cs ss = (lhas L 0 ∧ isRf (lgt L 0) ∧ K 32 L (lgt L 0 :: st) h cs ss) := by
  rw [dX6_makeClaim_31, ey_ok, nx_aload_n_3] <;> rfl
theorem qX6_makeClaim_32 : ey FX6 ini rt fin K0 K (decode cX6_makeClaim 32) 32 L (.ref a :: r) h cs ss = (h.1 a = some (.inl 6) ∧ K 35 L (h.2 a 3 :: r) h cs ss) := by
  rw [dX6_makeClaim_32, ey_ok, nx_getfield_54]
  exact and_l rfl
theorem qX6_makeClaim_35 : ey FX6 ini rt fin K0 K (decode cX6_makeClaim 35) 35 L (st) h cs ss = (lhas L 0 ∧ isRf (lgt L 0) ∧ K 36 L (lgt L 0 :: st) h cs ss) := by
  rw [dX6_makeClaim_35, ey_ok, nx_aload_n_3] <;> rfl
theorem qX6_makeClaim_36 : ey FX6 ini rt fin K0 K (decode cX6_makeClaim 36) 36 L (.ref a :: r) h cs ss = (h.1 a = some (.inl 6) ∧ K 39 L (h.2 a 9 :: r) h cs ss) := by
  rw [dX6_makeClaim_36, ey_ok, nx_getfield_54]
  exact and_l rfl
theorem qX6_makeClaim_39 : ey FX6 ini rt fin K0 K (decode cX6_makeClaim 39) 39 L (st) h cs ss = (lhas L 4 ∧ isRf (lgt L 4) ∧ K 41 L (lgt L 4 :: st) h cs ss) := by
  rw [dX6_makeClaim_39, ey_ok, nx_aload_2] <;> rfl
theorem qX6_makeClaim_41r : ey FX6 ini rt fin K0 K (decode cX6_makeClaim 41) 41 L (.ref a2 :: .int i :: .ref a :: r) h cs ss = (isA (h.1 a) (fun t m => 4 ≤ t ∧ h.1 a2 = some (.inl (vec t)) ∧ vp_in i m) ∧ K 42 L r (h.1, hup h.2 a i.toNatClampNeg (.ref a2)) cs ss) := by
  rw [dX6_makeClaim_41, ey_ok, nx_aastore_66]
theorem qX6_makeClaim_41n : ey FX6 ini rt fin K0 K (decode cX6_makeClaim 41) 41 L (.null :: .int i :: .ref a :: r) h cs ss = (isA (h.1 a) (fun t m => 4 ≤ t ∧ vp_in i m) ∧ K 42 L r (h.1, hup h.2 a i.toNatClampNeg .null) cs ss) := by
  rw [dX6_makeClaim_41, ey_ok, nx_aastore_67]
theorem qX6_makeClaim_42 : ey FX6 ini rt fin K0 K (decode cX6_makeClaim 42) 42 L (st) h cs ss = (lhas L 0 ∧ isRf (lgt L 0) ∧ K 43 L (lgt L 0 :: st) h cs ss) := by
  rw [dX6_makeClaim_42, ey_ok, nx_aload_n_3] <;> rfl
theorem qX6_makeClaim_43 : ey FX6 ini rt fin K0 K (decode cX6_makeClaim 43) 43 L (v :: r) h cs ss = (v.category = 1 ∧ K 44 L (v :: v :: r) h cs ss) := by
  rw [dX6_makeClaim_43, ey_ok, nx_dup_27]
theorem qX6_makeClaim_44 : ey FX6 ini rt fin K0 K (decode cX6_makeClaim 44) 44 L (.ref a :: r) h cs ss = (h.1 a = some (.inl 6) ∧ K 47 L (h.2 a 9 :: r) h cs ss) := by
  rw [dX6_makeClaim_44, ey_ok, nx_getfield_54]
  exact and_l rfl
theorem qX6_makeClaim_47 : ey FX6 ini rt fin K0 K (decode cX6_makeClaim 47) 47 L (st) h cs ss = (K 48 L (.int 1 :: st) h cs ss) := by
  rw [dX6_makeClaim_47, ey_ok, nx_iconst_11] <;> rfl
theorem qX6_makeClaim_48 : ey FX6 ini rt fin K0 K (decode cX6_makeClaim 48) 48 L (.int y :: .int x :: r) h cs ss = (K 49 L (.int (x + y) :: r) h cs ss) := by
  rw [dX6_makeClaim_48, ey_ok, nx_iadd_16]
theorem qX6_makeClaim_49 : ey FX6 ini rt fin K0 K (decode cX6_makeClaim 49) 49 L (v :: .ref a :: r) h cs ss = (h.1 a = some (.inl 6) ∧ okv (.int) v ∧ K 52 L r (h.1, hup h.2 a 9 v) cs ss) := by
  rw [dX6_makeClaim_49, ey_ok, nx_putfield_55]
  exact (and_l rfl).trans (and_m (fun z => nomatch z))
theorem qX6_makeClaim_52 : ey FX6 ini rt fin K0 K (decode cX6_makeClaim 52) 52 L ([]) h cs ss = (rt = none ∧ fin none h cs ss) := by
  rw [dX6_makeClaim_52, ey_ok, nx_return__71]
theorem qX6_brokenBy_0 : ey FX6 ini rt fin K0 K (decode cX6_brokenBy 0) 0 L (st) h cs ss = (K 1 L (.int 0 :: st) h cs ss) := by
  rw [dX6_brokenBy_0, ey_ok, nx_iconst_11] <;> rfl
theorem qX6_brokenBy_1 : ey FX6 ini rt fin K0 K (decode cX6_brokenBy 1) 1 L (.int x :: r) h cs ss = (2 < L.length ∧ K 2 (L.set 2 (some (.int x))) r h cs ss) := by
  rw [dX6_brokenBy_1, ey_ok, nx_istore_n_5] <;> rfl
theorem qX6_brokenBy_2 : ey FX6 ini rt fin K0 K (decode cX6_brokenBy 2) 2 L (st) h cs ss = (lhas L 0 ∧ isRf (lgt L 0) ∧ K 3 L (lgt L 0 :: st) h cs ss) := by
  rw [dX6_brokenBy_2, ey_ok, nx_aload_n_3] <;> rfl
theorem qX6_brokenBy_3 : ey FX6 ini rt fin K0 K (decode cX6_brokenBy 3) 3 L (.ref a :: r) h cs ss = (h.1 a = some (.inl 6) ∧ K 6 L (h.2 a 2 :: r) h cs ss) := by
  rw [dX6_brokenBy_3, ey_ok, nx_getfield_54]
  exact and_l rfl
theorem qX6_brokenBy_6r : ey FX6 ini rt fin K0 K (decode cX6_brokenBy 6) 6 L (.ref a :: r) h cs ss = (3 < L.length ∧ K 7 (L.set 3 (some (.ref a))) r h cs ss) := by
  rw [dX6_brokenBy_6, ey_ok, nx_astore_n_8] <;> rfl
theorem qX6_brokenBy_6n : ey FX6 ini rt fin K0 K (decode cX6_brokenBy 6) 6 L (.null :: r) h cs ss = (3 < L.length ∧ K 7 (L.set 3 (some .null)) r h cs ss) := by
  rw [dX6_brokenBy_6, ey_ok, nx_astore_n_9] <;> rfl
theorem qX6_brokenBy_7 : ey FX6 ini rt fin K0 K (decode cX6_brokenBy 7) 7 L (st) h cs ss = (lhas L 3 ∧ isRf (lgt L 3) ∧ K 8 L (lgt L 3 :: st) h cs ss) := by
  rw [dX6_brokenBy_7, ey_ok, nx_aload_n_3] <;> rfl
theorem qX6_brokenBy_8 : ey FX6 ini rt fin K0 K (decode cX6_brokenBy 8) 8 L (.ref a :: r) h cs ss = (isA (h.1 a) (fun _ _ => True) ∧ K 9 L (.int (nI (alen (h.1 a))) :: r) h cs ss) := by
  rw [dX6_brokenBy_8, ey_ok, nx_arraylength_56]
theorem qX6_brokenBy_9 : ey FX6 ini rt fin K0 K (decode cX6_brokenBy 9) 9 L (.int x :: r) h cs ss = (4 < L.length ∧ K 11 (L.set 4 (some (.int x))) r h cs ss) := by
  rw [dX6_brokenBy_9, ey_ok, nx_istore_4] <;> rfl
theorem qX6_brokenBy_11 : ey FX6 ini rt fin K0 K (decode cX6_brokenBy 11) 11 L (st) h cs ss = (K 12 L (.int 0 :: st) h cs ss) := by
  rw [dX6_brokenBy_11, ey_ok, nx_iconst_11] <;> rfl
theorem qX6_brokenBy_12 : ey FX6 ini rt fin K0 K (decode cX6_brokenBy 12) 12 L (.int x :: r) h cs ss = (5 < L.length ∧ K 14 (L.set 5 (some (.int x))) r h cs ss) := by
  rw [dX6_brokenBy_12, ey_ok, nx_istore_4] <;> rfl
theorem qX6_brokenBy_14 : ey FX6 ini rt fin K0 K (decode cX6_brokenBy 14) 14 L (st) h cs ss = (lhas L 5 ∧ isI (lgt L 5) ∧ K 16 L (lgt L 5 :: st) h cs ss) := by
  rw [dX6_brokenBy_14, ey_ok, nx_iload_0] <;> rfl
theorem qX6_brokenBy_16 : ey FX6 ini rt fin K0 K (decode cX6_brokenBy 16) 16 L (st) h cs ss = (lhas L 4 ∧ isI (lgt L 4) ∧ K 18 L (lgt L 4 :: st) h cs ss) := by
  rw [dX6_brokenBy_16, ey_ok, nx_iload_0] <;> rfl
theorem qX6_brokenBy_18 : ey FX6 ini rt fin K0 K (decode cX6_brokenBy 18) 18 L (.int y :: .int x :: r) h cs ss = (if y ≤ x then K 50 L r h cs ss else K 21 L r h cs ss) := by
  rw [dX6_brokenBy_18, ey_ok, nx_if_icmp_39]
  exact and_l (by unfold jok; decide)
theorem qX6_brokenBy_21 : ey FX6 ini rt fin K0 K (decode cX6_brokenBy 21) 21 L (st) h cs ss = (lhas L 3 ∧ isRf (lgt L 3) ∧ K 22 L (lgt L 3 :: st) h cs ss) := by
  rw [dX6_brokenBy_21, ey_ok, nx_aload_n_3] <;> rfl
theorem qX6_brokenBy_22 : ey FX6 ini rt fin K0 K (decode cX6_brokenBy 22) 22 L (st) h cs ss = (lhas L 5 ∧ isI (lgt L 5) ∧ K 24 L (lgt L 5 :: st) h cs ss) := by
  rw [dX6_brokenBy_22, ey_ok, nx_iload_0] <;> rfl
theorem qX6_brokenBy_24 : ey FX6 ini rt fin K0 K (decode cX6_brokenBy 24) 24 L (.int i :: .ref a :: r) h cs ss = (isA (h.1 a) (fun k m => 4 ≤ k ∧ vp_in i m) ∧ K 25 L (h.2 a i.toNatClampNeg :: r) h cs ss) := by
  rw [dX6_brokenBy_24, ey_ok, nx_aaload_61]
theorem qX6_brokenBy_25r : ey FX6 ini rt fin K0 K (decode cX6_brokenBy 25) 25 L (.ref a :: r) h cs ss = (6 < L.length ∧ K 27 (L.set 6 (some (.ref a))) r h cs ss) := by
  rw [dX6_brokenBy_25, ey_ok, nx_astore_6] <;> rfl
theorem qX6_brokenBy_25n : ey FX6 ini rt fin K0 K (decode cX6_brokenBy 25) 25 L (.null :: r) h cs ss = (6 < L.length ∧ K 27 (L.set 6 (some .null)) r h cs ss) := by
  rw [dX6_brokenBy_25, ey_ok, nx_astore_7] <;> rfl
theorem qX6_brokenBy_27 : ey FX6 ini rt fin K0 K (decode cX6_brokenBy 27) 27 L (st) h cs ss = (lhas L 6 ∧ isRf (lgt L 6) ∧ K 29 L (lgt L 6 :: st) h cs ss) := by
  rw [dX6_brokenBy_27, ey_ok, nx_aload_2] <;> rfl
theorem qX6_brokenBy_29n : ey FX6 ini rt fin K0 K (decode cX6_brokenBy 29) 29 L (.null :: r) h cs ss = (K 44 L r h cs ss) := by
  rw [dX6_brokenBy_29, ey_ok, nx_ifnull_50]
  exact and_l (by unfold jok; decide)
theorem qX6_brokenBy_29r : ey FX6 ini rt fin K0 K (decode cX6_brokenBy 29) 29 L (.ref a :: r) h cs ss = (K 32 L r h cs ss) := by
  rw [dX6_brokenBy_29, ey_ok, nx_ifnull_51]
  exact and_l (by unfold jok; decide)
theorem qX6_brokenBy_32 : ey FX6 ini rt fin K0 K (decode cX6_brokenBy 32) 32 L (st) h cs ss = (lhas L 6 ∧ isRf (lgt L 6) ∧ K 34 L (lgt L 6 :: st) h cs ss) := by
  rw [dX6_brokenBy_32, ey_ok, nx_aload_2] <;> rfl
theorem qX6_brokenBy_34 : ey FX6 ini rt fin K0 K (decode cX6_brokenBy 34) 34 L (st) h cs ss = (lhas L 1 ∧ isRf (lgt L 1) ∧ K 35 L (lgt L 1 :: st) h cs ss) := by
  rw [dX6_brokenBy_34, ey_ok, nx_aload_n_3] <;> rfl
theorem qX6_brokenBy_35 : ey FX6 ini rt fin K0 K (decode cX6_brokenBy 35) 35 L (st) h cs ss = (K0 35 L st h cs ss) := by
  rw [dX6_brokenBy_35, ey_ok, nx_invokevirtual_72]
theorem qX6_brokenBy_38 : ey FX6 ini rt fin K0 K (decode cX6_brokenBy 38) 38 L (.int x :: r) h cs ss = (if x = 0 then K 44 L r h cs ss else K 41 L r h cs ss) := by
  rw [dX6_brokenBy_38, ey_ok, nx_ifond_30]
  exact and_l (by unfold jok; decide)
theorem qX6_brokenBy_41 : ey FX6 ini rt fin K0 K (decode cX6_brokenBy 41) 41 L (st) h cs ss = (lhas L 2 ∧ isI (lgt L 2) ∧ K 44 (L.set 2 (some (inc (lgt L 2) 1))) st h cs ss) := by
  rw [dX6_brokenBy_41, ey_ok, nx_iinc_10] <;> rfl
theorem qX6_brokenBy_44 : ey FX6 ini rt fin K0 K (decode cX6_brokenBy 44) 44 L (st) h cs ss = (lhas L 5 ∧ isI (lgt L 5) ∧ K 47 (L.set 5 (some (inc (lgt L 5) 1))) st h cs ss) := by
  rw [dX6_brokenBy_44, ey_ok, nx_iinc_10] <;> rfl
theorem qX6_brokenBy_47 : ey FX6 ini rt fin K0 K (decode cX6_brokenBy 47) 47 L (st) h cs ss = (K 14 L st h cs ss) := by
  rw [dX6_brokenBy_47, ey_ok, nx_goto_29]
  exact and_l (by unfold jok; decide)
theorem qX6_brokenBy_50 : ey FX6 ini rt fin K0 K (decode cX6_brokenBy 50) 50 L (st) h cs ss = (lhas L 2 ∧ isI (lgt L 2) ∧ K 51 L (lgt L 2 :: st) h cs ss) := by
  rw [dX6_brokenBy_50, ey_ok, nx_iload_n_1] <;> rfl
theorem qX6_brokenBy_51 : ey FX6 ini rt fin K0 K (decode cX6_brokenBy 51) 51 L ([.int x]) h cs ss = (rokI rt x ∧ fin (some (.int x)) h cs ss) := by
  rw [dX6_brokenBy_51, ey_ok, nx_ireturn_68]
theorem qX6_handOver_0 : ey FX6 ini rt fin K0 K (decode cX6_handOver 0) 0 L (st) h cs ss = (lhas L 1 ∧ isRf (lgt L 1) ∧ K 1 L (lgt L 1 :: st) h cs ss) := by
  rw [dX6_handOver_0, ey_ok, nx_aload_n_3] <;> rfl
theorem qX6_handOver_1 : ey FX6 ini rt fin K0 K (decode cX6_handOver 1) 1 L (.ref a :: r) h cs ss = (h.1 a = some (.inl 4) ∧ K 4 L (h.2 a 6 :: r) h cs ss) := by
  rw [dX6_handOver_1, ey_ok, nx_getfield_54]
  exact and_l rfl
theorem qX6_handOver_4n : ey FX6 ini rt fin K0 K (decode cX6_handOver 4) 4 L (.null :: r) h cs ss = (K 15 L r h cs ss) := by
  rw [dX6_handOver_4, ey_ok, nx_ifnull_50]
  exact and_l (by unfold jok; decide)
theorem qX6_handOver_4r : ey FX6 ini rt fin K0 K (decode cX6_handOver 4) 4 L (.ref a :: r) h cs ss = (K 7 L r h cs ss) := by
  rw [dX6_handOver_4, ey_ok, nx_ifnull_51]
  exact and_l (by unfold jok; decide)
theorem qX6_handOver_7 : ey FX6 ini rt fin K0 K (decode cX6_handOver 7) 7 L (st) h cs ss = (lhas L 1 ∧ isRf (lgt L 1) ∧ K 8 L (lgt L 1 :: st) h cs ss) := by
  rw [dX6_handOver_7, ey_ok, nx_aload_n_3] <;> rfl
theorem qX6_handOver_8 : ey FX6 ini rt fin K0 K (decode cX6_handOver 8) 8 L (.ref a :: r) h cs ss = (h.1 a = some (.inl 4) ∧ K 11 L (h.2 a 6 :: r) h cs ss) := by
  rw [dX6_handOver_8, ey_ok, nx_getfield_54]
  exact and_l rfl
theorem qX6_handOver_11 : ey FX6 ini rt fin K0 K (decode cX6_handOver 11) 11 L (st) h cs ss = (lhas L 1 ∧ isRf (lgt L 1) ∧ K 12 L (lgt L 1 :: st) h cs ss) := by
  rw [dX6_handOver_11, ey_ok, nx_aload_n_3] <;> rfl
theorem qX6_handOver_12 : ey FX6 ini rt fin K0 K (decode cX6_handOver 12) 12 L (st) h cs ss = (K0 12 L st h cs ss) := by
  rw [dX6_handOver_12, ey_ok, nx_invokevirtual_72]
theorem qX6_handOver_15 : ey FX6 ini rt fin K0 K (decode cX6_handOver 15) 15 L (st) h cs ss = (lhas L 1 ∧ isRf (lgt L 1) ∧ K 16 L (lgt L 1 :: st) h cs ss) := by
  rw [dX6_handOver_15, ey_ok, nx_aload_n_3] <;> rfl
theorem qX6_handOver_16 : ey FX6 ini rt fin K0 K (decode cX6_handOver 16) 16 L (st) h cs ss = (lhas L 2 ∧ isRf (lgt L 2) ∧ K 17 L (lgt L 2 :: st) h cs ss) := by
  rw [dX6_handOver_16, ey_ok, nx_aload_n_3] <;> rfl
theorem qX6_handOver_17 : ey FX6 ini rt fin K0 K (decode cX6_handOver 17) 17 L (v :: .ref a :: r) h cs ss = (h.1 a = some (.inl 4) ∧ okv (.object "UnionClock$Worker") v ∧ K 20 L r (h.1, hup h.2 a 6 v) cs ss) := by
  rw [dX6_handOver_17, ey_ok, nx_putfield_55]
  exact (and_l rfl).trans (and_m (fun z => nomatch z))
theorem qX6_handOver_20 : ey FX6 ini rt fin K0 K (decode cX6_handOver 20) 20 L (st) h cs ss = (lhas L 2 ∧ isRf (lgt L 2) ∧ K 21 L (lgt L 2 :: st) h cs ss) := by
  rw [dX6_handOver_20, ey_ok, nx_aload_n_3] <;> rfl
theorem qX6_handOver_21n : ey FX6 ini rt fin K0 K (decode cX6_handOver 21) 21 L (.null :: r) h cs ss = (K 29 L r h cs ss) := by
  rw [dX6_handOver_21, ey_ok, nx_ifnull_50]
  exact and_l (by unfold jok; decide)
theorem qX6_handOver_21r : ey FX6 ini rt fin K0 K (decode cX6_handOver 21) 21 L (.ref a :: r) h cs ss = (K 24 L r h cs ss) := by
  rw [dX6_handOver_21, ey_ok, nx_ifnull_51]
  exact and_l (by unfold jok; decide)
theorem qX6_handOver_24 : ey FX6 ini rt fin K0 K (decode cX6_handOver 24) 24 L (st) h cs ss = (lhas L 2 ∧ isRf (lgt L 2) ∧ K 25 L (lgt L 2 :: st) h cs ss) := by
  rw [dX6_handOver_24, ey_ok, nx_aload_n_3] <;> rfl
theorem qX6_handOver_25 : ey FX6 ini rt fin K0 K (decode cX6_handOver 25) 25 L (st) h cs ss = (lhas L 1 ∧ isRf (lgt L 1) ∧ K 26 L (lgt L 1 :: st) h cs ss) := by
  rw [dX6_handOver_25, ey_ok, nx_aload_n_3] <;> rfl
theorem qX6_handOver_26 : ey FX6 ini rt fin K0 K (decode cX6_handOver 26) 26 L (st) h cs ss = (K0 26 L st h cs ss) := by
  rw [dX6_handOver_26, ey_ok, nx_invokevirtual_72]
theorem qX6_handOver_29 : ey FX6 ini rt fin K0 K (decode cX6_handOver 29) 29 L (st) h cs ss = (lhas L 0 ∧ isRf (lgt L 0) ∧ K 30 L (lgt L 0 :: st) h cs ss) := by
  rw [dX6_handOver_29, ey_ok, nx_aload_n_3] <;> rfl
theorem qX6_handOver_30 : ey FX6 ini rt fin K0 K (decode cX6_handOver 30) 30 L (.ref a :: r) h cs ss = (h.1 a = some (.inl 6) ∧ K 33 L (h.2 a 4 :: r) h cs ss) := by
  rw [dX6_handOver_30, ey_ok, nx_getfield_54]
  exact and_l rfl
theorem qX6_handOver_33r : ey FX6 ini rt fin K0 K (decode cX6_handOver 33) 33 L (.ref a :: r) h cs ss = (3 < L.length ∧ K 34 (L.set 3 (some (.ref a))) r h cs ss) := by
  rw [dX6_handOver_33, ey_ok, nx_astore_n_8] <;> rfl
theorem qX6_handOver_33n : ey FX6 ini rt fin K0 K (decode cX6_handOver 33) 33 L (.null :: r) h cs ss = (3 < L.length ∧ K 34 (L.set 3 (some .null)) r h cs ss) := by
  rw [dX6_handOver_33, ey_ok, nx_astore_n_9] <;> rfl
theorem qX6_handOver_34 : ey FX6 ini rt fin K0 K (decode cX6_handOver 34) 34 L (st) h cs ss = (lhas L 3 ∧ isRf (lgt L 3) ∧ K 35 L (lgt L 3 :: st) h cs ss) := by
  rw [dX6_handOver_34, ey_ok, nx_aload_n_3] <;> rfl
theorem qX6_handOver_35 : ey FX6 ini rt fin K0 K (decode cX6_handOver 35) 35 L (.ref a :: r) h cs ss = (isA (h.1 a) (fun _ _ => True) ∧ K 36 L (.int (nI (alen (h.1 a))) :: r) h cs ss) := by
  rw [dX6_handOver_35, ey_ok, nx_arraylength_56]
theorem qX6_handOver_36 : ey FX6 ini rt fin K0 K (decode cX6_handOver 36) 36 L (.int x :: r) h cs ss = (4 < L.length ∧ K 38 (L.set 4 (some (.int x))) r h cs ss) := by
  rw [dX6_handOver_36, ey_ok, nx_istore_4] <;> rfl
theorem qX6_handOver_38 : ey FX6 ini rt fin K0 K (decode cX6_handOver 38) 38 L (st) h cs ss = (K 39 L (.int 0 :: st) h cs ss) := by
  rw [dX6_handOver_38, ey_ok, nx_iconst_11] <;> rfl
theorem qX6_handOver_39 : ey FX6 ini rt fin K0 K (decode cX6_handOver 39) 39 L (.int x :: r) h cs ss = (5 < L.length ∧ K 41 (L.set 5 (some (.int x))) r h cs ss) := by
  rw [dX6_handOver_39, ey_ok, nx_istore_4] <;> rfl
theorem qX6_handOver_41 : ey FX6 ini rt fin K0 K (decode cX6_handOver 41) 41 L (st) h cs ss = (lhas L 5 ∧ isI (lgt L 5) ∧ K 43 L (lgt L 5 :: st) h cs ss) := by
  rw [dX6_handOver_41, ey_ok, nx_iload_0] <;> rfl
theorem qX6_handOver_43 : ey FX6 ini rt fin K0 K (decode cX6_handOver 43) 43 L (st) h cs ss = (lhas L 4 ∧ isI (lgt L 4) ∧ K 45 L (lgt L 4 :: st) h cs ss) := by
  rw [dX6_handOver_43, ey_ok, nx_iload_0] <;> rfl
theorem qX6_handOver_45 : ey FX6 ini rt fin K0 K (decode cX6_handOver 45) 45 L (.int y :: .int x :: r) h cs ss = (if y ≤ x then K 89 L r h cs ss else K 48 L r h cs ss) := by
  rw [dX6_handOver_45, ey_ok, nx_if_icmp_39]
  exact and_l (by unfold jok; decide)
theorem qX6_handOver_48 : ey FX6 ini rt fin K0 K (decode cX6_handOver 48) 48 L (st) h cs ss = (lhas L 3 ∧ isRf (lgt L 3) ∧ K 49 L (lgt L 3 :: st) h cs ss) := by
  rw [dX6_handOver_48, ey_ok, nx_aload_n_3] <;> rfl
theorem qX6_handOver_49 : ey FX6 ini rt fin K0 K (decode cX6_handOver 49) 49 L (st) h cs ss = (lhas L 5 ∧ isI (lgt L 5) ∧ K 51 L (lgt L 5 :: st) h cs ss) := by
  rw [dX6_handOver_49, ey_ok, nx_iload_0] <;> rfl
theorem qX6_handOver_51 : ey FX6 ini rt fin K0 K (decode cX6_handOver 51) 51 L (.int i :: .ref a :: r) h cs ss = (isA (h.1 a) (fun k m => 4 ≤ k ∧ vp_in i m) ∧ K 52 L (h.2 a i.toNatClampNeg :: r) h cs ss) := by
  rw [dX6_handOver_51, ey_ok, nx_aaload_61]
theorem qX6_handOver_52r : ey FX6 ini rt fin K0 K (decode cX6_handOver 52) 52 L (.ref a :: r) h cs ss = (6 < L.length ∧ K 54 (L.set 6 (some (.ref a))) r h cs ss) := by
  rw [dX6_handOver_52, ey_ok, nx_astore_6] <;> rfl
theorem qX6_handOver_52n : ey FX6 ini rt fin K0 K (decode cX6_handOver 52) 52 L (.null :: r) h cs ss = (6 < L.length ∧ K 54 (L.set 6 (some .null)) r h cs ss) := by
  rw [dX6_handOver_52, ey_ok, nx_astore_7] <;> rfl
theorem qX6_handOver_54 : ey FX6 ini rt fin K0 K (decode cX6_handOver 54) 54 L (st) h cs ss = (lhas L 6 ∧ isRf (lgt L 6) ∧ K 56 L (lgt L 6 :: st) h cs ss) := by
  rw [dX6_handOver_54, ey_ok, nx_aload_2] <;> rfl
theorem qX6_handOver_56n : ey FX6 ini rt fin K0 K (decode cX6_handOver 56) 56 L (.null :: r) h cs ss = (K 83 L r h cs ss) := by
  rw [dX6_handOver_56, ey_ok, nx_ifnull_50]
  exact and_l (by unfold jok; decide)
theorem qX6_handOver_56r : ey FX6 ini rt fin K0 K (decode cX6_handOver 56) 56 L (.ref a :: r) h cs ss = (K 59 L r h cs ss) := by
  rw [dX6_handOver_56, ey_ok, nx_ifnull_51]
  exact and_l (by unfold jok; decide)
theorem qX6_handOver_59 : ey FX6 ini rt fin K0 K (decode cX6_handOver 59) 59 L (st) h cs ss = (lhas L 6 ∧ isRf (lgt L 6) ∧ K 61 L (lgt L 6 :: st) h cs ss) := by
  rw [dX6_handOver_59, ey_ok, nx_aload_2] <;> rfl
theorem qX6_handOver_61 : ey FX6 ini rt fin K0 K (decode cX6_handOver 61) 61 L (.ref a :: r) h cs ss = (h.1 a = some (.inl 1) ∧ K 64 L (h.2 a 1 :: r) h cs ss) := by
  rw [dX6_handOver_61, ey_ok, nx_getfield_54]
  exact and_l rfl
theorem qX6_handOver_64 : ey FX6 ini rt fin K0 K (decode cX6_handOver 64) 64 L (st) h cs ss = (lhas L 1 ∧ isRf (lgt L 1) ∧ K 65 L (lgt L 1 :: st) h cs ss) := by
  rw [dX6_handOver_64, ey_ok, nx_aload_n_3] <;> rfl
theorem qX6_handOver_65rr : ey FX6 ini rt fin K0 K (decode cX6_handOver 65) 65 L (.ref a :: .ref a2 :: r) h cs ss = (if a2 = a then K 77 L r h cs ss else K 68 L r h cs ss) := by
  rw [dX6_handOver_65, ey_ok, nx_if_acmp_42]
  exact and_l (by unfold jok; decide)
theorem qX6_handOver_65nn : ey FX6 ini rt fin K0 K (decode cX6_handOver 65) 65 L (.null :: .null :: r) h cs ss = (K 77 L r h cs ss) := by
  rw [dX6_handOver_65, ey_ok, nx_if_acmp_43]
  exact and_l (by unfold jok; decide)
theorem qX6_handOver_65nr : ey FX6 ini rt fin K0 K (decode cX6_handOver 65) 65 L (.null :: .ref a :: r) h cs ss = (K 68 L r h cs ss) := by
  rw [dX6_handOver_65, ey_ok, nx_if_acmp_44]
  exact and_l (by unfold jok; decide)
theorem qX6_handOver_65rn : ey FX6 ini rt fin K0 K (decode cX6_handOver 65) 65 L (.ref a :: .null :: r) h cs ss = (K 68 L r h cs ss) := by
  rw [dX6_handOver_65, ey_ok, nx_if_acmp_45]
  exact and_l (by unfold jok; decide)
theorem qX6_handOver_68 : ey FX6 ini rt fin K0 K (decode cX6_handOver 68) 68 L (st) h cs ss = (lhas L 6 ∧ isRf (lgt L 6) ∧ K 70 L (lgt L 6 :: st) h cs ss) := by
  rw [dX6_handOver_68, ey_ok, nx_aload_2] <;> rfl
theorem qX6_handOver_70 : ey FX6 ini rt fin K0 K (decode cX6_handOver 70) 70 L (.ref a :: r) h cs ss = (h.1 a = some (.inl 1) ∧ K 73 L (h.2 a 2 :: r) h cs ss) := by
  rw [dX6_handOver_70, ey_ok, nx_getfield_54]
  exact and_l rfl
theorem qX6_handOver_73 : ey FX6 ini rt fin K0 K (decode cX6_handOver 73) 73 L (st) h cs ss = (lhas L 1 ∧ isRf (lgt L 1) ∧ K 74 L (lgt L 1 :: st) h cs ss) := by
  rw [dX6_handOver_73, ey_ok, nx_aload_n_3] <;> rfl
theorem qX6_handOver_74rr : ey FX6 ini rt fin K0 K (decode cX6_handOver 74) 74 L (.ref a :: .ref a2 :: r) h cs ss = (if ¬ (a2 = a) then K 83 L r h cs ss else K 77 L r h cs ss) := by
  rw [dX6_handOver_74, ey_ok, nx_if_acmp_46]
  exact and_l (by unfold jok; decide)
theorem qX6_handOver_74nn : ey FX6 ini rt fin K0 K (decode cX6_handOver 74) 74 L (.null :: .null :: r) h cs ss = (K 77 L r h cs ss) := by
  rw [dX6_handOver_74, ey_ok, nx_if_acmp_47]
  exact and_l (by unfold jok; decide)
theorem qX6_handOver_74nr : ey FX6 ini rt fin K0 K (decode cX6_handOver 74) 74 L (.null :: .ref a :: r) h cs ss = (K 83 L r h cs ss) := by
  rw [dX6_handOver_74, ey_ok, nx_if_acmp_48]
  exact and_l (by unfold jok; decide)
theorem qX6_handOver_74rn : ey FX6 ini rt fin K0 K (decode cX6_handOver 74) 74 L (.ref a :: .null :: r) h cs ss = (K 83 L r h cs ss) := by
  rw [dX6_handOver_74, ey_ok, nx_if_acmp_49]
  exact and_l (by unfold jok; decide)
theorem qX6_handOver_77 : ey FX6 ini rt fin K0 K (decode cX6_handOver 77) 77 L (st) h cs ss = (lhas L 6 ∧ isRf (lgt L 6) ∧ K 79 L (lgt L 6 :: st) h cs ss) := by
  rw [dX6_handOver_77, ey_ok, nx_aload_2] <;> rfl
theorem qX6_handOver_79 : ey FX6 ini rt fin K0 K (decode cX6_handOver 79) 79 L (st) h cs ss = (K 80 L (.int 0 :: st) h cs ss) := by
  rw [dX6_handOver_79, ey_ok, nx_iconst_11] <;> rfl
theorem qX6_handOver_80 : ey FX6 ini rt fin K0 K (decode cX6_handOver 80) 80 L (v :: .ref a :: r) h cs ss = (h.1 a = some (.inl 1) ∧ okv (.boolean) v ∧ K 83 L r (h.1, hup h.2 a 3 v) cs ss) := by
  rw [dX6_handOver_80, ey_ok, nx_putfield_55]
  exact (and_l rfl).trans (and_m (fun z => nomatch z))
theorem qX6_handOver_83 : ey FX6 ini rt fin K0 K (decode cX6_handOver 83) 83 L (st) h cs ss = (lhas L 5 ∧ isI (lgt L 5) ∧ K 86 (L.set 5 (some (inc (lgt L 5) 1))) st h cs ss) := by
  rw [dX6_handOver_83, ey_ok, nx_iinc_10] <;> rfl
theorem qX6_handOver_86 : ey FX6 ini rt fin K0 K (decode cX6_handOver 86) 86 L (st) h cs ss = (K 41 L st h cs ss) := by
  rw [dX6_handOver_86, ey_ok, nx_goto_29]
  exact and_l (by unfold jok; decide)
theorem qX6_handOver_89 : ey FX6 ini rt fin K0 K (decode cX6_handOver 89) 89 L ([]) h cs ss = (rt = none ∧ fin none h cs ss) := by
  rw [dX6_handOver_89, ey_ok, nx_return__71]
theorem qX6_isBehindNow_0 : ey FX6 ini rt fin K0 K (decode cX6_isBehindNow 0) 0 L (st) h cs ss = (lhas L 1 ∧ isRf (lgt L 1) ∧ K 1 L (lgt L 1 :: st) h cs ss) := by
  rw [dX6_isBehindNow_0, ey_ok, nx_aload_n_3] <;> rfl
theorem qX6_isBehindNow_1 : ey FX6 ini rt fin K0 K (decode cX6_isBehindNow 1) 1 L (.ref a :: r) h cs ss = (h.1 a = some (.inl 4) ∧ K 4 L (h.2 a 2 :: r) h cs ss) := by
  rw [dX6_isBehindNow_1, ey_ok, nx_getfield_54]
  exact and_l rfl
theorem qX6_isBehindNow_4 : ey FX6 ini rt fin K0 K (decode cX6_isBehindNow 4) 4 L (st) h cs ss = (lhas L 0 ∧ isRf (lgt L 0) ∧ K 5 L (lgt L 0 :: st) h cs ss) := by
  rw [dX6_isBehindNow_4, ey_ok, nx_aload_n_3] <;> rfl
theorem qX6_isBehindNow_5 : ey FX6 ini rt fin K0 K (decode cX6_isBehindNow 5) 5 L (.ref a :: r) h cs ss = (h.1 a = some (.inl 6) ∧ K 8 L (h.2 a 11 :: r) h cs ss) := by
  rw [dX6_isBehindNow_5, ey_ok, nx_getfield_54]
  exact and_l rfl
theorem qX6_isBehindNow_8 : ey FX6 ini rt fin K0 K (decode cX6_isBehindNow 8) 8 L (.int y :: .int x :: r) h cs ss = (if x ≤ y then K 15 L r h cs ss else K 11 L r h cs ss) := by
  rw [dX6_isBehindNow_8, ey_ok, nx_if_icmp_41]
  exact and_l (by unfold jok; decide)
theorem qX6_isBehindNow_11 : ey FX6 ini rt fin K0 K (decode cX6_isBehindNow 11) 11 L (st) h cs ss = (K 12 L (.int 1 :: st) h cs ss) := by
  rw [dX6_isBehindNow_11, ey_ok, nx_iconst_11] <;> rfl
theorem qX6_isBehindNow_12 : ey FX6 ini rt fin K0 K (decode cX6_isBehindNow 12) 12 L (st) h cs ss = (K 16 L st h cs ss) := by
  rw [dX6_isBehindNow_12, ey_ok, nx_goto_29]
  exact and_l (by unfold jok; decide)
theorem qX6_isBehindNow_15 : ey FX6 ini rt fin K0 K (decode cX6_isBehindNow 15) 15 L (st) h cs ss = (K 16 L (.int 0 :: st) h cs ss) := by
  rw [dX6_isBehindNow_15, ey_ok, nx_iconst_11] <;> rfl
theorem qX6_isBehindNow_16 : ey FX6 ini rt fin K0 K (decode cX6_isBehindNow 16) 16 L ([.int x]) h cs ss = (rokI rt x ∧ fin (some (.int x)) h cs ss) := by
  rw [dX6_isBehindNow_16, ey_ok, nx_ireturn_68]
theorem qX6_offersThere_0 : ey FX6 ini rt fin K0 K (decode cX6_offersThere 0) 0 L (st) h cs ss = (K 1 L (.int 0 :: st) h cs ss) := by
  rw [dX6_offersThere_0, ey_ok, nx_iconst_11] <;> rfl
theorem qX6_offersThere_1 : ey FX6 ini rt fin K0 K (decode cX6_offersThere 1) 1 L (.int x :: r) h cs ss = (1 < L.length ∧ K 2 (L.set 1 (some (.int x))) r h cs ss) := by
  rw [dX6_offersThere_1, ey_ok, nx_istore_n_5] <;> rfl
theorem qX6_offersThere_2 : ey FX6 ini rt fin K0 K (decode cX6_offersThere 2) 2 L (st) h cs ss = (lhas L 0 ∧ isRf (lgt L 0) ∧ K 3 L (lgt L 0 :: st) h cs ss) := by
  rw [dX6_offersThere_2, ey_ok, nx_aload_n_3] <;> rfl
theorem qX6_offersThere_3 : ey FX6 ini rt fin K0 K (decode cX6_offersThere 3) 3 L (.ref a :: r) h cs ss = (h.1 a = some (.inl 6) ∧ K 6 L (h.2 a 4 :: r) h cs ss) := by
  rw [dX6_offersThere_3, ey_ok, nx_getfield_54]
  exact and_l rfl
theorem qX6_offersThere_6r : ey FX6 ini rt fin K0 K (decode cX6_offersThere 6) 6 L (.ref a :: r) h cs ss = (2 < L.length ∧ K 7 (L.set 2 (some (.ref a))) r h cs ss) := by
  rw [dX6_offersThere_6, ey_ok, nx_astore_n_8] <;> rfl
theorem qX6_offersThere_6n : ey FX6 ini rt fin K0 K (decode cX6_offersThere 6) 6 L (.null :: r) h cs ss = (2 < L.length ∧ K 7 (L.set 2 (some .null)) r h cs ss) := by
  rw [dX6_offersThere_6, ey_ok, nx_astore_n_9] <;> rfl
theorem qX6_offersThere_7 : ey FX6 ini rt fin K0 K (decode cX6_offersThere 7) 7 L (st) h cs ss = (lhas L 2 ∧ isRf (lgt L 2) ∧ K 8 L (lgt L 2 :: st) h cs ss) := by
  rw [dX6_offersThere_7, ey_ok, nx_aload_n_3] <;> rfl
theorem qX6_offersThere_8 : ey FX6 ini rt fin K0 K (decode cX6_offersThere 8) 8 L (.ref a :: r) h cs ss = (isA (h.1 a) (fun _ _ => True) ∧ K 9 L (.int (nI (alen (h.1 a))) :: r) h cs ss) := by
  rw [dX6_offersThere_8, ey_ok, nx_arraylength_56]
theorem qX6_offersThere_9 : ey FX6 ini rt fin K0 K (decode cX6_offersThere 9) 9 L (.int x :: r) h cs ss = (3 < L.length ∧ K 10 (L.set 3 (some (.int x))) r h cs ss) := by
  rw [dX6_offersThere_9, ey_ok, nx_istore_n_5] <;> rfl
theorem qX6_offersThere_10 : ey FX6 ini rt fin K0 K (decode cX6_offersThere 10) 10 L (st) h cs ss = (K 11 L (.int 0 :: st) h cs ss) := by
  rw [dX6_offersThere_10, ey_ok, nx_iconst_11] <;> rfl
theorem qX6_offersThere_11 : ey FX6 ini rt fin K0 K (decode cX6_offersThere 11) 11 L (.int x :: r) h cs ss = (4 < L.length ∧ K 13 (L.set 4 (some (.int x))) r h cs ss) := by
  rw [dX6_offersThere_11, ey_ok, nx_istore_4] <;> rfl
theorem qX6_offersThere_13 : ey FX6 ini rt fin K0 K (decode cX6_offersThere 13) 13 L (st) h cs ss = (lhas L 4 ∧ isI (lgt L 4) ∧ K 15 L (lgt L 4 :: st) h cs ss) := by
  rw [dX6_offersThere_13, ey_ok, nx_iload_0] <;> rfl
theorem qX6_offersThere_15 : ey FX6 ini rt fin K0 K (decode cX6_offersThere 15) 15 L (st) h cs ss = (lhas L 3 ∧ isI (lgt L 3) ∧ K 16 L (lgt L 3 :: st) h cs ss) := by
  rw [dX6_offersThere_15, ey_ok, nx_iload_n_1] <;> rfl
theorem qX6_offersThere_16 : ey FX6 ini rt fin K0 K (decode cX6_offersThere 16) 16 L (.int y :: .int x :: r) h cs ss = (if y ≤ x then K 47 L r h cs ss else K 19 L r h cs ss) := by
  rw [dX6_offersThere_16, ey_ok, nx_if_icmp_39]
  exact and_l (by unfold jok; decide)
theorem qX6_offersThere_19 : ey FX6 ini rt fin K0 K (decode cX6_offersThere 19) 19 L (st) h cs ss = (lhas L 2 ∧ isRf (lgt L 2) ∧ K 20 L (lgt L 2 :: st) h cs ss) := by
  rw [dX6_offersThere_19, ey_ok, nx_aload_n_3] <;> rfl
theorem qX6_offersThere_20 : ey FX6 ini rt fin K0 K (decode cX6_offersThere 20) 20 L (st) h cs ss = (lhas L 4 ∧ isI (lgt L 4) ∧ K 22 L (lgt L 4 :: st) h cs ss) := by
  rw [dX6_offersThere_20, ey_ok, nx_iload_0] <;> rfl
theorem qX6_offersThere_22 : ey FX6 ini rt fin K0 K (decode cX6_offersThere 22) 22 L (.int i :: .ref a :: r) h cs ss = (isA (h.1 a) (fun k m => 4 ≤ k ∧ vp_in i m) ∧ K 23 L (h.2 a i.toNatClampNeg :: r) h cs ss) := by
  rw [dX6_offersThere_22, ey_ok, nx_aaload_61]
theorem qX6_offersThere_23r : ey FX6 ini rt fin K0 K (decode cX6_offersThere 23) 23 L (.ref a :: r) h cs ss = (5 < L.length ∧ K 25 (L.set 5 (some (.ref a))) r h cs ss) := by
  rw [dX6_offersThere_23, ey_ok, nx_astore_6] <;> rfl
theorem qX6_offersThere_23n : ey FX6 ini rt fin K0 K (decode cX6_offersThere 23) 23 L (.null :: r) h cs ss = (5 < L.length ∧ K 25 (L.set 5 (some .null)) r h cs ss) := by
  rw [dX6_offersThere_23, ey_ok, nx_astore_7] <;> rfl
theorem qX6_offersThere_25 : ey FX6 ini rt fin K0 K (decode cX6_offersThere 25) 25 L (st) h cs ss = (lhas L 5 ∧ isRf (lgt L 5) ∧ K 27 L (lgt L 5 :: st) h cs ss) := by
  rw [dX6_offersThere_25, ey_ok, nx_aload_2] <;> rfl
theorem qX6_offersThere_27n : ey FX6 ini rt fin K0 K (decode cX6_offersThere 27) 27 L (.null :: r) h cs ss = (K 41 L r h cs ss) := by
  rw [dX6_offersThere_27, ey_ok, nx_ifnull_50]
  exact and_l (by unfold jok; decide)
theorem qX6_offersThere_27r : ey FX6 ini rt fin K0 K (decode cX6_offersThere 27) 27 L (.ref a :: r) h cs ss = (K 30 L r h cs ss) := by
  rw [dX6_offersThere_27, ey_ok, nx_ifnull_51]
  exact and_l (by unfold jok; decide)
theorem qX6_offersThere_30 : ey FX6 ini rt fin K0 K (decode cX6_offersThere 30) 30 L (st) h cs ss = (lhas L 5 ∧ isRf (lgt L 5) ∧ K 32 L (lgt L 5 :: st) h cs ss) := by
  rw [dX6_offersThere_30, ey_ok, nx_aload_2] <;> rfl
theorem qX6_offersThere_32 : ey FX6 ini rt fin K0 K (decode cX6_offersThere 32) 32 L (.ref a :: r) h cs ss = (h.1 a = some (.inl 1) ∧ K 35 L (h.2 a 3 :: r) h cs ss) := by
  rw [dX6_offersThere_32, ey_ok, nx_getfield_54]
  exact and_l rfl
theorem qX6_offersThere_35 : ey FX6 ini rt fin K0 K (decode cX6_offersThere 35) 35 L (.int x :: r) h cs ss = (if x = 0 then K 41 L r h cs ss else K 38 L r h cs ss) := by
  rw [dX6_offersThere_35, ey_ok, nx_ifond_30]
  exact and_l (by unfold jok; decide)
theorem qX6_offersThere_38 : ey FX6 ini rt fin K0 K (decode cX6_offersThere 38) 38 L (st) h cs ss = (lhas L 1 ∧ isI (lgt L 1) ∧ K 41 (L.set 1 (some (inc (lgt L 1) 1))) st h cs ss) := by
  rw [dX6_offersThere_38, ey_ok, nx_iinc_10] <;> rfl
theorem qX6_offersThere_41 : ey FX6 ini rt fin K0 K (decode cX6_offersThere 41) 41 L (st) h cs ss = (lhas L 4 ∧ isI (lgt L 4) ∧ K 44 (L.set 4 (some (inc (lgt L 4) 1))) st h cs ss) := by
  rw [dX6_offersThere_41, ey_ok, nx_iinc_10] <;> rfl
theorem qX6_offersThere_44 : ey FX6 ini rt fin K0 K (decode cX6_offersThere 44) 44 L (st) h cs ss = (K 13 L st h cs ss) := by
  rw [dX6_offersThere_44, ey_ok, nx_goto_29]
  exact and_l (by unfold jok; decide)
theorem qX6_offersThere_47 : ey FX6 ini rt fin K0 K (decode cX6_offersThere 47) 47 L (st) h cs ss = (lhas L 1 ∧ isI (lgt L 1) ∧ K 48 L (lgt L 1 :: st) h cs ss) := by
  rw [dX6_offersThere_47, ey_ok, nx_iload_n_1] <;> rfl
theorem qX6_offersThere_48 : ey FX6 ini rt fin K0 K (decode cX6_offersThere 48) 48 L ([.int x]) h cs ss = (rokI rt x ∧ fin (some (.int x)) h cs ss) := by
  rw [dX6_offersThere_48, ey_ok, nx_ireturn_68]
theorem qX6_gatherRing_0 : ey FX6 ini rt fin K0 K (decode cX6_gatherRing 0) 0 L (st) h cs ss = (K 1 L (.int 0 :: st) h cs ss) := by
  rw [dX6_gatherRing_0, ey_ok, nx_iconst_11] <;> rfl
theorem qX6_gatherRing_1 : ey FX6 ini rt fin K0 K (decode cX6_gatherRing 1) 1 L (.int x :: r) h cs ss = (2 < L.length ∧ K 2 (L.set 2 (some (.int x))) r h cs ss) := by
  rw [dX6_gatherRing_1, ey_ok, nx_istore_n_5] <;> rfl
theorem qX6_gatherRing_2 : ey FX6 ini rt fin K0 K (decode cX6_gatherRing 2) 2 L (st) h cs ss = (lhas L 2 ∧ isI (lgt L 2) ∧ K 3 L (lgt L 2 :: st) h cs ss) := by
  rw [dX6_gatherRing_2, ey_ok, nx_iload_n_1] <;> rfl
theorem qX6_gatherRing_3 : ey FX6 ini rt fin K0 K (decode cX6_gatherRing 3) 3 L (st) h cs ss = (lhas L 0 ∧ isRf (lgt L 0) ∧ K 4 L (lgt L 0 :: st) h cs ss) := by
  rw [dX6_gatherRing_3, ey_ok, nx_aload_n_3] <;> rfl
theorem qX6_gatherRing_4 : ey FX6 ini rt fin K0 K (decode cX6_gatherRing 4) 4 L (.ref a :: r) h cs ss = (h.1 a = some (.inl 6) ∧ K 7 L (h.2 a 5 :: r) h cs ss) := by
  rw [dX6_gatherRing_4, ey_ok, nx_getfield_54]
  exact and_l rfl
theorem qX6_gatherRing_7 : ey FX6 ini rt fin K0 K (decode cX6_gatherRing 7) 7 L (.ref a :: r) h cs ss = (isA (h.1 a) (fun _ _ => True) ∧ K 8 L (.int (nI (alen (h.1 a))) :: r) h cs ss) := by
  rw [dX6_gatherRing_7, ey_ok, nx_arraylength_56]
theorem qX6_gatherRing_8 : ey FX6 ini rt fin K0 K (decode cX6_gatherRing 8) 8 L (.int y :: .int x :: r) h cs ss = (if y ≤ x then K 24 L r h cs ss else K 11 L r h cs ss) := by
  rw [dX6_gatherRing_8, ey_ok, nx_if_icmp_39]
  exact and_l (by unfold jok; decide)
theorem qX6_gatherRing_11 : ey FX6 ini rt fin K0 K (decode cX6_gatherRing 11) 11 L (st) h cs ss = (lhas L 0 ∧ isRf (lgt L 0) ∧ K 12 L (lgt L 0 :: st) h cs ss) := by
  rw [dX6_gatherRing_11, ey_ok, nx_aload_n_3] <;> rfl
theorem qX6_gatherRing_12 : ey FX6 ini rt fin K0 K (decode cX6_gatherRing 12) 12 L (.ref a :: r) h cs ss = (h.1 a = some (.inl 6) ∧ K 15 L (h.2 a 5 :: r) h cs ss) := by
  rw [dX6_gatherRing_12, ey_ok, nx_getfield_54]
  exact and_l rfl
theorem qX6_gatherRing_15 : ey FX6 ini rt fin K0 K (decode cX6_gatherRing 15) 15 L (st) h cs ss = (lhas L 2 ∧ isI (lgt L 2) ∧ K 16 L (lgt L 2 :: st) h cs ss) := by
  rw [dX6_gatherRing_15, ey_ok, nx_iload_n_1] <;> rfl
theorem qX6_gatherRing_16 : ey FX6 ini rt fin K0 K (decode cX6_gatherRing 16) 16 L (st) h cs ss = (K 17 L (.null :: st) h cs ss) := by
  rw [dX6_gatherRing_16, ey_ok, nx_aconst_null_15]
theorem qX6_gatherRing_17r : ey FX6 ini rt fin K0 K (decode cX6_gatherRing 17) 17 L (.ref a2 :: .int i :: .ref a :: r) h cs ss = (isA (h.1 a) (fun t m => 4 ≤ t ∧ h.1 a2 = some (.inl (vec t)) ∧ vp_in i m) ∧ K 18 L r (h.1, hup h.2 a i.toNatClampNeg (.ref a2)) cs ss) := by
  rw [dX6_gatherRing_17, ey_ok, nx_aastore_66]
theorem qX6_gatherRing_17n : ey FX6 ini rt fin K0 K (decode cX6_gatherRing 17) 17 L (.null :: .int i :: .ref a :: r) h cs ss = (isA (h.1 a) (fun t m => 4 ≤ t ∧ vp_in i m) ∧ K 18 L r (h.1, hup h.2 a i.toNatClampNeg .null) cs ss) := by
  rw [dX6_gatherRing_17, ey_ok, nx_aastore_67]
theorem qX6_gatherRing_18 : ey FX6 ini rt fin K0 K (decode cX6_gatherRing 18) 18 L (st) h cs ss = (lhas L 2 ∧ isI (lgt L 2) ∧ K 21 (L.set 2 (some (inc (lgt L 2) 1))) st h cs ss) := by
  rw [dX6_gatherRing_18, ey_ok, nx_iinc_10] <;> rfl
theorem qX6_gatherRing_21 : ey FX6 ini rt fin K0 K (decode cX6_gatherRing 21) 21 L (st) h cs ss = (K 2 L st h cs ss) := by
  rw [dX6_gatherRing_21, ey_ok, nx_goto_29]
  exact and_l (by unfold jok; decide)
theorem qX6_gatherRing_24 : ey FX6 ini rt fin K0 K (decode cX6_gatherRing 24) 24 L (st) h cs ss = (lhas L 1 ∧ isRf (lgt L 1) ∧ K 25 L (lgt L 1 :: st) h cs ss) := by
  rw [dX6_gatherRing_24, ey_ok, nx_aload_n_3] <;> rfl
theorem qX6_gatherRing_25r : ey FX6 ini rt fin K0 K (decode cX6_gatherRing 25) 25 L (.ref a :: r) h cs ss = (2 < L.length ∧ K 26 (L.set 2 (some (.ref a))) r h cs ss) := by
  rw [dX6_gatherRing_25, ey_ok, nx_astore_n_8] <;> rfl
theorem qX6_gatherRing_25n : ey FX6 ini rt fin K0 K (decode cX6_gatherRing 25) 25 L (.null :: r) h cs ss = (2 < L.length ∧ K 26 (L.set 2 (some .null)) r h cs ss) := by
  rw [dX6_gatherRing_25, ey_ok, nx_astore_n_9] <;> rfl
theorem qX6_gatherRing_26 : ey FX6 ini rt fin K0 K (decode cX6_gatherRing 26) 26 L (st) h cs ss = (K 27 L (.int 0 :: st) h cs ss) := by
  rw [dX6_gatherRing_26, ey_ok, nx_iconst_11] <;> rfl
theorem qX6_gatherRing_27 : ey FX6 ini rt fin K0 K (decode cX6_gatherRing 27) 27 L (.int x :: r) h cs ss = (3 < L.length ∧ K 28 (L.set 3 (some (.int x))) r h cs ss) := by
  rw [dX6_gatherRing_27, ey_ok, nx_istore_n_5] <;> rfl
theorem qX6_gatherRing_28 : ey FX6 ini rt fin K0 K (decode cX6_gatherRing 28) 28 L (st) h cs ss = (lhas L 3 ∧ isI (lgt L 3) ∧ K 29 L (lgt L 3 :: st) h cs ss) := by
  rw [dX6_gatherRing_28, ey_ok, nx_iload_n_1] <;> rfl
theorem qX6_gatherRing_29 : ey FX6 ini rt fin K0 K (decode cX6_gatherRing 29) 29 L (st) h cs ss = (lhas L 0 ∧ isRf (lgt L 0) ∧ K 30 L (lgt L 0 :: st) h cs ss) := by
  rw [dX6_gatherRing_29, ey_ok, nx_aload_n_3] <;> rfl
theorem qX6_gatherRing_30 : ey FX6 ini rt fin K0 K (decode cX6_gatherRing 30) 30 L (.ref a :: r) h cs ss = (h.1 a = some (.inl 6) ∧ K 33 L (h.2 a 5 :: r) h cs ss) := by
  rw [dX6_gatherRing_30, ey_ok, nx_getfield_54]
  exact and_l rfl
theorem qX6_gatherRing_33 : ey FX6 ini rt fin K0 K (decode cX6_gatherRing 33) 33 L (.ref a :: r) h cs ss = (isA (h.1 a) (fun _ _ => True) ∧ K 34 L (.int (nI (alen (h.1 a))) :: r) h cs ss) := by
  rw [dX6_gatherRing_33, ey_ok, nx_arraylength_56]
theorem qX6_gatherRing_34 : ey FX6 ini rt fin K0 K (decode cX6_gatherRing 34) 34 L (.int y :: .int x :: r) h cs ss = (if y ≤ x then K 98 L r h cs ss else K 37 L r h cs ss) := by
  rw [dX6_gatherRing_34, ey_ok, nx_if_icmp_39]
  exact and_l (by unfold jok; decide)
theorem qX6_gatherRing_37 : ey FX6 ini rt fin K0 K (decode cX6_gatherRing 37) 37 L (st) h cs ss = (lhas L 2 ∧ isRf (lgt L 2) ∧ K 38 L (lgt L 2 :: st) h cs ss) := by
  rw [dX6_gatherRing_37, ey_ok, nx_aload_n_3] <;> rfl
theorem qX6_gatherRing_38n : ey FX6 ini rt fin K0 K (decode cX6_gatherRing 38) 38 L (.null :: r) h cs ss = (K 59 L r h cs ss) := by
  rw [dX6_gatherRing_38, ey_ok, nx_ifnull_50]
  exact and_l (by unfold jok; decide)
theorem qX6_gatherRing_38r : ey FX6 ini rt fin K0 K (decode cX6_gatherRing 38) 38 L (.ref a :: r) h cs ss = (K 41 L r h cs ss) := by
  rw [dX6_gatherRing_38, ey_ok, nx_ifnull_51]
  exact and_l (by unfold jok; decide)
theorem qX6_gatherRing_41 : ey FX6 ini rt fin K0 K (decode cX6_gatherRing 41) 41 L (st) h cs ss = (lhas L 2 ∧ isRf (lgt L 2) ∧ K 42 L (lgt L 2 :: st) h cs ss) := by
  rw [dX6_gatherRing_41, ey_ok, nx_aload_n_3] <;> rfl
theorem qX6_gatherRing_42 : ey FX6 ini rt fin K0 K (decode cX6_gatherRing 42) 42 L (.ref a :: r) h cs ss = (h.1 a = some (.inl 1) ∧ K 45 L (h.2 a 3 :: r) h cs ss) := by
  rw [dX6_gatherRing_42, ey_ok, nx_getfield_54]
  exact and_l rfl
theorem qX6_gatherRing_45 : ey FX6 ini rt fin K0 K (decode cX6_gatherRing 45) 45 L (.int x :: r) h cs ss = (if x = 0 then K 59 L r h cs ss else K 48 L r h cs ss) := by
  rw [dX6_gatherRing_45, ey_ok, nx_ifond_30]
  exact and_l (by unfold jok; decide)
theorem qX6_gatherRing_48 : ey FX6 ini rt fin K0 K (decode cX6_gatherRing 48) 48 L (st) h cs ss = (lhas L 0 ∧ isRf (lgt L 0) ∧ K 49 L (lgt L 0 :: st) h cs ss) := by
  rw [dX6_gatherRing_48, ey_ok, nx_aload_n_3] <;> rfl
theorem qX6_gatherRing_49 : ey FX6 ini rt fin K0 K (decode cX6_gatherRing 49) 49 L (st) h cs ss = (lhas L 2 ∧ isRf (lgt L 2) ∧ K 50 L (lgt L 2 :: st) h cs ss) := by
  rw [dX6_gatherRing_49, ey_ok, nx_aload_n_3] <;> rfl
theorem qX6_gatherRing_50 : ey FX6 ini rt fin K0 K (decode cX6_gatherRing 50) 50 L (.ref a :: r) h cs ss = (h.1 a = some (.inl 1) ∧ K 53 L (h.2 a 0 :: r) h cs ss) := by
  rw [dX6_gatherRing_50, ey_ok, nx_getfield_54]
  exact and_l rfl
theorem qX6_gatherRing_53 : ey FX6 ini rt fin K0 K (decode cX6_gatherRing 53) 53 L (st) h cs ss = (K0 53 L st h cs ss) := by
  rw [dX6_gatherRing_53, ey_ok, nx_invokevirtual_72]
theorem qX6_gatherRing_56 : ey FX6 ini rt fin K0 K (decode cX6_gatherRing 56) 56 L (.int x :: r) h cs ss = (if x = 0 then K 61 L r h cs ss else K 59 L r h cs ss) := by
  rw [dX6_gatherRing_56, ey_ok, nx_ifond_30]
  exact and_l (by unfold jok; decide)
theorem qX6_gatherRing_59 : ey FX6 ini rt fin K0 K (decode cX6_gatherRing 59) 59 L (st) h cs ss = (K 60 L (.int 0 :: st) h cs ss) := by
  rw [dX6_gatherRing_59, ey_ok, nx_iconst_11] <;> rfl
theorem qX6_gatherRing_60 : ey FX6 ini rt fin K0 K (decode cX6_gatherRing 60) 60 L ([.int x]) h cs ss = (rokI rt x ∧ fin (some (.int x)) h cs ss) := by
  rw [dX6_gatherRing_60, ey_ok, nx_ireturn_68]
theorem qX6_gatherRing_61 : ey FX6 ini rt fin K0 K (decode cX6_gatherRing 61) 61 L (st) h cs ss = (lhas L 0 ∧ isRf (lgt L 0) ∧ K 62 L (lgt L 0 :: st) h cs ss) := by
  rw [dX6_gatherRing_61, ey_ok, nx_aload_n_3] <;> rfl
theorem qX6_gatherRing_62 : ey FX6 ini rt fin K0 K (decode cX6_gatherRing 62) 62 L (.ref a :: r) h cs ss = (h.1 a = some (.inl 6) ∧ K 65 L (h.2 a 5 :: r) h cs ss) := by
  rw [dX6_gatherRing_62, ey_ok, nx_getfield_54]
  exact and_l rfl
theorem qX6_gatherRing_65 : ey FX6 ini rt fin K0 K (decode cX6_gatherRing 65) 65 L (st) h cs ss = (lhas L 3 ∧ isI (lgt L 3) ∧ K 66 L (lgt L 3 :: st) h cs ss) := by
  rw [dX6_gatherRing_65, ey_ok, nx_iload_n_1] <;> rfl
theorem qX6_gatherRing_66 : ey FX6 ini rt fin K0 K (decode cX6_gatherRing 66) 66 L (st) h cs ss = (lhas L 2 ∧ isRf (lgt L 2) ∧ K 67 L (lgt L 2 :: st) h cs ss) := by
  rw [dX6_gatherRing_66, ey_ok, nx_aload_n_3] <;> rfl
theorem qX6_gatherRing_67r : ey FX6 ini rt fin K0 K (decode cX6_gatherRing 67) 67 L (.ref a2 :: .int i :: .ref a :: r) h cs ss = (isA (h.1 a) (fun t m => 4 ≤ t ∧ h.1 a2 = some (.inl (vec t)) ∧ vp_in i m) ∧ K 68 L r (h.1, hup h.2 a i.toNatClampNeg (.ref a2)) cs ss) := by
  rw [dX6_gatherRing_67, ey_ok, nx_aastore_66]
theorem qX6_gatherRing_67n : ey FX6 ini rt fin K0 K (decode cX6_gatherRing 67) 67 L (.null :: .int i :: .ref a :: r) h cs ss = (isA (h.1 a) (fun t m => 4 ≤ t ∧ vp_in i m) ∧ K 68 L r (h.1, hup h.2 a i.toNatClampNeg .null) cs ss) := by
  rw [dX6_gatherRing_67, ey_ok, nx_aastore_67]
theorem qX6_gatherRing_68 : ey FX6 ini rt fin K0 K (decode cX6_gatherRing 68) 68 L (st) h cs ss = (lhas L 2 ∧ isRf (lgt L 2) ∧ K 69 L (lgt L 2 :: st) h cs ss) := by
  rw [dX6_gatherRing_68, ey_ok, nx_aload_n_3] <;> rfl
theorem qX6_gatherRing_69 : ey FX6 ini rt fin K0 K (decode cX6_gatherRing 69) 69 L (.ref a :: r) h cs ss = (h.1 a = some (.inl 1) ∧ K 72 L (h.2 a 2 :: r) h cs ss) := by
  rw [dX6_gatherRing_69, ey_ok, nx_getfield_54]
  exact and_l rfl
theorem qX6_gatherRing_72 : ey FX6 ini rt fin K0 K (decode cX6_gatherRing 72) 72 L (st) h cs ss = (lhas L 1 ∧ isRf (lgt L 1) ∧ K 73 L (lgt L 1 :: st) h cs ss) := by
  rw [dX6_gatherRing_72, ey_ok, nx_aload_n_3] <;> rfl
theorem qX6_gatherRing_73 : ey FX6 ini rt fin K0 K (decode cX6_gatherRing 73) 73 L (.ref a :: r) h cs ss = (h.1 a = some (.inl 1) ∧ K 76 L (h.2 a 1 :: r) h cs ss) := by
  rw [dX6_gatherRing_73, ey_ok, nx_getfield_54]
  exact and_l rfl
theorem qX6_gatherRing_76rr : ey FX6 ini rt fin K0 K (decode cX6_gatherRing 76) 76 L (.ref a :: .ref a2 :: r) h cs ss = (if ¬ (a2 = a) then K 83 L r h cs ss else K 79 L r h cs ss) := by
  rw [dX6_gatherRing_76, ey_ok, nx_if_acmp_46]
  exact and_l (by unfold jok; decide)
theorem qX6_gatherRing_76nn : ey FX6 ini rt fin K0 K (decode cX6_gatherRing 76) 76 L (.null :: .null :: r) h cs ss = (K 79 L r h cs ss) := by
  rw [dX6_gatherRing_76, ey_ok, nx_if_acmp_47]
  exact and_l (by unfold jok; decide)
theorem qX6_gatherRing_76nr : ey FX6 ini rt fin K0 K (decode cX6_gatherRing 76) 76 L (.null :: .ref a :: r) h cs ss = (K 83 L r h cs ss) := by
  rw [dX6_gatherRing_76, ey_ok, nx_if_acmp_48]
  exact and_l (by unfold jok; decide)
theorem qX6_gatherRing_76rn : ey FX6 ini rt fin K0 K (decode cX6_gatherRing 76) 76 L (.ref a :: .null :: r) h cs ss = (K 83 L r h cs ss) := by
  rw [dX6_gatherRing_76, ey_ok, nx_if_acmp_49]
  exact and_l (by unfold jok; decide)
theorem qX6_gatherRing_79 : ey FX6 ini rt fin K0 K (decode cX6_gatherRing 79) 79 L (st) h cs ss = (lhas L 3 ∧ isI (lgt L 3) ∧ K 80 L (lgt L 3 :: st) h cs ss) := by
  rw [dX6_gatherRing_79, ey_ok, nx_iload_n_1] <;> rfl
theorem qX6_gatherRing_80 : ey FX6 ini rt fin K0 K (decode cX6_gatherRing 80) 80 L (st) h cs ss = (K 81 L (.int 1 :: st) h cs ss) := by
  rw [dX6_gatherRing_80, ey_ok, nx_iconst_11] <;> rfl
theorem qX6_gatherRing_81 : ey FX6 ini rt fin K0 K (decode cX6_gatherRing 81) 81 L (.int y :: .int x :: r) h cs ss = (K 82 L (.int (x + y) :: r) h cs ss) := by
  rw [dX6_gatherRing_81, ey_ok, nx_iadd_16]
theorem qX6_gatherRing_82 : ey FX6 ini rt fin K0 K (decode cX6_gatherRing 82) 82 L ([.int x]) h cs ss = (rokI rt x ∧ fin (some (.int x)) h cs ss) := by
  rw [dX6_gatherRing_82, ey_ok, nx_ireturn_68]
theorem qX6_gatherRing_83 : ey FX6 ini rt fin K0 K (decode cX6_gatherRing 83) 83 L (st) h cs ss = (lhas L 0 ∧ isRf (lgt L 0) ∧ K 84 L (lgt L 0 :: st) h cs ss) := by
  rw [dX6_gatherRing_83, ey_ok, nx_aload_n_3] <;> rfl
theorem qX6_gatherRing_84 : ey FX6 ini rt fin K0 K (decode cX6_gatherRing 84) 84 L (st) h cs ss = (lhas L 2 ∧ isRf (lgt L 2) ∧ K 85 L (lgt L 2 :: st) h cs ss) := by
  rw [dX6_gatherRing_84, ey_ok, nx_aload_n_3] <;> rfl
theorem qX6_gatherRing_85 : ey FX6 ini rt fin K0 K (decode cX6_gatherRing 85) 85 L (.ref a :: r) h cs ss = (h.1 a = some (.inl 1) ∧ K 88 L (h.2 a 2 :: r) h cs ss) := by
  rw [dX6_gatherRing_85, ey_ok, nx_getfield_54]
  exact and_l rfl
theorem qX6_gatherRing_88 : ey FX6 ini rt fin K0 K (decode cX6_gatherRing 88) 88 L (st) h cs ss = (K0 88 L st h cs ss) := by
  rw [dX6_gatherRing_88, ey_ok, nx_invokevirtual_72]
theorem qX6_gatherRing_91r : ey FX6 ini rt fin K0 K (decode cX6_gatherRing 91) 91 L (.ref a :: r) h cs ss = (2 < L.length ∧ K 92 (L.set 2 (some (.ref a))) r h cs ss) := by
  rw [dX6_gatherRing_91, ey_ok, nx_astore_n_8] <;> rfl
theorem qX6_gatherRing_91n : ey FX6 ini rt fin K0 K (decode cX6_gatherRing 91) 91 L (.null :: r) h cs ss = (2 < L.length ∧ K 92 (L.set 2 (some .null)) r h cs ss) := by
  rw [dX6_gatherRing_91, ey_ok, nx_astore_n_9] <;> rfl
theorem qX6_gatherRing_92 : ey FX6 ini rt fin K0 K (decode cX6_gatherRing 92) 92 L (st) h cs ss = (lhas L 3 ∧ isI (lgt L 3) ∧ K 95 (L.set 3 (some (inc (lgt L 3) 1))) st h cs ss) := by
  rw [dX6_gatherRing_92, ey_ok, nx_iinc_10] <;> rfl
theorem qX6_gatherRing_95 : ey FX6 ini rt fin K0 K (decode cX6_gatherRing 95) 95 L (st) h cs ss = (K 28 L st h cs ss) := by
  rw [dX6_gatherRing_95, ey_ok, nx_goto_29]
  exact and_l (by unfold jok; decide)
theorem qX6_gatherRing_98 : ey FX6 ini rt fin K0 K (decode cX6_gatherRing 98) 98 L (st) h cs ss = (K 99 L (.int 0 :: st) h cs ss) := by
  rw [dX6_gatherRing_98, ey_ok, nx_iconst_11] <;> rfl
theorem qX6_gatherRing_99 : ey FX6 ini rt fin K0 K (decode cX6_gatherRing 99) 99 L ([.int x]) h cs ss = (rokI rt x ∧ fin (some (.int x)) h cs ss) := by
  rw [dX6_gatherRing_99, ey_ok, nx_ireturn_68]
theorem qX6_isInRing_0 : ey FX6 ini rt fin K0 K (decode cX6_isInRing 0) 0 L (st) h cs ss = (lhas L 0 ∧ isRf (lgt L 0) ∧ K 1 L (lgt L 0 :: st) h cs ss) := by
  rw [dX6_isInRing_0, ey_ok, nx_aload_n_3] <;> rfl
theorem qX6_isInRing_1 : ey FX6 ini rt fin K0 K (decode cX6_isInRing 1) 1 L (.ref a :: r) h cs ss = (h.1 a = some (.inl 6) ∧ K 4 L (h.2 a 5 :: r) h cs ss) := by
  rw [dX6_isInRing_1, ey_ok, nx_getfield_54]
  exact and_l rfl
theorem qX6_isInRing_4r : ey FX6 ini rt fin K0 K (decode cX6_isInRing 4) 4 L (.ref a :: r) h cs ss = (2 < L.length ∧ K 5 (L.set 2 (some (.ref a))) r h cs ss) := by
  rw [dX6_isInRing_4, ey_ok, nx_astore_n_8] <;> rfl
theorem qX6_isInRing_4n : ey FX6 ini rt fin K0 K (decode cX6_isInRing 4) 4 L (.null :: r) h cs ss = (2 < L.length ∧ K 5 (L.set 2 (some .null)) r h cs ss) := by
  rw [dX6_isInRing_4, ey_ok, nx_astore_n_9] <;> rfl
theorem qX6_isInRing_5 : ey FX6 ini rt fin K0 K (decode cX6_isInRing 5) 5 L (st) h cs ss = (lhas L 2 ∧ isRf (lgt L 2) ∧ K 6 L (lgt L 2 :: st) h cs ss) := by
  rw [dX6_isInRing_5, ey_ok, nx_aload_n_3] <;> rfl
theorem qX6_isInRing_6 : ey FX6 ini rt fin K0 K (decode cX6_isInRing 6) 6 L (.ref a :: r) h cs ss = (isA (h.1 a) (fun _ _ => True) ∧ K 7 L (.int (nI (alen (h.1 a))) :: r) h cs ss) := by
  rw [dX6_isInRing_6, ey_ok, nx_arraylength_56]
theorem qX6_isInRing_7 : ey FX6 ini rt fin K0 K (decode cX6_isInRing 7) 7 L (.int x :: r) h cs ss = (3 < L.length ∧ K 8 (L.set 3 (some (.int x))) r h cs ss) := by
  rw [dX6_isInRing_7, ey_ok, nx_istore_n_5] <;> rfl
theorem qX6_isInRing_8 : ey FX6 ini rt fin K0 K (decode cX6_isInRing 8) 8 L (st) h cs ss = (K 9 L (.int 0 :: st) h cs ss) := by
  rw [dX6_isInRing_8, ey_ok, nx_iconst_11] <;> rfl
theorem qX6_isInRing_9 : ey FX6 ini rt fin K0 K (decode cX6_isInRing 9) 9 L (.int x :: r) h cs ss = (4 < L.length ∧ K 11 (L.set 4 (some (.int x))) r h cs ss) := by
  rw [dX6_isInRing_9, ey_ok, nx_istore_4] <;> rfl
theorem qX6_isInRing_11 : ey FX6 ini rt fin K0 K (decode cX6_isInRing 11) 11 L (st) h cs ss = (lhas L 4 ∧ isI (lgt L 4) ∧ K 13 L (lgt L 4 :: st) h cs ss) := by
  rw [dX6_isInRing_11, ey_ok, nx_iload_0] <;> rfl
theorem qX6_isInRing_13 : ey FX6 ini rt fin K0 K (decode cX6_isInRing 13) 13 L (st) h cs ss = (lhas L 3 ∧ isI (lgt L 3) ∧ K 14 L (lgt L 3 :: st) h cs ss) := by
  rw [dX6_isInRing_13, ey_ok, nx_iload_n_1] <;> rfl
theorem qX6_isInRing_14 : ey FX6 ini rt fin K0 K (decode cX6_isInRing 14) 14 L (.int y :: .int x :: r) h cs ss = (if y ≤ x then K 45 L r h cs ss else K 17 L r h cs ss) := by
  rw [dX6_isInRing_14, ey_ok, nx_if_icmp_39]
  exact and_l (by unfold jok; decide)
theorem qX6_isInRing_17 : ey FX6 ini rt fin K0 K (decode cX6_isInRing 17) 17 L (st) h cs ss = (lhas L 2 ∧ isRf (lgt L 2) ∧ K 18 L (lgt L 2 :: st) h cs ss) := by
  rw [dX6_isInRing_17, ey_ok, nx_aload_n_3] <;> rfl
theorem qX6_isInRing_18 : ey FX6 ini rt fin K0 K (decode cX6_isInRing 18) 18 L (st) h cs ss = (lhas L 4 ∧ isI (lgt L 4) ∧ K 20 L (lgt L 4 :: st) h cs ss) := by
  rw [dX6_isInRing_18, ey_ok, nx_iload_0] <;> rfl
theorem qX6_isInRing_20 : ey FX6 ini rt fin K0 K (decode cX6_isInRing 20) 20 L (.int i :: .ref a :: r) h cs ss = (isA (h.1 a) (fun k m => 4 ≤ k ∧ vp_in i m) ∧ K 21 L (h.2 a i.toNatClampNeg :: r) h cs ss) := by
  rw [dX6_isInRing_20, ey_ok, nx_aaload_61]
theorem qX6_isInRing_21r : ey FX6 ini rt fin K0 K (decode cX6_isInRing 21) 21 L (.ref a :: r) h cs ss = (5 < L.length ∧ K 23 (L.set 5 (some (.ref a))) r h cs ss) := by
  rw [dX6_isInRing_21, ey_ok, nx_astore_6] <;> rfl
theorem qX6_isInRing_21n : ey FX6 ini rt fin K0 K (decode cX6_isInRing 21) 21 L (.null :: r) h cs ss = (5 < L.length ∧ K 23 (L.set 5 (some .null)) r h cs ss) := by
  rw [dX6_isInRing_21, ey_ok, nx_astore_7] <;> rfl
theorem qX6_isInRing_23 : ey FX6 ini rt fin K0 K (decode cX6_isInRing 23) 23 L (st) h cs ss = (lhas L 5 ∧ isRf (lgt L 5) ∧ K 25 L (lgt L 5 :: st) h cs ss) := by
  rw [dX6_isInRing_23, ey_ok, nx_aload_2] <;> rfl
theorem qX6_isInRing_25n : ey FX6 ini rt fin K0 K (decode cX6_isInRing 25) 25 L (.null :: r) h cs ss = (K 39 L r h cs ss) := by
  rw [dX6_isInRing_25, ey_ok, nx_ifnull_50]
  exact and_l (by unfold jok; decide)
theorem qX6_isInRing_25r : ey FX6 ini rt fin K0 K (decode cX6_isInRing 25) 25 L (.ref a :: r) h cs ss = (K 28 L r h cs ss) := by
  rw [dX6_isInRing_25, ey_ok, nx_ifnull_51]
  exact and_l (by unfold jok; decide)
theorem qX6_isInRing_28 : ey FX6 ini rt fin K0 K (decode cX6_isInRing 28) 28 L (st) h cs ss = (lhas L 5 ∧ isRf (lgt L 5) ∧ K 30 L (lgt L 5 :: st) h cs ss) := by
  rw [dX6_isInRing_28, ey_ok, nx_aload_2] <;> rfl
theorem qX6_isInRing_30 : ey FX6 ini rt fin K0 K (decode cX6_isInRing 30) 30 L (.ref a :: r) h cs ss = (h.1 a = some (.inl 1) ∧ K 33 L (h.2 a 0 :: r) h cs ss) := by
  rw [dX6_isInRing_30, ey_ok, nx_getfield_54]
  exact and_l rfl
theorem qX6_isInRing_33 : ey FX6 ini rt fin K0 K (decode cX6_isInRing 33) 33 L (st) h cs ss = (lhas L 1 ∧ isRf (lgt L 1) ∧ K 34 L (lgt L 1 :: st) h cs ss) := by
  rw [dX6_isInRing_33, ey_ok, nx_aload_n_3] <;> rfl
theorem qX6_isInRing_34rr : ey FX6 ini rt fin K0 K (decode cX6_isInRing 34) 34 L (.ref a :: .ref a2 :: r) h cs ss = (if ¬ (a2 = a) then K 39 L r h cs ss else K 37 L r h cs ss) := by
  rw [dX6_isInRing_34, ey_ok, nx_if_acmp_46]
  exact and_l (by unfold jok; decide)
theorem qX6_isInRing_34nn : ey FX6 ini rt fin K0 K (decode cX6_isInRing 34) 34 L (.null :: .null :: r) h cs ss = (K 37 L r h cs ss) := by
  rw [dX6_isInRing_34, ey_ok, nx_if_acmp_47]
  exact and_l (by unfold jok; decide)
theorem qX6_isInRing_34nr : ey FX6 ini rt fin K0 K (decode cX6_isInRing 34) 34 L (.null :: .ref a :: r) h cs ss = (K 39 L r h cs ss) := by
  rw [dX6_isInRing_34, ey_ok, nx_if_acmp_48]
  exact and_l (by unfold jok; decide)
theorem qX6_isInRing_34rn : ey FX6 ini rt fin K0 K (decode cX6_isInRing 34) 34 L (.ref a :: .null :: r) h cs ss = (K 39 L r h cs ss) := by
  rw [dX6_isInRing_34, ey_ok, nx_if_acmp_49]
  exact and_l (by unfold jok; decide)
theorem qX6_isInRing_37 : ey FX6 ini rt fin K0 K (decode cX6_isInRing 37) 37 L (st) h cs ss = (K 38 L (.int 1 :: st) h cs ss) := by
  rw [dX6_isInRing_37, ey_ok, nx_iconst_11] <;> rfl
theorem qX6_isInRing_38 : ey FX6 ini rt fin K0 K (decode cX6_isInRing 38) 38 L ([.int x]) h cs ss = (rokI rt x ∧ fin (some (.int x)) h cs ss) := by
  rw [dX6_isInRing_38, ey_ok, nx_ireturn_68]
theorem qX6_isInRing_39 : ey FX6 ini rt fin K0 K (decode cX6_isInRing 39) 39 L (st) h cs ss = (lhas L 4 ∧ isI (lgt L 4) ∧ K 42 (L.set 4 (some (inc (lgt L 4) 1))) st h cs ss) := by
  rw [dX6_isInRing_39, ey_ok, nx_iinc_10] <;> rfl
theorem qX6_isInRing_42 : ey FX6 ini rt fin K0 K (decode cX6_isInRing 42) 42 L (st) h cs ss = (K 11 L st h cs ss) := by
  rw [dX6_isInRing_42, ey_ok, nx_goto_29]
  exact and_l (by unfold jok; decide)
theorem qX6_isInRing_45 : ey FX6 ini rt fin K0 K (decode cX6_isInRing 45) 45 L (st) h cs ss = (K 46 L (.int 0 :: st) h cs ss) := by
  rw [dX6_isInRing_45, ey_ok, nx_iconst_11] <;> rfl
theorem qX6_isInRing_46 : ey FX6 ini rt fin K0 K (decode cX6_isInRing 46) 46 L ([.int x]) h cs ss = (rokI rt x ∧ fin (some (.int x)) h cs ss) := by
  rw [dX6_isInRing_46, ey_ok, nx_ireturn_68]
theorem qX6_lowestGiving_0 : ey FX6 ini rt fin K0 K (decode cX6_lowestGiving 0) 0 L (st) h cs ss = (lhas L 0 ∧ isRf (lgt L 0) ∧ K 1 L (lgt L 0 :: st) h cs ss) := by
  rw [dX6_lowestGiving_0, ey_ok, nx_aload_n_3] <;> rfl
theorem qX6_lowestGiving_1 : ey FX6 ini rt fin K0 K (decode cX6_lowestGiving 1) 1 L (.ref a :: r) h cs ss = (h.1 a = some (.inl 6) ∧ K 4 L (h.2 a 4 :: r) h cs ss) := by
  rw [dX6_lowestGiving_1, ey_ok, nx_getfield_54]
  exact and_l rfl
theorem qX6_lowestGiving_4r : ey FX6 ini rt fin K0 K (decode cX6_lowestGiving 4) 4 L (.ref a :: r) h cs ss = (2 < L.length ∧ K 5 (L.set 2 (some (.ref a))) r h cs ss) := by
  rw [dX6_lowestGiving_4, ey_ok, nx_astore_n_8] <;> rfl
theorem qX6_lowestGiving_4n : ey FX6 ini rt fin K0 K (decode cX6_lowestGiving 4) 4 L (.null :: r) h cs ss = (2 < L.length ∧ K 5 (L.set 2 (some .null)) r h cs ss) := by
  rw [dX6_lowestGiving_4, ey_ok, nx_astore_n_9] <;> rfl
theorem qX6_lowestGiving_5 : ey FX6 ini rt fin K0 K (decode cX6_lowestGiving 5) 5 L (st) h cs ss = (lhas L 2 ∧ isRf (lgt L 2) ∧ K 6 L (lgt L 2 :: st) h cs ss) := by
  rw [dX6_lowestGiving_5, ey_ok, nx_aload_n_3] <;> rfl
theorem qX6_lowestGiving_6 : ey FX6 ini rt fin K0 K (decode cX6_lowestGiving 6) 6 L (.ref a :: r) h cs ss = (isA (h.1 a) (fun _ _ => True) ∧ K 7 L (.int (nI (alen (h.1 a))) :: r) h cs ss) := by
  rw [dX6_lowestGiving_6, ey_ok, nx_arraylength_56]
theorem qX6_lowestGiving_7 : ey FX6 ini rt fin K0 K (decode cX6_lowestGiving 7) 7 L (.int x :: r) h cs ss = (3 < L.length ∧ K 8 (L.set 3 (some (.int x))) r h cs ss) := by
  rw [dX6_lowestGiving_7, ey_ok, nx_istore_n_5] <;> rfl
theorem qX6_lowestGiving_8 : ey FX6 ini rt fin K0 K (decode cX6_lowestGiving 8) 8 L (st) h cs ss = (K 9 L (.int 0 :: st) h cs ss) := by
  rw [dX6_lowestGiving_8, ey_ok, nx_iconst_11] <;> rfl
theorem qX6_lowestGiving_9 : ey FX6 ini rt fin K0 K (decode cX6_lowestGiving 9) 9 L (.int x :: r) h cs ss = (4 < L.length ∧ K 11 (L.set 4 (some (.int x))) r h cs ss) := by
  rw [dX6_lowestGiving_9, ey_ok, nx_istore_4] <;> rfl
theorem qX6_lowestGiving_11 : ey FX6 ini rt fin K0 K (decode cX6_lowestGiving 11) 11 L (st) h cs ss = (lhas L 4 ∧ isI (lgt L 4) ∧ K 13 L (lgt L 4 :: st) h cs ss) := by
  rw [dX6_lowestGiving_11, ey_ok, nx_iload_0] <;> rfl
theorem qX6_lowestGiving_13 : ey FX6 ini rt fin K0 K (decode cX6_lowestGiving 13) 13 L (st) h cs ss = (lhas L 3 ∧ isI (lgt L 3) ∧ K 14 L (lgt L 3 :: st) h cs ss) := by
  rw [dX6_lowestGiving_13, ey_ok, nx_iload_n_1] <;> rfl
theorem qX6_lowestGiving_14 : ey FX6 ini rt fin K0 K (decode cX6_lowestGiving 14) 14 L (.int y :: .int x :: r) h cs ss = (if y ≤ x then K 54 L r h cs ss else K 17 L r h cs ss) := by
  rw [dX6_lowestGiving_14, ey_ok, nx_if_icmp_39]
  exact and_l (by unfold jok; decide)
theorem qX6_lowestGiving_17 : ey FX6 ini rt fin K0 K (decode cX6_lowestGiving 17) 17 L (st) h cs ss = (lhas L 2 ∧ isRf (lgt L 2) ∧ K 18 L (lgt L 2 :: st) h cs ss) := by
  rw [dX6_lowestGiving_17, ey_ok, nx_aload_n_3] <;> rfl
theorem qX6_lowestGiving_18 : ey FX6 ini rt fin K0 K (decode cX6_lowestGiving 18) 18 L (st) h cs ss = (lhas L 4 ∧ isI (lgt L 4) ∧ K 20 L (lgt L 4 :: st) h cs ss) := by
  rw [dX6_lowestGiving_18, ey_ok, nx_iload_0] <;> rfl
theorem qX6_lowestGiving_20 : ey FX6 ini rt fin K0 K (decode cX6_lowestGiving 20) 20 L (.int i :: .ref a :: r) h cs ss = (isA (h.1 a) (fun k m => 4 ≤ k ∧ vp_in i m) ∧ K 21 L (h.2 a i.toNatClampNeg :: r) h cs ss) := by
  rw [dX6_lowestGiving_20, ey_ok, nx_aaload_61]
theorem qX6_lowestGiving_21r : ey FX6 ini rt fin K0 K (decode cX6_lowestGiving 21) 21 L (.ref a :: r) h cs ss = (5 < L.length ∧ K 23 (L.set 5 (some (.ref a))) r h cs ss) := by
  rw [dX6_lowestGiving_21, ey_ok, nx_astore_6] <;> rfl
theorem qX6_lowestGiving_21n : ey FX6 ini rt fin K0 K (decode cX6_lowestGiving 21) 21 L (.null :: r) h cs ss = (5 < L.length ∧ K 23 (L.set 5 (some .null)) r h cs ss) := by
  rw [dX6_lowestGiving_21, ey_ok, nx_astore_7] <;> rfl
theorem qX6_lowestGiving_23 : ey FX6 ini rt fin K0 K (decode cX6_lowestGiving 23) 23 L (st) h cs ss = (lhas L 5 ∧ isRf (lgt L 5) ∧ K 25 L (lgt L 5 :: st) h cs ss) := by
  rw [dX6_lowestGiving_23, ey_ok, nx_aload_2] <;> rfl
theorem qX6_lowestGiving_25n : ey FX6 ini rt fin K0 K (decode cX6_lowestGiving 25) 25 L (.null :: r) h cs ss = (K 48 L r h cs ss) := by
  rw [dX6_lowestGiving_25, ey_ok, nx_ifnull_50]
  exact and_l (by unfold jok; decide)
theorem qX6_lowestGiving_25r : ey FX6 ini rt fin K0 K (decode cX6_lowestGiving 25) 25 L (.ref a :: r) h cs ss = (K 28 L r h cs ss) := by
  rw [dX6_lowestGiving_25, ey_ok, nx_ifnull_51]
  exact and_l (by unfold jok; decide)
theorem qX6_lowestGiving_28 : ey FX6 ini rt fin K0 K (decode cX6_lowestGiving 28) 28 L (st) h cs ss = (lhas L 5 ∧ isRf (lgt L 5) ∧ K 30 L (lgt L 5 :: st) h cs ss) := by
  rw [dX6_lowestGiving_28, ey_ok, nx_aload_2] <;> rfl
theorem qX6_lowestGiving_30 : ey FX6 ini rt fin K0 K (decode cX6_lowestGiving 30) 30 L (.ref a :: r) h cs ss = (h.1 a = some (.inl 1) ∧ K 33 L (h.2 a 3 :: r) h cs ss) := by
  rw [dX6_lowestGiving_30, ey_ok, nx_getfield_54]
  exact and_l rfl
theorem qX6_lowestGiving_33 : ey FX6 ini rt fin K0 K (decode cX6_lowestGiving 33) 33 L (.int x :: r) h cs ss = (if x = 0 then K 48 L r h cs ss else K 36 L r h cs ss) := by
  rw [dX6_lowestGiving_33, ey_ok, nx_ifond_30]
  exact and_l (by unfold jok; decide)
theorem qX6_lowestGiving_36 : ey FX6 ini rt fin K0 K (decode cX6_lowestGiving 36) 36 L (st) h cs ss = (lhas L 5 ∧ isRf (lgt L 5) ∧ K 38 L (lgt L 5 :: st) h cs ss) := by
  rw [dX6_lowestGiving_36, ey_ok, nx_aload_2] <;> rfl
theorem qX6_lowestGiving_38 : ey FX6 ini rt fin K0 K (decode cX6_lowestGiving 38) 38 L (.ref a :: r) h cs ss = (h.1 a = some (.inl 1) ∧ K 41 L (h.2 a 1 :: r) h cs ss) := by
  rw [dX6_lowestGiving_38, ey_ok, nx_getfield_54]
  exact and_l rfl
theorem qX6_lowestGiving_41 : ey FX6 ini rt fin K0 K (decode cX6_lowestGiving 41) 41 L (st) h cs ss = (lhas L 1 ∧ isRf (lgt L 1) ∧ K 42 L (lgt L 1 :: st) h cs ss) := by
  rw [dX6_lowestGiving_41, ey_ok, nx_aload_n_3] <;> rfl
theorem qX6_lowestGiving_42rr : ey FX6 ini rt fin K0 K (decode cX6_lowestGiving 42) 42 L (.ref a :: .ref a2 :: r) h cs ss = (if ¬ (a2 = a) then K 48 L r h cs ss else K 45 L r h cs ss) := by
  rw [dX6_lowestGiving_42, ey_ok, nx_if_acmp_46]
  exact and_l (by unfold jok; decide)
theorem qX6_lowestGiving_42nn : ey FX6 ini rt fin K0 K (decode cX6_lowestGiving 42) 42 L (.null :: .null :: r) h cs ss = (K 45 L r h cs ss) := by
  rw [dX6_lowestGiving_42, ey_ok, nx_if_acmp_47]
  exact and_l (by unfold jok; decide)
theorem qX6_lowestGiving_42nr : ey FX6 ini rt fin K0 K (decode cX6_lowestGiving 42) 42 L (.null :: .ref a :: r) h cs ss = (K 48 L r h cs ss) := by
  rw [dX6_lowestGiving_42, ey_ok, nx_if_acmp_48]
  exact and_l (by unfold jok; decide)
theorem qX6_lowestGiving_42rn : ey FX6 ini rt fin K0 K (decode cX6_lowestGiving 42) 42 L (.ref a :: .null :: r) h cs ss = (K 48 L r h cs ss) := by
  rw [dX6_lowestGiving_42, ey_ok, nx_if_acmp_49]
  exact and_l (by unfold jok; decide)
theorem qX6_lowestGiving_45 : ey FX6 ini rt fin K0 K (decode cX6_lowestGiving 45) 45 L (st) h cs ss = (lhas L 5 ∧ isRf (lgt L 5) ∧ K 47 L (lgt L 5 :: st) h cs ss) := by
  rw [dX6_lowestGiving_45, ey_ok, nx_aload_2] <;> rfl
theorem qX6_lowestGiving_47r : ey FX6 ini rt fin K0 K (decode cX6_lowestGiving 47) 47 L ([.ref a]) h cs ss = (isR rt ∧ fin (some (.ref a)) h cs ss) := by
  rw [dX6_lowestGiving_47, ey_ok, nx_areturn_69]
theorem qX6_lowestGiving_47n : ey FX6 ini rt fin K0 K (decode cX6_lowestGiving 47) 47 L ([.null]) h cs ss = (isR rt ∧ fin (some .null) h cs ss) := by
  rw [dX6_lowestGiving_47, ey_ok, nx_areturn_70]
theorem qX6_lowestGiving_48 : ey FX6 ini rt fin K0 K (decode cX6_lowestGiving 48) 48 L (st) h cs ss = (lhas L 4 ∧ isI (lgt L 4) ∧ K 51 (L.set 4 (some (inc (lgt L 4) 1))) st h cs ss) := by
  rw [dX6_lowestGiving_48, ey_ok, nx_iinc_10] <;> rfl
theorem qX6_lowestGiving_51 : ey FX6 ini rt fin K0 K (decode cX6_lowestGiving 51) 51 L (st) h cs ss = (K 11 L st h cs ss) := by
  rw [dX6_lowestGiving_51, ey_ok, nx_goto_29]
  exact and_l (by unfold jok; decide)
theorem qX6_lowestGiving_54 : ey FX6 ini rt fin K0 K (decode cX6_lowestGiving 54) 54 L (st) h cs ss = (K 55 L (.null :: st) h cs ss) := by
  rw [dX6_lowestGiving_54, ey_ok, nx_aconst_null_15]
theorem qX6_lowestGiving_55r : ey FX6 ini rt fin K0 K (decode cX6_lowestGiving 55) 55 L ([.ref a]) h cs ss = (isR rt ∧ fin (some (.ref a)) h cs ss) := by
  rw [dX6_lowestGiving_55, ey_ok, nx_areturn_69]
theorem qX6_lowestGiving_55n : ey FX6 ini rt fin K0 K (decode cX6_lowestGiving 55) 55 L ([.null]) h cs ss = (isR rt ∧ fin (some .null) h cs ss) := by
  rw [dX6_lowestGiving_55, ey_ok, nx_areturn_70]
theorem qX6_ringCanSwap_0 : ey FX6 ini rt fin K0 K (decode cX6_ringCanSwap 0) 0 L (st) h cs ss = (lhas L 0 ∧ isRf (lgt L 0) ∧ K 1 L (lgt L 0 :: st) h cs ss) := by
  rw [dX6_ringCanSwap_0, ey_ok, nx_aload_n_3] <;> rfl
theorem qX6_ringCanSwap_1 : ey FX6 ini rt fin K0 K (decode cX6_ringCanSwap 1) 1 L (.ref a :: r) h cs ss = (h.1 a = some (.inl 6) ∧ K 4 L (h.2 a 5 :: r) h cs ss) := by
  rw [dX6_ringCanSwap_1, ey_ok, nx_getfield_54]
  exact and_l rfl
theorem qX6_ringCanSwap_4r : ey FX6 ini rt fin K0 K (decode cX6_ringCanSwap 4) 4 L (.ref a :: r) h cs ss = (1 < L.length ∧ K 5 (L.set 1 (some (.ref a))) r h cs ss) := by
  rw [dX6_ringCanSwap_4, ey_ok, nx_astore_n_8] <;> rfl
theorem qX6_ringCanSwap_4n : ey FX6 ini rt fin K0 K (decode cX6_ringCanSwap 4) 4 L (.null :: r) h cs ss = (1 < L.length ∧ K 5 (L.set 1 (some .null)) r h cs ss) := by
  rw [dX6_ringCanSwap_4, ey_ok, nx_astore_n_9] <;> rfl
theorem qX6_ringCanSwap_5 : ey FX6 ini rt fin K0 K (decode cX6_ringCanSwap 5) 5 L (st) h cs ss = (lhas L 1 ∧ isRf (lgt L 1) ∧ K 6 L (lgt L 1 :: st) h cs ss) := by
  rw [dX6_ringCanSwap_5, ey_ok, nx_aload_n_3] <;> rfl
theorem qX6_ringCanSwap_6 : ey FX6 ini rt fin K0 K (decode cX6_ringCanSwap 6) 6 L (.ref a :: r) h cs ss = (isA (h.1 a) (fun _ _ => True) ∧ K 7 L (.int (nI (alen (h.1 a))) :: r) h cs ss) := by
  rw [dX6_ringCanSwap_6, ey_ok, nx_arraylength_56]
theorem qX6_ringCanSwap_7 : ey FX6 ini rt fin K0 K (decode cX6_ringCanSwap 7) 7 L (.int x :: r) h cs ss = (2 < L.length ∧ K 8 (L.set 2 (some (.int x))) r h cs ss) := by
  rw [dX6_ringCanSwap_7, ey_ok, nx_istore_n_5] <;> rfl
theorem qX6_ringCanSwap_8 : ey FX6 ini rt fin K0 K (decode cX6_ringCanSwap 8) 8 L (st) h cs ss = (K 9 L (.int 0 :: st) h cs ss) := by
  rw [dX6_ringCanSwap_8, ey_ok, nx_iconst_11] <;> rfl
theorem qX6_ringCanSwap_9 : ey FX6 ini rt fin K0 K (decode cX6_ringCanSwap 9) 9 L (.int x :: r) h cs ss = (3 < L.length ∧ K 10 (L.set 3 (some (.int x))) r h cs ss) := by
  rw [dX6_ringCanSwap_9, ey_ok, nx_istore_n_5] <;> rfl
theorem qX6_ringCanSwap_10 : ey FX6 ini rt fin K0 K (decode cX6_ringCanSwap 10) 10 L (st) h cs ss = (lhas L 3 ∧ isI (lgt L 3) ∧ K 11 L (lgt L 3 :: st) h cs ss) := by
  rw [dX6_ringCanSwap_10, ey_ok, nx_iload_n_1] <;> rfl
theorem qX6_ringCanSwap_11 : ey FX6 ini rt fin K0 K (decode cX6_ringCanSwap 11) 11 L (st) h cs ss = (lhas L 2 ∧ isI (lgt L 2) ∧ K 12 L (lgt L 2 :: st) h cs ss) := by
  rw [dX6_ringCanSwap_11, ey_ok, nx_iload_n_1] <;> rfl
theorem qX6_ringCanSwap_12 : ey FX6 ini rt fin K0 K (decode cX6_ringCanSwap 12) 12 L (.int y :: .int x :: r) h cs ss = (if y ≤ x then K 66 L r h cs ss else K 15 L r h cs ss) := by
  rw [dX6_ringCanSwap_12, ey_ok, nx_if_icmp_39]
  exact and_l (by unfold jok; decide)
theorem qX6_ringCanSwap_15 : ey FX6 ini rt fin K0 K (decode cX6_ringCanSwap 15) 15 L (st) h cs ss = (lhas L 1 ∧ isRf (lgt L 1) ∧ K 16 L (lgt L 1 :: st) h cs ss) := by
  rw [dX6_ringCanSwap_15, ey_ok, nx_aload_n_3] <;> rfl
theorem qX6_ringCanSwap_16 : ey FX6 ini rt fin K0 K (decode cX6_ringCanSwap 16) 16 L (st) h cs ss = (lhas L 3 ∧ isI (lgt L 3) ∧ K 17 L (lgt L 3 :: st) h cs ss) := by
  rw [dX6_ringCanSwap_16, ey_ok, nx_iload_n_1] <;> rfl
theorem qX6_ringCanSwap_17 : ey FX6 ini rt fin K0 K (decode cX6_ringCanSwap 17) 17 L (.int i :: .ref a :: r) h cs ss = (isA (h.1 a) (fun k m => 4 ≤ k ∧ vp_in i m) ∧ K 18 L (h.2 a i.toNatClampNeg :: r) h cs ss) := by
  rw [dX6_ringCanSwap_17, ey_ok, nx_aaload_61]
theorem qX6_ringCanSwap_18r : ey FX6 ini rt fin K0 K (decode cX6_ringCanSwap 18) 18 L (.ref a :: r) h cs ss = (4 < L.length ∧ K 20 (L.set 4 (some (.ref a))) r h cs ss) := by
  rw [dX6_ringCanSwap_18, ey_ok, nx_astore_6] <;> rfl
theorem qX6_ringCanSwap_18n : ey FX6 ini rt fin K0 K (decode cX6_ringCanSwap 18) 18 L (.null :: r) h cs ss = (4 < L.length ∧ K 20 (L.set 4 (some .null)) r h cs ss) := by
  rw [dX6_ringCanSwap_18, ey_ok, nx_astore_7] <;> rfl
theorem qX6_ringCanSwap_20 : ey FX6 ini rt fin K0 K (decode cX6_ringCanSwap 20) 20 L (st) h cs ss = (lhas L 4 ∧ isRf (lgt L 4) ∧ K 22 L (lgt L 4 :: st) h cs ss) := by
  rw [dX6_ringCanSwap_20, ey_ok, nx_aload_2] <;> rfl
theorem qX6_ringCanSwap_22n : ey FX6 ini rt fin K0 K (decode cX6_ringCanSwap 22) 22 L (.null :: r) h cs ss = (K 60 L r h cs ss) := by
  rw [dX6_ringCanSwap_22, ey_ok, nx_ifnull_50]
  exact and_l (by unfold jok; decide)
theorem qX6_ringCanSwap_22r : ey FX6 ini rt fin K0 K (decode cX6_ringCanSwap 22) 22 L (.ref a :: r) h cs ss = (K 25 L r h cs ss) := by
  rw [dX6_ringCanSwap_22, ey_ok, nx_ifnull_51]
  exact and_l (by unfold jok; decide)
theorem qX6_ringCanSwap_25 : ey FX6 ini rt fin K0 K (decode cX6_ringCanSwap 25) 25 L (st) h cs ss = (lhas L 0 ∧ isRf (lgt L 0) ∧ K 26 L (lgt L 0 :: st) h cs ss) := by
  rw [dX6_ringCanSwap_25, ey_ok, nx_aload_n_3] <;> rfl
theorem qX6_ringCanSwap_26 : ey FX6 ini rt fin K0 K (decode cX6_ringCanSwap 26) 26 L (st) h cs ss = (lhas L 4 ∧ isRf (lgt L 4) ∧ K 28 L (lgt L 4 :: st) h cs ss) := by
  rw [dX6_ringCanSwap_26, ey_ok, nx_aload_2] <;> rfl
theorem qX6_ringCanSwap_28 : ey FX6 ini rt fin K0 K (decode cX6_ringCanSwap 28) 28 L (.ref a :: r) h cs ss = (h.1 a = some (.inl 1) ∧ K 31 L (h.2 a 2 :: r) h cs ss) := by
  rw [dX6_ringCanSwap_28, ey_ok, nx_getfield_54]
  exact and_l rfl
theorem qX6_ringCanSwap_31 : ey FX6 ini rt fin K0 K (decode cX6_ringCanSwap 31) 31 L (st) h cs ss = (K0 31 L st h cs ss) := by
  rw [dX6_ringCanSwap_31, ey_ok, nx_invokevirtual_72]
theorem qX6_ringCanSwap_34 : ey FX6 ini rt fin K0 K (decode cX6_ringCanSwap 34) 34 L (.int x :: r) h cs ss = (if x = 0 then K 58 L r h cs ss else K 37 L r h cs ss) := by
  rw [dX6_ringCanSwap_34, ey_ok, nx_ifond_30]
  exact and_l (by unfold jok; decide)
theorem qX6_ringCanSwap_37 : ey FX6 ini rt fin K0 K (decode cX6_ringCanSwap 37) 37 L (st) h cs ss = (lhas L 4 ∧ isRf (lgt L 4) ∧ K 39 L (lgt L 4 :: st) h cs ss) := by
  rw [dX6_ringCanSwap_37, ey_ok, nx_aload_2] <;> rfl
theorem qX6_ringCanSwap_39 : ey FX6 ini rt fin K0 K (decode cX6_ringCanSwap 39) 39 L (.ref a :: r) h cs ss = (h.1 a = some (.inl 1) ∧ K 42 L (h.2 a 0 :: r) h cs ss) := by
  rw [dX6_ringCanSwap_39, ey_ok, nx_getfield_54]
  exact and_l rfl
theorem qX6_ringCanSwap_42 : ey FX6 ini rt fin K0 K (decode cX6_ringCanSwap 42) 42 L (st) h cs ss = (lhas L 4 ∧ isRf (lgt L 4) ∧ K 44 L (lgt L 4 :: st) h cs ss) := by
  rw [dX6_ringCanSwap_42, ey_ok, nx_aload_2] <;> rfl
theorem qX6_ringCanSwap_44 : ey FX6 ini rt fin K0 K (decode cX6_ringCanSwap 44) 44 L (.ref a :: r) h cs ss = (h.1 a = some (.inl 1) ∧ K 47 L (h.2 a 2 :: r) h cs ss) := by
  rw [dX6_ringCanSwap_44, ey_ok, nx_getfield_54]
  exact and_l rfl
theorem qX6_ringCanSwap_47 : ey FX6 ini rt fin K0 K (decode cX6_ringCanSwap 47) 47 L (st) h cs ss = (lhas L 4 ∧ isRf (lgt L 4) ∧ K 49 L (lgt L 4 :: st) h cs ss) := by
  rw [dX6_ringCanSwap_47, ey_ok, nx_aload_2] <;> rfl
theorem qX6_ringCanSwap_49 : ey FX6 ini rt fin K0 K (decode cX6_ringCanSwap 49) 49 L (.ref a :: r) h cs ss = (h.1 a = some (.inl 1) ∧ K 52 L (h.2 a 1 :: r) h cs ss) := by
  rw [dX6_ringCanSwap_49, ey_ok, nx_getfield_54]
  exact and_l rfl
theorem qX6_ringCanSwap_52 : ey FX6 ini rt fin K0 K (decode cX6_ringCanSwap 52) 52 L (st) h cs ss = (K0 52 L st h cs ss) := by
  rw [dX6_ringCanSwap_52, ey_ok, nx_invokevirtual_72]
theorem qX6_ringCanSwap_55 : ey FX6 ini rt fin K0 K (decode cX6_ringCanSwap 55) 55 L (.int x :: r) h cs ss = (if ¬ x = 0 then K 60 L r h cs ss else K 58 L r h cs ss) := by
  rw [dX6_ringCanSwap_55, ey_ok, nx_ifond_31]
  exact and_l (by unfold jok; decide)
theorem qX6_ringCanSwap_58 : ey FX6 ini rt fin K0 K (decode cX6_ringCanSwap 58) 58 L (st) h cs ss = (K 59 L (.int 0 :: st) h cs ss) := by
  rw [dX6_ringCanSwap_58, ey_ok, nx_iconst_11] <;> rfl
theorem qX6_ringCanSwap_59 : ey FX6 ini rt fin K0 K (decode cX6_ringCanSwap 59) 59 L ([.int x]) h cs ss = (rokI rt x ∧ fin (some (.int x)) h cs ss) := by
  rw [dX6_ringCanSwap_59, ey_ok, nx_ireturn_68]
theorem qX6_ringCanSwap_60 : ey FX6 ini rt fin K0 K (decode cX6_ringCanSwap 60) 60 L (st) h cs ss = (lhas L 3 ∧ isI (lgt L 3) ∧ K 63 (L.set 3 (some (inc (lgt L 3) 1))) st h cs ss) := by
  rw [dX6_ringCanSwap_60, ey_ok, nx_iinc_10] <;> rfl
theorem qX6_ringCanSwap_63 : ey FX6 ini rt fin K0 K (decode cX6_ringCanSwap 63) 63 L (st) h cs ss = (K 10 L st h cs ss) := by
  rw [dX6_ringCanSwap_63, ey_ok, nx_goto_29]
  exact and_l (by unfold jok; decide)
theorem qX6_ringCanSwap_66 : ey FX6 ini rt fin K0 K (decode cX6_ringCanSwap 66) 66 L (st) h cs ss = (K 67 L (.int 1 :: st) h cs ss) := by
  rw [dX6_ringCanSwap_66, ey_ok, nx_iconst_11] <;> rfl
theorem qX6_ringCanSwap_67 : ey FX6 ini rt fin K0 K (decode cX6_ringCanSwap 67) 67 L ([.int x]) h cs ss = (rokI rt x ∧ fin (some (.int x)) h cs ss) := by
  rw [dX6_ringCanSwap_67, ey_ok, nx_ireturn_68]
end QQ
