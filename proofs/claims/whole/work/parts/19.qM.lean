theorem and_l {p q : Prop} (h : p) : (p ∧ q) = q := propext ⟨And.right, fun z => ⟨h, z⟩⟩
theorem and_m {p q r s : Prop} (h : r) : (p ∧ q ∧ r ∧ s) = (p ∧ q ∧ s) := propext ⟨fun z => ⟨z.1, z.2.1, z.2.2.2⟩, fun z => ⟨z.1, z.2.1, h, z.2.2⟩⟩
section QQ
variable {F : Nat → Option Fq} {ini : Option Nat} {rt : Option FieldType} {fin : Option Value → Hp → Nat → Nat → Prop} {K0 K : Kt} {L : List (Option Value)} {h : Hp} {cs ss : Nat} {r st : List Value} {x y i : Int32} {a a2 : Nat} {v : Value} {lx ly : Int64}
theorem qX7_init_0 : ey FX7 ini rt fin K0 K (decode cX7_init 0) 0 L (st) h cs ss = (lhas L 0 ∧ isRf (lgt L 0) ∧ K 1 L (lgt L 0 :: st) h cs ss) := by
  rw [dX7_init_0, ey_ok, nx_aload_n_3] <;> rfl
theorem qX7_init_1 : ey FX7 ini rt fin K0 K (decode cX7_init 1) 1 L (st) h cs ss = (K0 1 L st h cs ss) := by
  rw [dX7_init_1, ey_ok, nx_invokespecial_74]
theorem qX7_init_4 : ey FX7 ini rt fin K0 K (decode cX7_init 4) 4 L (st) h cs ss = (lhas L 0 ∧ isRf (lgt L 0) ∧ K 5 L (lgt L 0 :: st) h cs ss) := by
  rw [dX7_init_4, ey_ok, nx_aload_n_3] <;> rfl
theorem qX7_init_5 : ey FX7 ini rt fin K0 K (decode cX7_init 5) 5 L (st) h cs ss = (K 7 L (.int 8 :: st) h cs ss) := by
  rw [dX7_init_5, ey_ok, nx_bipush_12] <;> rfl
theorem qX7_init_7 : ey FX7 ini rt fin K0 K (decode cX7_init 7) 7 L (st) h cs ss = (K0 7 L st h cs ss) := by
  rw [dX7_init_7, ey_ok, nx_newarray_76]
theorem qX7_init_9 : ey FX7 ini rt fin K0 K (decode cX7_init 9) 9 L (v :: .ref a :: r) h cs ss = (h.1 a = some (.inl 7) ∧ okv (.array .int) v ∧ (true = true → ini = some 7) ∧ K 12 L r (h.1, hup h.2 a 1 v) cs ss) := by
  rw [dX7_init_9, ey_ok, nx_putfield_55]
  exact and_l rfl
theorem qX7_init_12 : ey FX7 ini rt fin K0 K (decode cX7_init 12) 12 L (st) h cs ss = (lhas L 0 ∧ isRf (lgt L 0) ∧ K 13 L (lgt L 0 :: st) h cs ss) := by
  rw [dX7_init_12, ey_ok, nx_aload_n_3] <;> rfl
theorem qX7_init_13 : ey FX7 ini rt fin K0 K (decode cX7_init 13) 13 L (st) h cs ss = (K 15 L (.int 8 :: st) h cs ss) := by
  rw [dX7_init_13, ey_ok, nx_bipush_12] <;> rfl
theorem qX7_init_15 : ey FX7 ini rt fin K0 K (decode cX7_init 15) 15 L (st) h cs ss = (K0 15 L st h cs ss) := by
  rw [dX7_init_15, ey_ok, nx_newarray_76]
theorem qX7_init_17 : ey FX7 ini rt fin K0 K (decode cX7_init 17) 17 L (v :: .ref a :: r) h cs ss = (h.1 a = some (.inl 7) ∧ okv (.array .int) v ∧ (true = true → ini = some 7) ∧ K 20 L r (h.1, hup h.2 a 2 v) cs ss) := by
  rw [dX7_init_17, ey_ok, nx_putfield_55]
  exact and_l rfl
theorem qX7_init_20 : ey FX7 ini rt fin K0 K (decode cX7_init 20) 20 L (st) h cs ss = (lhas L 0 ∧ isRf (lgt L 0) ∧ K 21 L (lgt L 0 :: st) h cs ss) := by
  rw [dX7_init_20, ey_ok, nx_aload_n_3] <;> rfl
theorem qX7_init_21 : ey FX7 ini rt fin K0 K (decode cX7_init 21) 21 L (st) h cs ss = (K 23 L (.int 40 :: st) h cs ss) := by
  rw [dX7_init_21, ey_ok, nx_bipush_12] <;> rfl
theorem qX7_init_23 : ey FX7 ini rt fin K0 K (decode cX7_init 23) 23 L (st) h cs ss = (K0 23 L st h cs ss) := by
  rw [dX7_init_23, ey_ok, nx_newarray_76]
theorem qX7_init_25 : ey FX7 ini rt fin K0 K (decode cX7_init 25) 25 L (v :: .ref a :: r) h cs ss = (h.1 a = some (.inl 7) ∧ okv (.array .int) v ∧ (true = true → ini = some 7) ∧ K 28 L r (h.1, hup h.2 a 4 v) cs ss) := by
  rw [dX7_init_25, ey_ok, nx_putfield_55]
  exact and_l rfl
theorem qX7_init_28 : ey FX7 ini rt fin K0 K (decode cX7_init 28) 28 L (st) h cs ss = (lhas L 0 ∧ isRf (lgt L 0) ∧ K 29 L (lgt L 0 :: st) h cs ss) := by
  rw [dX7_init_28, ey_ok, nx_aload_n_3] <;> rfl
theorem qX7_init_29 : ey FX7 ini rt fin K0 K (decode cX7_init 29) 29 L (st) h cs ss = (K 31 L (.int 40 :: st) h cs ss) := by
  rw [dX7_init_29, ey_ok, nx_bipush_12] <;> rfl
theorem qX7_init_31 : ey FX7 ini rt fin K0 K (decode cX7_init 31) 31 L (st) h cs ss = (K0 31 L st h cs ss) := by
  rw [dX7_init_31, ey_ok, nx_newarray_76]
theorem qX7_init_33 : ey FX7 ini rt fin K0 K (decode cX7_init 33) 33 L (v :: .ref a :: r) h cs ss = (h.1 a = some (.inl 7) ∧ okv (.array .int) v ∧ (true = true → ini = some 7) ∧ K 36 L r (h.1, hup h.2 a 5 v) cs ss) := by
  rw [dX7_init_33, ey_ok, nx_putfield_55]
  exact and_l rfl
theorem qX7_init_36 : ey FX7 ini rt fin K0 K (decode cX7_init 36) 36 L (st) h cs ss = (lhas L 0 ∧ isRf (lgt L 0) ∧ K 37 L (lgt L 0 :: st) h cs ss) := by
  rw [dX7_init_36, ey_ok, nx_aload_n_3] <;> rfl
theorem qX7_init_37 : ey FX7 ini rt fin K0 K (decode cX7_init 37) 37 L (st) h cs ss = (K 39 L (.int 40 :: st) h cs ss) := by
  rw [dX7_init_37, ey_ok, nx_bipush_12] <;> rfl
theorem qX7_init_39 : ey FX7 ini rt fin K0 K (decode cX7_init 39) 39 L (st) h cs ss = (K0 39 L st h cs ss) := by
  rw [dX7_init_39, ey_ok, nx_newarray_76]
theorem qX7_init_41 : ey FX7 ini rt fin K0 K (decode cX7_init 41) 41 L (v :: .ref a :: r) h cs ss = (h.1 a = some (.inl 7) ∧ okv (.array .int) v ∧ (true = true → ini = some 7) ∧ K 44 L r (h.1, hup h.2 a 6 v) cs ss) := by
  rw [dX7_init_41, ey_ok, nx_putfield_55]
  exact and_l rfl
theorem qX7_init_44 : ey FX7 ini rt fin K0 K (decode cX7_init 44) 44 L (st) h cs ss = (lhas L 0 ∧ isRf (lgt L 0) ∧ K 45 L (lgt L 0 :: st) h cs ss) := by
  rw [dX7_init_44, ey_ok, nx_aload_n_3] <;> rfl
theorem qX7_init_45 : ey FX7 ini rt fin K0 K (decode cX7_init 45) 45 L (st) h cs ss = (K 47 L (.int 40 :: st) h cs ss) := by
  rw [dX7_init_45, ey_ok, nx_bipush_12] <;> rfl
theorem qX7_init_47 : ey FX7 ini rt fin K0 K (decode cX7_init 47) 47 L (st) h cs ss = (K0 47 L st h cs ss) := by
  rw [dX7_init_47, ey_ok, nx_newarray_76]
theorem qX7_init_49 : ey FX7 ini rt fin K0 K (decode cX7_init 49) 49 L (v :: .ref a :: r) h cs ss = (h.1 a = some (.inl 7) ∧ okv (.array .int) v ∧ (true = true → ini = some 7) ∧ K 52 L r (h.1, hup h.2 a 7 v) cs ss) := by
  rw [dX7_init_49, ey_ok, nx_putfield_55]
  exact and_l rfl
theorem qX7_init_52 : ey FX7 ini rt fin K0 K (decode cX7_init 52) 52 L (st) h cs ss = (lhas L 0 ∧ isRf (lgt L 0) ∧ K 53 L (lgt L 0 :: st) h cs ss) := by
  rw [dX7_init_52, ey_ok, nx_aload_n_3] <;> rfl
theorem qX7_init_53 : ey FX7 ini rt fin K0 K (decode cX7_init 53) 53 L (st) h cs ss = (K 55 L (.int 40 :: st) h cs ss) := by
  rw [dX7_init_53, ey_ok, nx_bipush_12] <;> rfl
theorem qX7_init_55 : ey FX7 ini rt fin K0 K (decode cX7_init 55) 55 L (st) h cs ss = (K0 55 L st h cs ss) := by
  rw [dX7_init_55, ey_ok, nx_newarray_76]
theorem qX7_init_57 : ey FX7 ini rt fin K0 K (decode cX7_init 57) 57 L (v :: .ref a :: r) h cs ss = (h.1 a = some (.inl 7) ∧ okv (.array .int) v ∧ (true = true → ini = some 7) ∧ K 60 L r (h.1, hup h.2 a 8 v) cs ss) := by
  rw [dX7_init_57, ey_ok, nx_putfield_55]
  exact and_l rfl
theorem qX7_init_60 : ey FX7 ini rt fin K0 K (decode cX7_init 60) 60 L (st) h cs ss = (lhas L 0 ∧ isRf (lgt L 0) ∧ K 61 L (lgt L 0 :: st) h cs ss) := by
  rw [dX7_init_60, ey_ok, nx_aload_n_3] <;> rfl
theorem qX7_init_61 : ey FX7 ini rt fin K0 K (decode cX7_init 61) 61 L (st) h cs ss = (K 63 L (.int 40 :: st) h cs ss) := by
  rw [dX7_init_61, ey_ok, nx_bipush_12] <;> rfl
theorem qX7_init_63 : ey FX7 ini rt fin K0 K (decode cX7_init 63) 63 L (st) h cs ss = (K0 63 L st h cs ss) := by
  rw [dX7_init_63, ey_ok, nx_newarray_76]
theorem qX7_init_65 : ey FX7 ini rt fin K0 K (decode cX7_init 65) 65 L (v :: .ref a :: r) h cs ss = (h.1 a = some (.inl 7) ∧ okv (.array .int) v ∧ (true = true → ini = some 7) ∧ K 68 L r (h.1, hup h.2 a 9 v) cs ss) := by
  rw [dX7_init_65, ey_ok, nx_putfield_55]
  exact and_l rfl
theorem qX7_init_68 : ey FX7 ini rt fin K0 K (decode cX7_init 68) 68 L (st) h cs ss = (lhas L 0 ∧ isRf (lgt L 0) ∧ K 69 L (lgt L 0 :: st) h cs ss) := by
  rw [dX7_init_68, ey_ok, nx_aload_n_3] <;> rfl
theorem qX7_init_69 : ey FX7 ini rt fin K0 K (decode cX7_init 69) 69 L (st) h cs ss = (K 71 L (.int 40 :: st) h cs ss) := by
  rw [dX7_init_69, ey_ok, nx_bipush_12] <;> rfl
theorem qX7_init_71 : ey FX7 ini rt fin K0 K (decode cX7_init 71) 71 L (st) h cs ss = (K0 71 L st h cs ss) := by
  rw [dX7_init_71, ey_ok, nx_newarray_76]
theorem qX7_init_73 : ey FX7 ini rt fin K0 K (decode cX7_init 73) 73 L (v :: .ref a :: r) h cs ss = (h.1 a = some (.inl 7) ∧ okv (.array .char) v ∧ (true = true → ini = some 7) ∧ K 76 L r (h.1, hup h.2 a 11 v) cs ss) := by
  rw [dX7_init_73, ey_ok, nx_putfield_55]
  exact and_l rfl
theorem qX7_init_76 : ey FX7 ini rt fin K0 K (decode cX7_init 76) 76 L (st) h cs ss = (lhas L 0 ∧ isRf (lgt L 0) ∧ K 77 L (lgt L 0 :: st) h cs ss) := by
  rw [dX7_init_76, ey_ok, nx_aload_n_3] <;> rfl
theorem qX7_init_77 : ey FX7 ini rt fin K0 K (decode cX7_init 77) 77 L (st) h cs ss = (K 79 L (.int 12 :: st) h cs ss) := by
  rw [dX7_init_77, ey_ok, nx_bipush_12] <;> rfl
theorem qX7_init_79 : ey FX7 ini rt fin K0 K (decode cX7_init 79) 79 L (st) h cs ss = (K0 79 L st h cs ss) := by
  rw [dX7_init_79, ey_ok, nx_newarray_76]
theorem qX7_init_81 : ey FX7 ini rt fin K0 K (decode cX7_init 81) 81 L (v :: .ref a :: r) h cs ss = (h.1 a = some (.inl 7) ∧ okv (.array .int) v ∧ (true = true → ini = some 7) ∧ K 84 L r (h.1, hup h.2 a 17 v) cs ss) := by
  rw [dX7_init_81, ey_ok, nx_putfield_55]
  exact and_l rfl
theorem qX7_init_84 : ey FX7 ini rt fin K0 K (decode cX7_init 84) 84 L (st) h cs ss = (lhas L 0 ∧ isRf (lgt L 0) ∧ K 85 L (lgt L 0 :: st) h cs ss) := by
  rw [dX7_init_84, ey_ok, nx_aload_n_3] <;> rfl
theorem qX7_init_85 : ey FX7 ini rt fin K0 K (decode cX7_init 85) 85 L (st) h cs ss = (K 87 L (.int 12 :: st) h cs ss) := by
  rw [dX7_init_85, ey_ok, nx_bipush_12] <;> rfl
theorem qX7_init_87 : ey FX7 ini rt fin K0 K (decode cX7_init 87) 87 L (st) h cs ss = (K0 87 L st h cs ss) := by
  rw [dX7_init_87, ey_ok, nx_newarray_76]
theorem qX7_init_89 : ey FX7 ini rt fin K0 K (decode cX7_init 89) 89 L (v :: .ref a :: r) h cs ss = (h.1 a = some (.inl 7) ∧ okv (.array .int) v ∧ (true = true → ini = some 7) ∧ K 92 L r (h.1, hup h.2 a 18 v) cs ss) := by
  rw [dX7_init_89, ey_ok, nx_putfield_55]
  exact and_l rfl
theorem qX7_init_92 : ey FX7 ini rt fin K0 K (decode cX7_init 92) 92 L (st) h cs ss = (lhas L 0 ∧ isRf (lgt L 0) ∧ K 93 L (lgt L 0 :: st) h cs ss) := by
  rw [dX7_init_92, ey_ok, nx_aload_n_3] <;> rfl
theorem qX7_init_93 : ey FX7 ini rt fin K0 K (decode cX7_init 93) 93 L (st) h cs ss = (K 95 L (.int 12 :: st) h cs ss) := by
  rw [dX7_init_93, ey_ok, nx_bipush_12] <;> rfl
theorem qX7_init_95 : ey FX7 ini rt fin K0 K (decode cX7_init 95) 95 L (st) h cs ss = (K0 95 L st h cs ss) := by
  rw [dX7_init_95, ey_ok, nx_newarray_76]
theorem qX7_init_97 : ey FX7 ini rt fin K0 K (decode cX7_init 97) 97 L (v :: .ref a :: r) h cs ss = (h.1 a = some (.inl 7) ∧ okv (.array .int) v ∧ (true = true → ini = some 7) ∧ K 100 L r (h.1, hup h.2 a 19 v) cs ss) := by
  rw [dX7_init_97, ey_ok, nx_putfield_55]
  exact and_l rfl
theorem qX7_init_100 : ey FX7 ini rt fin K0 K (decode cX7_init 100) 100 L (st) h cs ss = (lhas L 0 ∧ isRf (lgt L 0) ∧ K 101 L (lgt L 0 :: st) h cs ss) := by
  rw [dX7_init_100, ey_ok, nx_aload_n_3] <;> rfl
theorem qX7_init_101 : ey FX7 ini rt fin K0 K (decode cX7_init 101) 101 L (st) h cs ss = (K 103 L (.int 12 :: st) h cs ss) := by
  rw [dX7_init_101, ey_ok, nx_bipush_12] <;> rfl
theorem qX7_init_103 : ey FX7 ini rt fin K0 K (decode cX7_init 103) 103 L (st) h cs ss = (K0 103 L st h cs ss) := by
  rw [dX7_init_103, ey_ok, nx_newarray_76]
theorem qX7_init_105 : ey FX7 ini rt fin K0 K (decode cX7_init 105) 105 L (v :: .ref a :: r) h cs ss = (h.1 a = some (.inl 7) ∧ okv (.array .int) v ∧ (true = true → ini = some 7) ∧ K 108 L r (h.1, hup h.2 a 20 v) cs ss) := by
  rw [dX7_init_105, ey_ok, nx_putfield_55]
  exact and_l rfl
theorem qX7_init_108 : ey FX7 ini rt fin K0 K (decode cX7_init 108) 108 L (st) h cs ss = (lhas L 0 ∧ isRf (lgt L 0) ∧ K 109 L (lgt L 0 :: st) h cs ss) := by
  rw [dX7_init_108, ey_ok, nx_aload_n_3] <;> rfl
theorem qX7_init_109 : ey FX7 ini rt fin K0 K (decode cX7_init 109) 109 L (st) h cs ss = (K 111 L (.int 12 :: st) h cs ss) := by
  rw [dX7_init_109, ey_ok, nx_bipush_12] <;> rfl
theorem qX7_init_111 : ey FX7 ini rt fin K0 K (decode cX7_init 111) 111 L (st) h cs ss = (K0 111 L st h cs ss) := by
  rw [dX7_init_111, ey_ok, nx_newarray_76]
theorem qX7_init_113 : ey FX7 ini rt fin K0 K (decode cX7_init 113) 113 L (v :: .ref a :: r) h cs ss = (h.1 a = some (.inl 7) ∧ okv (.array .boolean) v ∧ (true = true → ini = some 7) ∧ K 116 L r (h.1, hup h.2 a 21 v) cs ss) := by
  rw [dX7_init_113, ey_ok, nx_putfield_55]
  exact and_l rfl
theorem qX7_init_116 : ey FX7 ini rt fin K0 K (decode cX7_init 116) 116 L (st) h cs ss = (lhas L 0 ∧ isRf (lgt L 0) ∧ K 117 L (lgt L 0 :: st) h cs ss) := by
  rw [dX7_init_116, ey_ok, nx_aload_n_3] <;> rfl
theorem qX7_init_117 : ey FX7 ini rt fin K0 K (decode cX7_init 117) 117 L (st) h cs ss = (K 120 L (.int 200 :: st) h cs ss) := by
  rw [dX7_init_117, ey_ok, nx_sipush_13] <;> rfl
theorem qX7_init_120 : ey FX7 ini rt fin K0 K (decode cX7_init 120) 120 L (st) h cs ss = (K0 120 L st h cs ss) := by
  rw [dX7_init_120, ey_ok, nx_newarray_76]
theorem qX7_init_122 : ey FX7 ini rt fin K0 K (decode cX7_init 122) 122 L (v :: .ref a :: r) h cs ss = (h.1 a = some (.inl 7) ∧ okv (.array .int) v ∧ (true = true → ini = some 7) ∧ K 125 L r (h.1, hup h.2 a 23 v) cs ss) := by
  rw [dX7_init_122, ey_ok, nx_putfield_55]
  exact and_l rfl
theorem qX7_init_125 : ey FX7 ini rt fin K0 K (decode cX7_init 125) 125 L (st) h cs ss = (lhas L 0 ∧ isRf (lgt L 0) ∧ K 126 L (lgt L 0 :: st) h cs ss) := by
  rw [dX7_init_125, ey_ok, nx_aload_n_3] <;> rfl
theorem qX7_init_126 : ey FX7 ini rt fin K0 K (decode cX7_init 126) 126 L (st) h cs ss = (K 129 L (.int 200 :: st) h cs ss) := by
  rw [dX7_init_126, ey_ok, nx_sipush_13] <;> rfl
theorem qX7_init_129 : ey FX7 ini rt fin K0 K (decode cX7_init 129) 129 L (st) h cs ss = (K0 129 L st h cs ss) := by
  rw [dX7_init_129, ey_ok, nx_newarray_76]
theorem qX7_init_131 : ey FX7 ini rt fin K0 K (decode cX7_init 131) 131 L (v :: .ref a :: r) h cs ss = (h.1 a = some (.inl 7) ∧ okv (.array .int) v ∧ (true = true → ini = some 7) ∧ K 134 L r (h.1, hup h.2 a 24 v) cs ss) := by
  rw [dX7_init_131, ey_ok, nx_putfield_55]
  exact and_l rfl
theorem qX7_init_134 : ey FX7 ini rt fin K0 K (decode cX7_init 134) 134 L (st) h cs ss = (lhas L 0 ∧ isRf (lgt L 0) ∧ K 135 L (lgt L 0 :: st) h cs ss) := by
  rw [dX7_init_134, ey_ok, nx_aload_n_3] <;> rfl
theorem qX7_init_135 : ey FX7 ini rt fin K0 K (decode cX7_init 135) 135 L (st) h cs ss = (K 138 L (.int 200 :: st) h cs ss) := by
  rw [dX7_init_135, ey_ok, nx_sipush_13] <;> rfl
theorem qX7_init_138 : ey FX7 ini rt fin K0 K (decode cX7_init 138) 138 L (st) h cs ss = (K0 138 L st h cs ss) := by
  rw [dX7_init_138, ey_ok, nx_newarray_76]
theorem qX7_init_140 : ey FX7 ini rt fin K0 K (decode cX7_init 140) 140 L (v :: .ref a :: r) h cs ss = (h.1 a = some (.inl 7) ∧ okv (.array .int) v ∧ (true = true → ini = some 7) ∧ K 143 L r (h.1, hup h.2 a 25 v) cs ss) := by
  rw [dX7_init_140, ey_ok, nx_putfield_55]
  exact and_l rfl
theorem qX7_init_143 : ey FX7 ini rt fin K0 K (decode cX7_init 143) 143 L (st) h cs ss = (lhas L 0 ∧ isRf (lgt L 0) ∧ K 144 L (lgt L 0 :: st) h cs ss) := by
  rw [dX7_init_143, ey_ok, nx_aload_n_3] <;> rfl
theorem qX7_init_144 : ey FX7 ini rt fin K0 K (decode cX7_init 144) 144 L (st) h cs ss = (K 147 L (.int 200 :: st) h cs ss) := by
  rw [dX7_init_144, ey_ok, nx_sipush_13] <;> rfl
theorem qX7_init_147 : ey FX7 ini rt fin K0 K (decode cX7_init 147) 147 L (st) h cs ss = (K0 147 L st h cs ss) := by
  rw [dX7_init_147, ey_ok, nx_newarray_76]
theorem qX7_init_149 : ey FX7 ini rt fin K0 K (decode cX7_init 149) 149 L (v :: .ref a :: r) h cs ss = (h.1 a = some (.inl 7) ∧ okv (.array .int) v ∧ (true = true → ini = some 7) ∧ K 152 L r (h.1, hup h.2 a 26 v) cs ss) := by
  rw [dX7_init_149, ey_ok, nx_putfield_55]
  exact and_l rfl
theorem qX7_init_152 : ey FX7 ini rt fin K0 K (decode cX7_init 152) 152 L (st) h cs ss = (lhas L 0 ∧ isRf (lgt L 0) ∧ K 153 L (lgt L 0 :: st) h cs ss) := by
  rw [dX7_init_152, ey_ok, nx_aload_n_3] <;> rfl
theorem qX7_init_153 : ey FX7 ini rt fin K0 K (decode cX7_init 153) 153 L (st) h cs ss = (K 156 L (.int 200 :: st) h cs ss) := by
  rw [dX7_init_153, ey_ok, nx_sipush_13] <;> rfl
theorem qX7_init_156 : ey FX7 ini rt fin K0 K (decode cX7_init 156) 156 L (st) h cs ss = (K0 156 L st h cs ss) := by
  rw [dX7_init_156, ey_ok, nx_newarray_76]
theorem qX7_init_158 : ey FX7 ini rt fin K0 K (decode cX7_init 158) 158 L (v :: .ref a :: r) h cs ss = (h.1 a = some (.inl 7) ∧ okv (.array .int) v ∧ (true = true → ini = some 7) ∧ K 161 L r (h.1, hup h.2 a 27 v) cs ss) := by
  rw [dX7_init_158, ey_ok, nx_putfield_55]
  exact and_l rfl
theorem qX7_init_161 : ey FX7 ini rt fin K0 K (decode cX7_init 161) 161 L (st) h cs ss = (lhas L 0 ∧ isRf (lgt L 0) ∧ K 162 L (lgt L 0 :: st) h cs ss) := by
  rw [dX7_init_161, ey_ok, nx_aload_n_3] <;> rfl
theorem qX7_init_162 : ey FX7 ini rt fin K0 K (decode cX7_init 162) 162 L (st) h cs ss = (K 164 L (.int 40 :: st) h cs ss) := by
  rw [dX7_init_162, ey_ok, nx_bipush_12] <;> rfl
theorem qX7_init_164 : ey FX7 ini rt fin K0 K (decode cX7_init 164) 164 L (st) h cs ss = (K0 164 L st h cs ss) := by
  rw [dX7_init_164, ey_ok, nx_newarray_76]
theorem qX7_init_166 : ey FX7 ini rt fin K0 K (decode cX7_init 166) 166 L (v :: .ref a :: r) h cs ss = (h.1 a = some (.inl 7) ∧ okv (.array .int) v ∧ (true = true → ini = some 7) ∧ K 169 L r (h.1, hup h.2 a 29 v) cs ss) := by
  rw [dX7_init_166, ey_ok, nx_putfield_55]
  exact and_l rfl
theorem qX7_init_169 : ey FX7 ini rt fin K0 K (decode cX7_init 169) 169 L (st) h cs ss = (lhas L 0 ∧ isRf (lgt L 0) ∧ K 170 L (lgt L 0 :: st) h cs ss) := by
  rw [dX7_init_169, ey_ok, nx_aload_n_3] <;> rfl
theorem qX7_init_170 : ey FX7 ini rt fin K0 K (decode cX7_init 170) 170 L (st) h cs ss = (K 172 L (.int 40 :: st) h cs ss) := by
  rw [dX7_init_170, ey_ok, nx_bipush_12] <;> rfl
theorem qX7_init_172 : ey FX7 ini rt fin K0 K (decode cX7_init 172) 172 L (st) h cs ss = (K0 172 L st h cs ss) := by
  rw [dX7_init_172, ey_ok, nx_newarray_76]
theorem qX7_init_174 : ey FX7 ini rt fin K0 K (decode cX7_init 174) 174 L (v :: .ref a :: r) h cs ss = (h.1 a = some (.inl 7) ∧ okv (.array .int) v ∧ (true = true → ini = some 7) ∧ K 177 L r (h.1, hup h.2 a 30 v) cs ss) := by
  rw [dX7_init_174, ey_ok, nx_putfield_55]
  exact and_l rfl
theorem qX7_init_177 : ey FX7 ini rt fin K0 K (decode cX7_init 177) 177 L (st) h cs ss = (lhas L 0 ∧ isRf (lgt L 0) ∧ K 178 L (lgt L 0 :: st) h cs ss) := by
  rw [dX7_init_177, ey_ok, nx_aload_n_3] <;> rfl
theorem qX7_init_178 : ey FX7 ini rt fin K0 K (decode cX7_init 178) 178 L (st) h cs ss = (K 180 L (.int 40 :: st) h cs ss) := by
  rw [dX7_init_178, ey_ok, nx_bipush_12] <;> rfl
theorem qX7_init_180 : ey FX7 ini rt fin K0 K (decode cX7_init 180) 180 L (st) h cs ss = (K0 180 L st h cs ss) := by
  rw [dX7_init_180, ey_ok, nx_newarray_76]
theorem qX7_init_182 : ey FX7 ini rt fin K0 K (decode cX7_init 182) 182 L (v :: .ref a :: r) h cs ss = (h.1 a = some (.inl 7) ∧ okv (.array .boolean) v ∧ (true = true → ini = some 7) ∧ K 185 L r (h.1, hup h.2 a 31 v) cs ss) := by
  rw [dX7_init_182, ey_ok, nx_putfield_55]
  exact and_l rfl
theorem qX7_init_185 : ey FX7 ini rt fin K0 K (decode cX7_init 185) 185 L (st) h cs ss = (lhas L 0 ∧ isRf (lgt L 0) ∧ K 186 L (lgt L 0 :: st) h cs ss) := by
  rw [dX7_init_185, ey_ok, nx_aload_n_3] <;> rfl
theorem qX7_init_186 : ey FX7 ini rt fin K0 K (decode cX7_init 186) 186 L (st) h cs ss = (K 188 L (.int 8 :: st) h cs ss) := by
  rw [dX7_init_186, ey_ok, nx_bipush_12] <;> rfl
theorem qX7_init_188 : ey FX7 ini rt fin K0 K (decode cX7_init 188) 188 L (st) h cs ss = (K0 188 L st h cs ss) := by
  rw [dX7_init_188, ey_ok, nx_newarray_76]
theorem qX7_init_190 : ey FX7 ini rt fin K0 K (decode cX7_init 190) 190 L (v :: .ref a :: r) h cs ss = (h.1 a = some (.inl 7) ∧ okv (.array .int) v ∧ (true = true → ini = some 7) ∧ K 193 L r (h.1, hup h.2 a 33 v) cs ss) := by
  rw [dX7_init_190, ey_ok, nx_putfield_55]
  exact and_l rfl
theorem qX7_init_193 : ey FX7 ini rt fin K0 K (decode cX7_init 193) 193 L (st) h cs ss = (K 194 L (.int 0 :: st) h cs ss) := by
  rw [dX7_init_193, ey_ok, nx_iconst_11] <;> rfl
theorem qX7_init_194 : ey FX7 ini rt fin K0 K (decode cX7_init 194) 194 L (.int x :: r) h cs ss = (1 < L.length ∧ K 195 (L.set 1 (some (.int x))) r h cs ss) := by
  rw [dX7_init_194, ey_ok, nx_istore_n_5] <;> rfl
theorem qX7_init_195 : ey FX7 ini rt fin K0 K (decode cX7_init 195) 195 L (st) h cs ss = (lhas L 1 ∧ isI (lgt L 1) ∧ K 196 L (lgt L 1 :: st) h cs ss) := by
  rw [dX7_init_195, ey_ok, nx_iload_n_1] <;> rfl
theorem qX7_init_196 : ey FX7 ini rt fin K0 K (decode cX7_init 196) 196 L (st) h cs ss = (K 198 L (.int 8 :: st) h cs ss) := by
  rw [dX7_init_196, ey_ok, nx_bipush_12] <;> rfl
theorem qX7_init_198 : ey FX7 ini rt fin K0 K (decode cX7_init 198) 198 L (.int y :: .int x :: r) h cs ss = (if y ≤ x then K 215 L r h cs ss else K 201 L r h cs ss) := by
  rw [dX7_init_198, ey_ok, nx_if_icmp_39]
  exact and_l (by unfold jok; decide)
theorem qX7_init_201 : ey FX7 ini rt fin K0 K (decode cX7_init 201) 201 L (st) h cs ss = (lhas L 0 ∧ isRf (lgt L 0) ∧ K 202 L (lgt L 0 :: st) h cs ss) := by
  rw [dX7_init_201, ey_ok, nx_aload_n_3] <;> rfl
theorem qX7_init_202 : ey FX7 ini rt fin K0 K (decode cX7_init 202) 202 L (.ref a :: r) h cs ss = (h.1 a = some (.inl 7) ∧ K 205 L (h.2 a 2 :: r) h cs ss) := by
  rw [dX7_init_202, ey_ok, nx_getfield_54]
  exact and_l rfl
theorem qX7_init_205 : ey FX7 ini rt fin K0 K (decode cX7_init 205) 205 L (st) h cs ss = (lhas L 1 ∧ isI (lgt L 1) ∧ K 206 L (lgt L 1 :: st) h cs ss) := by
  rw [dX7_init_205, ey_ok, nx_iload_n_1] <;> rfl
theorem qX7_init_206 : ey FX7 ini rt fin K0 K (decode cX7_init 206) 206 L (st) h cs ss = (K 208 L (.int 10 :: st) h cs ss) := by
  rw [dX7_init_206, ey_ok, nx_bipush_12] <;> rfl
theorem qX7_init_208 : ey FX7 ini rt fin K0 K (decode cX7_init 208) 208 L (.int x :: .int i :: .ref a :: r) h cs ss = (isA (h.1 a) (fun k m => k = 0 ∧ vp_in i m) ∧ K 209 L r (h.1, hup h.2 a i.toNatClampNeg (.int x)) cs ss) := by
  rw [dX7_init_208, ey_ok, nx_iastore_62]
theorem qX7_init_209 : ey FX7 ini rt fin K0 K (decode cX7_init 209) 209 L (st) h cs ss = (lhas L 1 ∧ isI (lgt L 1) ∧ K 212 (L.set 1 (some (inc (lgt L 1) 1))) st h cs ss) := by
  rw [dX7_init_209, ey_ok, nx_iinc_10] <;> rfl
theorem qX7_init_212 : ey FX7 ini rt fin K0 K (decode cX7_init 212) 212 L (st) h cs ss = (K 195 L st h cs ss) := by
  rw [dX7_init_212, ey_ok, nx_goto_29]
  exact and_l (by unfold jok; decide)
theorem qX7_init_215 : ey FX7 ini rt fin K0 K (decode cX7_init 215) 215 L ([]) h cs ss = (rt = none ∧ fin none h cs ss) := by
  rw [dX7_init_215, ey_ok, nx_return__71]
theorem qX7_thrown_0 : ey FX7 ini rt fin K0 K (decode cX7_thrown 0) 0 L (st) h cs ss = (lhas L 0 ∧ isRf (lgt L 0) ∧ K 1 L (lgt L 0 :: st) h cs ss) := by
  rw [dX7_thrown_0, ey_ok, nx_aload_n_3] <;> rfl
theorem qX7_thrown_1 : ey FX7 ini rt fin K0 K (decode cX7_thrown 1) 1 L (.ref a :: r) h cs ss = (h.1 a = some (.inl 7) ∧ K 4 L (h.2 a 34 :: r) h cs ss) := by
  rw [dX7_thrown_1, ey_ok, nx_getfield_54]
  exact and_l rfl
theorem qX7_thrown_4 : ey FX7 ini rt fin K0 K (decode cX7_thrown 4) 4 L ([.int x]) h cs ss = (rokI rt x ∧ fin (some (.int x)) h cs ss) := by
  rw [dX7_thrown_4, ey_ok, nx_ireturn_68]
theorem qX7_may_0 : ey FX7 ini rt fin K0 K (decode cX7_may 0) 0 L (st) h cs ss = (lhas L 0 ∧ isRf (lgt L 0) ∧ K 1 L (lgt L 0 :: st) h cs ss) := by
  rw [dX7_may_0, ey_ok, nx_aload_n_3] <;> rfl
theorem qX7_may_1 : ey FX7 ini rt fin K0 K (decode cX7_may 1) 1 L (st) h cs ss = (lhas L 1 ∧ isI (lgt L 1) ∧ K 2 L (lgt L 1 :: st) h cs ss) := by
  rw [dX7_may_1, ey_ok, nx_iload_n_1] <;> rfl
theorem qX7_may_2 : ey FX7 ini rt fin K0 K (decode cX7_may 2) 2 L (.int x :: r) h cs ss = (if x = 0 then K 9 L r h cs ss else K 5 L r h cs ss) := by
  rw [dX7_may_2, ey_ok, nx_ifond_30]
  exact and_l (by unfold jok; decide)
theorem qX7_may_5 : ey FX7 ini rt fin K0 K (decode cX7_may 5) 5 L (st) h cs ss = (K 6 L (.int 0 :: st) h cs ss) := by
  rw [dX7_may_5, ey_ok, nx_iconst_11] <;> rfl
theorem qX7_may_6 : ey FX7 ini rt fin K0 K (decode cX7_may 6) 6 L (st) h cs ss = (K 10 L st h cs ss) := by
  rw [dX7_may_6, ey_ok, nx_goto_29]
  exact and_l (by unfold jok; decide)
theorem qX7_may_9 : ey FX7 ini rt fin K0 K (decode cX7_may 9) 9 L (st) h cs ss = (K 10 L (.int 1 :: st) h cs ss) := by
  rw [dX7_may_9, ey_ok, nx_iconst_11] <;> rfl
theorem qX7_may_10 : ey FX7 ini rt fin K0 K (decode cX7_may 10) 10 L (v :: .ref a :: r) h cs ss = (h.1 a = some (.inl 7) ∧ okv (.int) v ∧ K 13 L r (h.1, hup h.2 a 34 v) cs ss) := by
  rw [dX7_may_10, ey_ok, nx_putfield_55]
  exact (and_l rfl).trans (and_m (fun z => nomatch z))
theorem qX7_may_13 : ey FX7 ini rt fin K0 K (decode cX7_may 13) 13 L (st) h cs ss = (lhas L 1 ∧ isI (lgt L 1) ∧ K 14 L (lgt L 1 :: st) h cs ss) := by
  rw [dX7_may_13, ey_ok, nx_iload_n_1] <;> rfl
theorem qX7_may_14 : ey FX7 ini rt fin K0 K (decode cX7_may 14) 14 L ([.int x]) h cs ss = (rokI rt x ∧ fin (some (.int x)) h cs ss) := by
  rw [dX7_may_14, ey_ok, nx_ireturn_68]
theorem qX7_mayBoth_0 : ey FX7 ini rt fin K0 K (decode cX7_mayBoth 0) 0 L (st) h cs ss = (lhas L 0 ∧ isRf (lgt L 0) ∧ K 1 L (lgt L 0 :: st) h cs ss) := by
  rw [dX7_mayBoth_0, ey_ok, nx_aload_n_3] <;> rfl
theorem qX7_mayBoth_1 : ey FX7 ini rt fin K0 K (decode cX7_mayBoth 1) 1 L (st) h cs ss = (lhas L 1 ∧ isI (lgt L 1) ∧ K 2 L (lgt L 1 :: st) h cs ss) := by
  rw [dX7_mayBoth_1, ey_ok, nx_iload_n_1] <;> rfl
theorem qX7_mayBoth_2 : ey FX7 ini rt fin K0 K (decode cX7_mayBoth 2) 2 L (.int x :: r) h cs ss = (if ¬ x = 0 then K 9 L r h cs ss else K 5 L r h cs ss) := by
  rw [dX7_mayBoth_2, ey_ok, nx_ifond_31]
  exact and_l (by unfold jok; decide)
theorem qX7_mayBoth_5 : ey FX7 ini rt fin K0 K (decode cX7_mayBoth 5) 5 L (st) h cs ss = (K 6 L (.int 1 :: st) h cs ss) := by
  rw [dX7_mayBoth_5, ey_ok, nx_iconst_11] <;> rfl
theorem qX7_mayBoth_6 : ey FX7 ini rt fin K0 K (decode cX7_mayBoth 6) 6 L (st) h cs ss = (K 18 L st h cs ss) := by
  rw [dX7_mayBoth_6, ey_ok, nx_goto_29]
  exact and_l (by unfold jok; decide)
theorem qX7_mayBoth_9 : ey FX7 ini rt fin K0 K (decode cX7_mayBoth 9) 9 L (st) h cs ss = (lhas L 2 ∧ isI (lgt L 2) ∧ K 10 L (lgt L 2 :: st) h cs ss) := by
  rw [dX7_mayBoth_9, ey_ok, nx_iload_n_1] <;> rfl
theorem qX7_mayBoth_10 : ey FX7 ini rt fin K0 K (decode cX7_mayBoth 10) 10 L (.int x :: r) h cs ss = (if ¬ x = 0 then K 17 L r h cs ss else K 13 L r h cs ss) := by
  rw [dX7_mayBoth_10, ey_ok, nx_ifond_31]
  exact and_l (by unfold jok; decide)
theorem qX7_mayBoth_13 : ey FX7 ini rt fin K0 K (decode cX7_mayBoth 13) 13 L (st) h cs ss = (K 14 L (.int 2 :: st) h cs ss) := by
  rw [dX7_mayBoth_13, ey_ok, nx_iconst_11] <;> rfl
theorem qX7_mayBoth_14 : ey FX7 ini rt fin K0 K (decode cX7_mayBoth 14) 14 L (st) h cs ss = (K 18 L st h cs ss) := by
  rw [dX7_mayBoth_14, ey_ok, nx_goto_29]
  exact and_l (by unfold jok; decide)
theorem qX7_mayBoth_17 : ey FX7 ini rt fin K0 K (decode cX7_mayBoth 17) 17 L (st) h cs ss = (K 18 L (.int 0 :: st) h cs ss) := by
  rw [dX7_mayBoth_17, ey_ok, nx_iconst_11] <;> rfl
theorem qX7_mayBoth_18 : ey FX7 ini rt fin K0 K (decode cX7_mayBoth 18) 18 L (v :: .ref a :: r) h cs ss = (h.1 a = some (.inl 7) ∧ okv (.int) v ∧ K 21 L r (h.1, hup h.2 a 34 v) cs ss) := by
  rw [dX7_mayBoth_18, ey_ok, nx_putfield_55]
  exact (and_l rfl).trans (and_m (fun z => nomatch z))
theorem qX7_mayBoth_21 : ey FX7 ini rt fin K0 K (decode cX7_mayBoth 21) 21 L (st) h cs ss = (lhas L 0 ∧ isRf (lgt L 0) ∧ K 22 L (lgt L 0 :: st) h cs ss) := by
  rw [dX7_mayBoth_21, ey_ok, nx_aload_n_3] <;> rfl
theorem qX7_mayBoth_22 : ey FX7 ini rt fin K0 K (decode cX7_mayBoth 22) 22 L (.ref a :: r) h cs ss = (h.1 a = some (.inl 7) ∧ K 25 L (h.2 a 34 :: r) h cs ss) := by
  rw [dX7_mayBoth_22, ey_ok, nx_getfield_54]
  exact and_l rfl
theorem qX7_mayBoth_25 : ey FX7 ini rt fin K0 K (decode cX7_mayBoth 25) 25 L (.int x :: r) h cs ss = (if ¬ x = 0 then K 32 L r h cs ss else K 28 L r h cs ss) := by
  rw [dX7_mayBoth_25, ey_ok, nx_ifond_31]
  exact and_l (by unfold jok; decide)
theorem qX7_mayBoth_28 : ey FX7 ini rt fin K0 K (decode cX7_mayBoth 28) 28 L (st) h cs ss = (K 29 L (.int 1 :: st) h cs ss) := by
  rw [dX7_mayBoth_28, ey_ok, nx_iconst_11] <;> rfl
theorem qX7_mayBoth_29 : ey FX7 ini rt fin K0 K (decode cX7_mayBoth 29) 29 L (st) h cs ss = (K 33 L st h cs ss) := by
  rw [dX7_mayBoth_29, ey_ok, nx_goto_29]
  exact and_l (by unfold jok; decide)
theorem qX7_mayBoth_32 : ey FX7 ini rt fin K0 K (decode cX7_mayBoth 32) 32 L (st) h cs ss = (K 33 L (.int 0 :: st) h cs ss) := by
  rw [dX7_mayBoth_32, ey_ok, nx_iconst_11] <;> rfl
theorem qX7_mayBoth_33 : ey FX7 ini rt fin K0 K (decode cX7_mayBoth 33) 33 L ([.int x]) h cs ss = (rokI rt x ∧ fin (some (.int x)) h cs ss) := by
  rw [dX7_mayBoth_33, ey_ok, nx_ireturn_68]
theorem qX7_mayAll_0 : ey FX7 ini rt fin K0 K (decode cX7_mayAll 0) 0 L (st) h cs ss = (lhas L 0 ∧ isRf (lgt L 0) ∧ K 1 L (lgt L 0 :: st) h cs ss) := by
  rw [dX7_mayAll_0, ey_ok, nx_aload_n_3] <;> rfl
theorem qX7_mayAll_1 : ey FX7 ini rt fin K0 K (decode cX7_mayAll 1) 1 L (st) h cs ss = (lhas L 1 ∧ isI (lgt L 1) ∧ K 2 L (lgt L 1 :: st) h cs ss) := by
  rw [dX7_mayAll_1, ey_ok, nx_iload_n_1] <;> rfl
theorem qX7_mayAll_2 : ey FX7 ini rt fin K0 K (decode cX7_mayAll 2) 2 L (.int x :: r) h cs ss = (if ¬ x = 0 then K 9 L r h cs ss else K 5 L r h cs ss) := by
  rw [dX7_mayAll_2, ey_ok, nx_ifond_31]
  exact and_l (by unfold jok; decide)
theorem qX7_mayAll_5 : ey FX7 ini rt fin K0 K (decode cX7_mayAll 5) 5 L (st) h cs ss = (K 6 L (.int 1 :: st) h cs ss) := by
  rw [dX7_mayAll_5, ey_ok, nx_iconst_11] <;> rfl
theorem qX7_mayAll_6 : ey FX7 ini rt fin K0 K (decode cX7_mayAll 6) 6 L (st) h cs ss = (K 26 L st h cs ss) := by
  rw [dX7_mayAll_6, ey_ok, nx_goto_29]
  exact and_l (by unfold jok; decide)
theorem qX7_mayAll_9 : ey FX7 ini rt fin K0 K (decode cX7_mayAll 9) 9 L (st) h cs ss = (lhas L 2 ∧ isI (lgt L 2) ∧ K 10 L (lgt L 2 :: st) h cs ss) := by
  rw [dX7_mayAll_9, ey_ok, nx_iload_n_1] <;> rfl
theorem qX7_mayAll_10 : ey FX7 ini rt fin K0 K (decode cX7_mayAll 10) 10 L (.int x :: r) h cs ss = (if ¬ x = 0 then K 17 L r h cs ss else K 13 L r h cs ss) := by
  rw [dX7_mayAll_10, ey_ok, nx_ifond_31]
  exact and_l (by unfold jok; decide)
theorem qX7_mayAll_13 : ey FX7 ini rt fin K0 K (decode cX7_mayAll 13) 13 L (st) h cs ss = (K 14 L (.int 2 :: st) h cs ss) := by
  rw [dX7_mayAll_13, ey_ok, nx_iconst_11] <;> rfl
theorem qX7_mayAll_14 : ey FX7 ini rt fin K0 K (decode cX7_mayAll 14) 14 L (st) h cs ss = (K 26 L st h cs ss) := by
  rw [dX7_mayAll_14, ey_ok, nx_goto_29]
  exact and_l (by unfold jok; decide)
theorem qX7_mayAll_17 : ey FX7 ini rt fin K0 K (decode cX7_mayAll 17) 17 L (st) h cs ss = (lhas L 3 ∧ isI (lgt L 3) ∧ K 18 L (lgt L 3 :: st) h cs ss) := by
  rw [dX7_mayAll_17, ey_ok, nx_iload_n_1] <;> rfl
theorem qX7_mayAll_18 : ey FX7 ini rt fin K0 K (decode cX7_mayAll 18) 18 L (.int x :: r) h cs ss = (if ¬ x = 0 then K 25 L r h cs ss else K 21 L r h cs ss) := by
  rw [dX7_mayAll_18, ey_ok, nx_ifond_31]
  exact and_l (by unfold jok; decide)
theorem qX7_mayAll_21 : ey FX7 ini rt fin K0 K (decode cX7_mayAll 21) 21 L (st) h cs ss = (K 22 L (.int 3 :: st) h cs ss) := by
  rw [dX7_mayAll_21, ey_ok, nx_iconst_11] <;> rfl
theorem qX7_mayAll_22 : ey FX7 ini rt fin K0 K (decode cX7_mayAll 22) 22 L (st) h cs ss = (K 26 L st h cs ss) := by
  rw [dX7_mayAll_22, ey_ok, nx_goto_29]
  exact and_l (by unfold jok; decide)
theorem qX7_mayAll_25 : ey FX7 ini rt fin K0 K (decode cX7_mayAll 25) 25 L (st) h cs ss = (K 26 L (.int 0 :: st) h cs ss) := by
  rw [dX7_mayAll_25, ey_ok, nx_iconst_11] <;> rfl
theorem qX7_mayAll_26 : ey FX7 ini rt fin K0 K (decode cX7_mayAll 26) 26 L (v :: .ref a :: r) h cs ss = (h.1 a = some (.inl 7) ∧ okv (.int) v ∧ K 29 L r (h.1, hup h.2 a 34 v) cs ss) := by
  rw [dX7_mayAll_26, ey_ok, nx_putfield_55]
  exact (and_l rfl).trans (and_m (fun z => nomatch z))
theorem qX7_mayAll_29 : ey FX7 ini rt fin K0 K (decode cX7_mayAll 29) 29 L (st) h cs ss = (lhas L 0 ∧ isRf (lgt L 0) ∧ K 30 L (lgt L 0 :: st) h cs ss) := by
  rw [dX7_mayAll_29, ey_ok, nx_aload_n_3] <;> rfl
theorem qX7_mayAll_30 : ey FX7 ini rt fin K0 K (decode cX7_mayAll 30) 30 L (.ref a :: r) h cs ss = (h.1 a = some (.inl 7) ∧ K 33 L (h.2 a 34 :: r) h cs ss) := by
  rw [dX7_mayAll_30, ey_ok, nx_getfield_54]
  exact and_l rfl
theorem qX7_mayAll_33 : ey FX7 ini rt fin K0 K (decode cX7_mayAll 33) 33 L (.int x :: r) h cs ss = (if ¬ x = 0 then K 40 L r h cs ss else K 36 L r h cs ss) := by
  rw [dX7_mayAll_33, ey_ok, nx_ifond_31]
  exact and_l (by unfold jok; decide)
theorem qX7_mayAll_36 : ey FX7 ini rt fin K0 K (decode cX7_mayAll 36) 36 L (st) h cs ss = (K 37 L (.int 1 :: st) h cs ss) := by
  rw [dX7_mayAll_36, ey_ok, nx_iconst_11] <;> rfl
theorem qX7_mayAll_37 : ey FX7 ini rt fin K0 K (decode cX7_mayAll 37) 37 L (st) h cs ss = (K 41 L st h cs ss) := by
  rw [dX7_mayAll_37, ey_ok, nx_goto_29]
  exact and_l (by unfold jok; decide)
theorem qX7_mayAll_40 : ey FX7 ini rt fin K0 K (decode cX7_mayAll 40) 40 L (st) h cs ss = (K 41 L (.int 0 :: st) h cs ss) := by
  rw [dX7_mayAll_40, ey_ok, nx_iconst_11] <;> rfl
theorem qX7_mayAll_41 : ey FX7 ini rt fin K0 K (decode cX7_mayAll 41) 41 L ([.int x]) h cs ss = (rokI rt x ∧ fin (some (.int x)) h cs ss) := by
  rw [dX7_mayAll_41, ey_ok, nx_ireturn_68]
theorem qX7_isIn_0 : ey FX7 ini rt fin K0 K (decode cX7_isIn 0) 0 L (st) h cs ss = (lhas L 0 ∧ isI (lgt L 0) ∧ K 1 L (lgt L 0 :: st) h cs ss) := by
  rw [dX7_isIn_0, ey_ok, nx_iload_n_1] <;> rfl
theorem qX7_isIn_1 : ey FX7 ini rt fin K0 K (decode cX7_isIn 1) 1 L (st) h cs ss = (lhas L 1 ∧ isI (lgt L 1) ∧ K 2 L (lgt L 1 :: st) h cs ss) := by
  rw [dX7_isIn_1, ey_ok, nx_iload_n_1] <;> rfl
theorem qX7_isIn_2 : ey FX7 ini rt fin K0 K (decode cX7_isIn 2) 2 L (.int y :: .int x :: r) h cs ss = (if x < y then K 14 L r h cs ss else K 5 L r h cs ss) := by
  rw [dX7_isIn_2, ey_ok, nx_if_icmp_38]
  exact and_l (by unfold jok; decide)
theorem qX7_isIn_5 : ey FX7 ini rt fin K0 K (decode cX7_isIn 5) 5 L (st) h cs ss = (lhas L 0 ∧ isI (lgt L 0) ∧ K 6 L (lgt L 0 :: st) h cs ss) := by
  rw [dX7_isIn_5, ey_ok, nx_iload_n_1] <;> rfl
theorem qX7_isIn_6 : ey FX7 ini rt fin K0 K (decode cX7_isIn 6) 6 L (st) h cs ss = (lhas L 2 ∧ isI (lgt L 2) ∧ K 7 L (lgt L 2 :: st) h cs ss) := by
  rw [dX7_isIn_6, ey_ok, nx_iload_n_1] <;> rfl
theorem qX7_isIn_7 : ey FX7 ini rt fin K0 K (decode cX7_isIn 7) 7 L (.int y :: .int x :: r) h cs ss = (if y < x then K 14 L r h cs ss else K 10 L r h cs ss) := by
  rw [dX7_isIn_7, ey_ok, nx_if_icmp_40]
  exact and_l (by unfold jok; decide)
theorem qX7_isIn_10 : ey FX7 ini rt fin K0 K (decode cX7_isIn 10) 10 L (st) h cs ss = (K 11 L (.int 1 :: st) h cs ss) := by
  rw [dX7_isIn_10, ey_ok, nx_iconst_11] <;> rfl
theorem qX7_isIn_11 : ey FX7 ini rt fin K0 K (decode cX7_isIn 11) 11 L (st) h cs ss = (K 15 L st h cs ss) := by
  rw [dX7_isIn_11, ey_ok, nx_goto_29]
  exact and_l (by unfold jok; decide)
theorem qX7_isIn_14 : ey FX7 ini rt fin K0 K (decode cX7_isIn 14) 14 L (st) h cs ss = (K 15 L (.int 0 :: st) h cs ss) := by
  rw [dX7_isIn_14, ey_ok, nx_iconst_11] <;> rfl
theorem qX7_isIn_15 : ey FX7 ini rt fin K0 K (decode cX7_isIn 15) 15 L ([.int x]) h cs ss = (rokI rt x ∧ fin (some (.int x)) h cs ss) := by
  rw [dX7_isIn_15, ey_ok, nx_ireturn_68]
theorem qX7_isWorker_0 : ey FX7 ini rt fin K0 K (decode cX7_isWorker 0) 0 L (st) h cs ss = (lhas L 0 ∧ isI (lgt L 0) ∧ K 1 L (lgt L 0 :: st) h cs ss) := by
  rw [dX7_isWorker_0, ey_ok, nx_iload_n_1] <;> rfl
theorem qX7_isWorker_1 : ey FX7 ini rt fin K0 K (decode cX7_isWorker 1) 1 L (st) h cs ss = (K 2 L (.int 0 :: st) h cs ss) := by
  rw [dX7_isWorker_1, ey_ok, nx_iconst_11] <;> rfl
theorem qX7_isWorker_2 : ey FX7 ini rt fin K0 K (decode cX7_isWorker 2) 2 L (st) h cs ss = (K 4 L (.int 7 :: st) h cs ss) := by
  rw [dX7_isWorker_2, ey_ok, nx_bipush_12] <;> rfl
theorem qX7_isWorker_4 : ey FX7 ini rt fin K0 K (decode cX7_isWorker 4) 4 L (st) h cs ss = (K0 4 L st h cs ss) := by
  rw [dX7_isWorker_4, ey_ok, nx_invokestatic_73]
theorem qX7_isWorker_7 : ey FX7 ini rt fin K0 K (decode cX7_isWorker 7) 7 L ([.int x]) h cs ss = (rokI rt x ∧ fin (some (.int x)) h cs ss) := by
  rw [dX7_isWorker_7, ey_ok, nx_ireturn_68]
theorem qX7_isShift_0 : ey FX7 ini rt fin K0 K (decode cX7_isShift 0) 0 L (st) h cs ss = (lhas L 1 ∧ isI (lgt L 1) ∧ K 1 L (lgt L 1 :: st) h cs ss) := by
  rw [dX7_isShift_0, ey_ok, nx_iload_n_1] <;> rfl
theorem qX7_isShift_1 : ey FX7 ini rt fin K0 K (decode cX7_isShift 1) 1 L (st) h cs ss = (K 2 L (.int 0 :: st) h cs ss) := by
  rw [dX7_isShift_1, ey_ok, nx_iconst_11] <;> rfl
theorem qX7_isShift_2 : ey FX7 ini rt fin K0 K (decode cX7_isShift 2) 2 L (st) h cs ss = (lhas L 0 ∧ isRf (lgt L 0) ∧ K 3 L (lgt L 0 :: st) h cs ss) := by
  rw [dX7_isShift_2, ey_ok, nx_aload_n_3] <;> rfl
theorem qX7_isShift_3 : ey FX7 ini rt fin K0 K (decode cX7_isShift 3) 3 L (.ref a :: r) h cs ss = (h.1 a = some (.inl 7) ∧ K 6 L (h.2 a 3 :: r) h cs ss) := by
  rw [dX7_isShift_3, ey_ok, nx_getfield_54]
  exact and_l rfl
theorem qX7_isShift_6 : ey FX7 ini rt fin K0 K (decode cX7_isShift 6) 6 L (st) h cs ss = (K 7 L (.int 1 :: st) h cs ss) := by
  rw [dX7_isShift_6, ey_ok, nx_iconst_11] <;> rfl
theorem qX7_isShift_7 : ey FX7 ini rt fin K0 K (decode cX7_isShift 7) 7 L (.int y :: .int x :: r) h cs ss = (K 8 L (.int (x - y) :: r) h cs ss) := by
  rw [dX7_isShift_7, ey_ok, nx_isub_17]
theorem qX7_isShift_8 : ey FX7 ini rt fin K0 K (decode cX7_isShift 8) 8 L (st) h cs ss = (K0 8 L st h cs ss) := by
  rw [dX7_isShift_8, ey_ok, nx_invokestatic_73]
theorem qX7_isShift_11 : ey FX7 ini rt fin K0 K (decode cX7_isShift 11) 11 L ([.int x]) h cs ss = (rokI rt x ∧ fin (some (.int x)) h cs ss) := by
  rw [dX7_isShift_11, ey_ok, nx_ireturn_68]
theorem qX7_isRule_0 : ey FX7 ini rt fin K0 K (decode cX7_isRule 0) 0 L (st) h cs ss = (lhas L 1 ∧ isI (lgt L 1) ∧ K 1 L (lgt L 1 :: st) h cs ss) := by
  rw [dX7_isRule_0, ey_ok, nx_iload_n_1] <;> rfl
theorem qX7_isRule_1 : ey FX7 ini rt fin K0 K (decode cX7_isRule 1) 1 L (st) h cs ss = (K 2 L (.int 0 :: st) h cs ss) := by
  rw [dX7_isRule_1, ey_ok, nx_iconst_11] <;> rfl
theorem qX7_isRule_2 : ey FX7 ini rt fin K0 K (decode cX7_isRule 2) 2 L (st) h cs ss = (lhas L 0 ∧ isRf (lgt L 0) ∧ K 3 L (lgt L 0 :: st) h cs ss) := by
  rw [dX7_isRule_2, ey_ok, nx_aload_n_3] <;> rfl
theorem qX7_isRule_3 : ey FX7 ini rt fin K0 K (decode cX7_isRule 3) 3 L (.ref a :: r) h cs ss = (h.1 a = some (.inl 7) ∧ K 6 L (h.2 a 16 :: r) h cs ss) := by
  rw [dX7_isRule_3, ey_ok, nx_getfield_54]
  exact and_l rfl
theorem qX7_isRule_6 : ey FX7 ini rt fin K0 K (decode cX7_isRule 6) 6 L (st) h cs ss = (K 7 L (.int 1 :: st) h cs ss) := by
  rw [dX7_isRule_6, ey_ok, nx_iconst_11] <;> rfl
theorem qX7_isRule_7 : ey FX7 ini rt fin K0 K (decode cX7_isRule 7) 7 L (.int y :: .int x :: r) h cs ss = (K 8 L (.int (x - y) :: r) h cs ss) := by
  rw [dX7_isRule_7, ey_ok, nx_isub_17]
theorem qX7_isRule_8 : ey FX7 ini rt fin K0 K (decode cX7_isRule 8) 8 L (st) h cs ss = (K0 8 L st h cs ss) := by
  rw [dX7_isRule_8, ey_ok, nx_invokestatic_73]
theorem qX7_isRule_11 : ey FX7 ini rt fin K0 K (decode cX7_isRule 11) 11 L ([.int x]) h cs ss = (rokI rt x ∧ fin (some (.int x)) h cs ss) := by
  rw [dX7_isRule_11, ey_ok, nx_ireturn_68]
theorem qX7_isClaim_0 : ey FX7 ini rt fin K0 K (decode cX7_isClaim 0) 0 L (st) h cs ss = (lhas L 1 ∧ isI (lgt L 1) ∧ K 1 L (lgt L 1 :: st) h cs ss) := by
  rw [dX7_isClaim_0, ey_ok, nx_iload_n_1] <;> rfl
theorem qX7_isClaim_1 : ey FX7 ini rt fin K0 K (decode cX7_isClaim 1) 1 L (st) h cs ss = (K 2 L (.int 0 :: st) h cs ss) := by
  rw [dX7_isClaim_1, ey_ok, nx_iconst_11] <;> rfl
theorem qX7_isClaim_2 : ey FX7 ini rt fin K0 K (decode cX7_isClaim 2) 2 L (st) h cs ss = (lhas L 0 ∧ isRf (lgt L 0) ∧ K 3 L (lgt L 0 :: st) h cs ss) := by
  rw [dX7_isClaim_2, ey_ok, nx_aload_n_3] <;> rfl
theorem qX7_isClaim_3 : ey FX7 ini rt fin K0 K (decode cX7_isClaim 3) 3 L (.ref a :: r) h cs ss = (h.1 a = some (.inl 7) ∧ K 6 L (h.2 a 22 :: r) h cs ss) := by
  rw [dX7_isClaim_3, ey_ok, nx_getfield_54]
  exact and_l rfl
theorem qX7_isClaim_6 : ey FX7 ini rt fin K0 K (decode cX7_isClaim 6) 6 L (st) h cs ss = (K 7 L (.int 1 :: st) h cs ss) := by
  rw [dX7_isClaim_6, ey_ok, nx_iconst_11] <;> rfl
theorem qX7_isClaim_7 : ey FX7 ini rt fin K0 K (decode cX7_isClaim 7) 7 L (.int y :: .int x :: r) h cs ss = (K 8 L (.int (x - y) :: r) h cs ss) := by
  rw [dX7_isClaim_7, ey_ok, nx_isub_17]
theorem qX7_isClaim_8 : ey FX7 ini rt fin K0 K (decode cX7_isClaim 8) 8 L (st) h cs ss = (K0 8 L st h cs ss) := by
  rw [dX7_isClaim_8, ey_ok, nx_invokestatic_73]
theorem qX7_isClaim_11 : ey FX7 ini rt fin K0 K (decode cX7_isClaim 11) 11 L ([.int x]) h cs ss = (rokI rt x ∧ fin (some (.int x)) h cs ss) := by
  rw [dX7_isClaim_11, ey_ok, nx_ireturn_68]
theorem qX7_isOffer_0 : ey FX7 ini rt fin K0 K (decode cX7_isOffer 0) 0 L (st) h cs ss = (lhas L 1 ∧ isI (lgt L 1) ∧ K 1 L (lgt L 1 :: st) h cs ss) := by
  rw [dX7_isOffer_0, ey_ok, nx_iload_n_1] <;> rfl
theorem qX7_isOffer_1 : ey FX7 ini rt fin K0 K (decode cX7_isOffer 1) 1 L (st) h cs ss = (K 2 L (.int 0 :: st) h cs ss) := by
  rw [dX7_isOffer_1, ey_ok, nx_iconst_11] <;> rfl
theorem qX7_isOffer_2 : ey FX7 ini rt fin K0 K (decode cX7_isOffer 2) 2 L (st) h cs ss = (lhas L 0 ∧ isRf (lgt L 0) ∧ K 3 L (lgt L 0 :: st) h cs ss) := by
  rw [dX7_isOffer_2, ey_ok, nx_aload_n_3] <;> rfl
theorem qX7_isOffer_3 : ey FX7 ini rt fin K0 K (decode cX7_isOffer 3) 3 L (.ref a :: r) h cs ss = (h.1 a = some (.inl 7) ∧ K 6 L (h.2 a 28 :: r) h cs ss) := by
  rw [dX7_isOffer_3, ey_ok, nx_getfield_54]
  exact and_l rfl
theorem qX7_isOffer_6 : ey FX7 ini rt fin K0 K (decode cX7_isOffer 6) 6 L (st) h cs ss = (K 7 L (.int 1 :: st) h cs ss) := by
  rw [dX7_isOffer_6, ey_ok, nx_iconst_11] <;> rfl
theorem qX7_isOffer_7 : ey FX7 ini rt fin K0 K (decode cX7_isOffer 7) 7 L (.int y :: .int x :: r) h cs ss = (K 8 L (.int (x - y) :: r) h cs ss) := by
  rw [dX7_isOffer_7, ey_ok, nx_isub_17]
theorem qX7_isOffer_8 : ey FX7 ini rt fin K0 K (decode cX7_isOffer 8) 8 L (st) h cs ss = (K0 8 L st h cs ss) := by
  rw [dX7_isOffer_8, ey_ok, nx_invokestatic_73]
theorem qX7_isOffer_11 : ey FX7 ini rt fin K0 K (decode cX7_isOffer 11) 11 L ([.int x]) h cs ss = (rokI rt x ∧ fin (some (.int x)) h cs ss) := by
  rw [dX7_isOffer_11, ey_ok, nx_ireturn_68]
theorem qX7_pass_0 : ey FX7 ini rt fin K0 K (decode cX7_pass 0) 0 L (st) h cs ss = (lhas L 1 ∧ isI (lgt L 1) ∧ K 1 L (lgt L 1 :: st) h cs ss) := by
  rw [dX7_pass_0, ey_ok, nx_iload_n_1] <;> rfl
theorem qX7_pass_1 : ey FX7 ini rt fin K0 K (decode cX7_pass 1) 1 L (st) h cs ss = (K 2 L (.int 1 :: st) h cs ss) := by
  rw [dX7_pass_1, ey_ok, nx_iconst_11] <;> rfl
theorem qX7_pass_2 : ey FX7 ini rt fin K0 K (decode cX7_pass 2) 2 L (st) h cs ss = (K 5 L (.int 200 :: st) h cs ss) := by
  rw [dX7_pass_2, ey_ok, nx_sipush_13] <;> rfl
theorem qX7_pass_5 : ey FX7 ini rt fin K0 K (decode cX7_pass 5) 5 L (st) h cs ss = (K0 5 L st h cs ss) := by
  rw [dX7_pass_5, ey_ok, nx_invokestatic_73]
theorem qX7_pass_8 : ey FX7 ini rt fin K0 K (decode cX7_pass 8) 8 L (.int x :: r) h cs ss = (2 < L.length ∧ K 9 (L.set 2 (some (.int x))) r h cs ss) := by
  rw [dX7_pass_8, ey_ok, nx_istore_n_5] <;> rfl
theorem qX7_pass_9 : ey FX7 ini rt fin K0 K (decode cX7_pass 9) 9 L (st) h cs ss = (lhas L 0 ∧ isRf (lgt L 0) ∧ K 10 L (lgt L 0 :: st) h cs ss) := by
  rw [dX7_pass_9, ey_ok, nx_aload_n_3] <;> rfl
theorem qX7_pass_10 : ey FX7 ini rt fin K0 K (decode cX7_pass 10) 10 L (st) h cs ss = (lhas L 2 ∧ isI (lgt L 2) ∧ K 11 L (lgt L 2 :: st) h cs ss) := by
  rw [dX7_pass_10, ey_ok, nx_iload_n_1] <;> rfl
theorem qX7_pass_11 : ey FX7 ini rt fin K0 K (decode cX7_pass 11) 11 L (st) h cs ss = (lhas L 2 ∧ isI (lgt L 2) ∧ K 12 L (lgt L 2 :: st) h cs ss) := by
  rw [dX7_pass_11, ey_ok, nx_iload_n_1] <;> rfl
theorem qX7_pass_12 : ey FX7 ini rt fin K0 K (decode cX7_pass 12) 12 L (.int x :: r) h cs ss = (if x = 0 then K 31 L r h cs ss else K 15 L r h cs ss) := by
  rw [dX7_pass_12, ey_ok, nx_ifond_30]
  exact and_l (by unfold jok; decide)
theorem qX7_pass_15 : ey FX7 ini rt fin K0 K (decode cX7_pass 15) 15 L (st) h cs ss = (lhas L 0 ∧ isRf (lgt L 0) ∧ K 16 L (lgt L 0 :: st) h cs ss) := by
  rw [dX7_pass_15, ey_ok, nx_aload_n_3] <;> rfl
theorem qX7_pass_16 : ey FX7 ini rt fin K0 K (decode cX7_pass 16) 16 L (.ref a :: r) h cs ss = (h.1 a = some (.inl 7) ∧ K 19 L (h.2 a 0 :: r) h cs ss) := by
  rw [dX7_pass_16, ey_ok, nx_getfield_54]
  exact and_l rfl
theorem qX7_pass_19 : ey FX7 ini rt fin K0 K (decode cX7_pass 19) 19 L (st) h cs ss = (lhas L 1 ∧ isI (lgt L 1) ∧ K 20 L (lgt L 1 :: st) h cs ss) := by
  rw [dX7_pass_19, ey_ok, nx_iload_n_1] <;> rfl
theorem qX7_pass_20 : ey FX7 ini rt fin K0 K (decode cX7_pass 20) 20 L (.int y :: .int x :: r) h cs ss = (K 21 L (.int (x + y) :: r) h cs ss) := by
  rw [dX7_pass_20, ey_ok, nx_iadd_16]
theorem qX7_pass_21 : ey FX7 ini rt fin K0 K (decode cX7_pass 21) 21 L (st) h cs ss = (K 24 L (.int 2000 :: st) h cs ss) := by
  rw [dX7_pass_21, ey_ok, nx_sipush_13] <;> rfl
theorem qX7_pass_24 : ey FX7 ini rt fin K0 K (decode cX7_pass 24) 24 L (.int y :: .int x :: r) h cs ss = (if y < x then K 31 L r h cs ss else K 27 L r h cs ss) := by
  rw [dX7_pass_24, ey_ok, nx_if_icmp_40]
  exact and_l (by unfold jok; decide)
theorem qX7_pass_27 : ey FX7 ini rt fin K0 K (decode cX7_pass 27) 27 L (st) h cs ss = (K 28 L (.int 1 :: st) h cs ss) := by
  rw [dX7_pass_27, ey_ok, nx_iconst_11] <;> rfl
theorem qX7_pass_28 : ey FX7 ini rt fin K0 K (decode cX7_pass 28) 28 L (st) h cs ss = (K 32 L st h cs ss) := by
  rw [dX7_pass_28, ey_ok, nx_goto_29]
  exact and_l (by unfold jok; decide)
theorem qX7_pass_31 : ey FX7 ini rt fin K0 K (decode cX7_pass 31) 31 L (st) h cs ss = (K 32 L (.int 0 :: st) h cs ss) := by
  rw [dX7_pass_31, ey_ok, nx_iconst_11] <;> rfl
theorem qX7_pass_32 : ey FX7 ini rt fin K0 K (decode cX7_pass 32) 32 L (st) h cs ss = (K0 32 L st h cs ss) := by
  rw [dX7_pass_32, ey_ok, nx_invokevirtual_72]
theorem qX7_pass_35 : ey FX7 ini rt fin K0 K (decode cX7_pass 35) 35 L (.int x :: r) h cs ss = (if ¬ x = 0 then K 40 L r h cs ss else K 38 L r h cs ss) := by
  rw [dX7_pass_35, ey_ok, nx_ifond_31]
  exact and_l (by unfold jok; decide)
theorem qX7_pass_38 : ey FX7 ini rt fin K0 K (decode cX7_pass 38) 38 L (st) h cs ss = (K 39 L (.int 0 :: st) h cs ss) := by
  rw [dX7_pass_38, ey_ok, nx_iconst_11] <;> rfl
theorem qX7_pass_39 : ey FX7 ini rt fin K0 K (decode cX7_pass 39) 39 L ([.int x]) h cs ss = (rokI rt x ∧ fin (some (.int x)) h cs ss) := by
  rw [dX7_pass_39, ey_ok, nx_ireturn_68]
theorem qX7_pass_40 : ey FX7 ini rt fin K0 K (decode cX7_pass 40) 40 L (st) h cs ss = (lhas L 0 ∧ isRf (lgt L 0) ∧ K 41 L (lgt L 0 :: st) h cs ss) := by
  rw [dX7_pass_40, ey_ok, nx_aload_n_3] <;> rfl
theorem qX7_pass_41 : ey FX7 ini rt fin K0 K (decode cX7_pass 41) 41 L (v :: r) h cs ss = (v.category = 1 ∧ K 42 L (v :: v :: r) h cs ss) := by
  rw [dX7_pass_41, ey_ok, nx_dup_27]
theorem qX7_pass_42 : ey FX7 ini rt fin K0 K (decode cX7_pass 42) 42 L (.ref a :: r) h cs ss = (h.1 a = some (.inl 7) ∧ K 45 L (h.2 a 0 :: r) h cs ss) := by
  rw [dX7_pass_42, ey_ok, nx_getfield_54]
  exact and_l rfl
theorem qX7_pass_45 : ey FX7 ini rt fin K0 K (decode cX7_pass 45) 45 L (st) h cs ss = (lhas L 1 ∧ isI (lgt L 1) ∧ K 46 L (lgt L 1 :: st) h cs ss) := by
  rw [dX7_pass_45, ey_ok, nx_iload_n_1] <;> rfl
theorem qX7_pass_46 : ey FX7 ini rt fin K0 K (decode cX7_pass 46) 46 L (.int y :: .int x :: r) h cs ss = (K 47 L (.int (x + y) :: r) h cs ss) := by
  rw [dX7_pass_46, ey_ok, nx_iadd_16]
theorem qX7_pass_47 : ey FX7 ini rt fin K0 K (decode cX7_pass 47) 47 L (v :: .ref a :: r) h cs ss = (h.1 a = some (.inl 7) ∧ okv (.int) v ∧ K 50 L r (h.1, hup h.2 a 0 v) cs ss) := by
  rw [dX7_pass_47, ey_ok, nx_putfield_55]
  exact (and_l rfl).trans (and_m (fun z => nomatch z))
theorem qX7_pass_50 : ey FX7 ini rt fin K0 K (decode cX7_pass 50) 50 L (st) h cs ss = (lhas L 0 ∧ isRf (lgt L 0) ∧ K 51 L (lgt L 0 :: st) h cs ss) := by
  rw [dX7_pass_50, ey_ok, nx_aload_n_3] <;> rfl
theorem qX7_pass_51 : ey FX7 ini rt fin K0 K (decode cX7_pass 51) 51 L (.ref a :: r) h cs ss = (h.1 a = some (.inl 7) ∧ K 54 L (h.2 a 0 :: r) h cs ss) := by
  rw [dX7_pass_51, ey_ok, nx_getfield_54]
  exact and_l rfl
theorem qX7_pass_54 : ey FX7 ini rt fin K0 K (decode cX7_pass 54) 54 L ([.int x]) h cs ss = (rokI rt x ∧ fin (some (.int x)) h cs ss) := by
  rw [dX7_pass_54, ey_ok, nx_ireturn_68]
theorem qX7_worker_0 : ey FX7 ini rt fin K0 K (decode cX7_worker 0) 0 L (st) h cs ss = (lhas L 0 ∧ isRf (lgt L 0) ∧ K 1 L (lgt L 0 :: st) h cs ss) := by
  rw [dX7_worker_0, ey_ok, nx_aload_n_3] <;> rfl
theorem qX7_worker_1 : ey FX7 ini rt fin K0 K (decode cX7_worker 1) 1 L (st) h cs ss = (lhas L 1 ∧ isI (lgt L 1) ∧ K 2 L (lgt L 1 :: st) h cs ss) := by
  rw [dX7_worker_1, ey_ok, nx_iload_n_1] <;> rfl
theorem qX7_worker_2 : ey FX7 ini rt fin K0 K (decode cX7_worker 2) 2 L (st) h cs ss = (K0 2 L st h cs ss) := by
  rw [dX7_worker_2, ey_ok, nx_invokestatic_73]
theorem qX7_worker_5 : ey FX7 ini rt fin K0 K (decode cX7_worker 5) 5 L (st) h cs ss = (lhas L 2 ∧ isI (lgt L 2) ∧ K 6 L (lgt L 2 :: st) h cs ss) := by
  rw [dX7_worker_5, ey_ok, nx_iload_n_1] <;> rfl
theorem qX7_worker_6 : ey FX7 ini rt fin K0 K (decode cX7_worker 6) 6 L (st) h cs ss = (K 7 L (.int 0 :: st) h cs ss) := by
  rw [dX7_worker_6, ey_ok, nx_iconst_11] <;> rfl
theorem qX7_worker_7 : ey FX7 ini rt fin K0 K (decode cX7_worker 7) 7 L (st) h cs ss = (K 9 L (.int 15 :: st) h cs ss) := by
  rw [dX7_worker_7, ey_ok, nx_bipush_12] <;> rfl
theorem qX7_worker_9 : ey FX7 ini rt fin K0 K (decode cX7_worker 9) 9 L (st) h cs ss = (K0 9 L st h cs ss) := by
  rw [dX7_worker_9, ey_ok, nx_invokestatic_73]
theorem qX7_worker_12 : ey FX7 ini rt fin K0 K (decode cX7_worker 12) 12 L (.int x :: r) h cs ss = (if x = 0 then K 30 L r h cs ss else K 15 L r h cs ss) := by
  rw [dX7_worker_12, ey_ok, nx_ifond_30]
  exact and_l (by unfold jok; decide)
theorem qX7_worker_15 : ey FX7 ini rt fin K0 K (decode cX7_worker 15) 15 L (st) h cs ss = (lhas L 3 ∧ isI (lgt L 3) ∧ K 16 L (lgt L 3 :: st) h cs ss) := by
  rw [dX7_worker_15, ey_ok, nx_iload_n_1] <;> rfl
theorem qX7_worker_16 : ey FX7 ini rt fin K0 K (decode cX7_worker 16) 16 L (st) h cs ss = (K 17 L (.int 0 :: st) h cs ss) := by
  rw [dX7_worker_16, ey_ok, nx_iconst_11] <;> rfl
theorem qX7_worker_17 : ey FX7 ini rt fin K0 K (decode cX7_worker 17) 17 L (st) h cs ss = (K 20 L (.int 1000 :: st) h cs ss) := by
  rw [dX7_worker_17, ey_ok, nx_sipush_13] <;> rfl
theorem qX7_worker_20 : ey FX7 ini rt fin K0 K (decode cX7_worker 20) 20 L (st) h cs ss = (K0 20 L st h cs ss) := by
  rw [dX7_worker_20, ey_ok, nx_invokestatic_73]
theorem qX7_worker_23 : ey FX7 ini rt fin K0 K (decode cX7_worker 23) 23 L (.int x :: r) h cs ss = (if x = 0 then K 30 L r h cs ss else K 26 L r h cs ss) := by
  rw [dX7_worker_23, ey_ok, nx_ifond_30]
  exact and_l (by unfold jok; decide)
theorem qX7_worker_26 : ey FX7 ini rt fin K0 K (decode cX7_worker 26) 26 L (st) h cs ss = (K 27 L (.int 1 :: st) h cs ss) := by
  rw [dX7_worker_26, ey_ok, nx_iconst_11] <;> rfl
theorem qX7_worker_27 : ey FX7 ini rt fin K0 K (decode cX7_worker 27) 27 L (st) h cs ss = (K 31 L st h cs ss) := by
  rw [dX7_worker_27, ey_ok, nx_goto_29]
  exact and_l (by unfold jok; decide)
theorem qX7_worker_30 : ey FX7 ini rt fin K0 K (decode cX7_worker 30) 30 L (st) h cs ss = (K 31 L (.int 0 :: st) h cs ss) := by
  rw [dX7_worker_30, ey_ok, nx_iconst_11] <;> rfl
theorem qX7_worker_31 : ey FX7 ini rt fin K0 K (decode cX7_worker 31) 31 L (st) h cs ss = (K0 31 L st h cs ss) := by
  rw [dX7_worker_31, ey_ok, nx_invokevirtual_72]
theorem qX7_worker_34 : ey FX7 ini rt fin K0 K (decode cX7_worker 34) 34 L (.int x :: r) h cs ss = (if ¬ x = 0 then K 39 L r h cs ss else K 37 L r h cs ss) := by
  rw [dX7_worker_34, ey_ok, nx_ifond_31]
  exact and_l (by unfold jok; decide)
theorem qX7_worker_37 : ey FX7 ini rt fin K0 K (decode cX7_worker 37) 37 L (st) h cs ss = (K 38 L (.int 0 :: st) h cs ss) := by
  rw [dX7_worker_37, ey_ok, nx_iconst_11] <;> rfl
theorem qX7_worker_38 : ey FX7 ini rt fin K0 K (decode cX7_worker 38) 38 L ([.int x]) h cs ss = (rokI rt x ∧ fin (some (.int x)) h cs ss) := by
  rw [dX7_worker_38, ey_ok, nx_ireturn_68]
theorem qX7_worker_39 : ey FX7 ini rt fin K0 K (decode cX7_worker 39) 39 L (st) h cs ss = (lhas L 0 ∧ isRf (lgt L 0) ∧ K 40 L (lgt L 0 :: st) h cs ss) := by
  rw [dX7_worker_39, ey_ok, nx_aload_n_3] <;> rfl
theorem qX7_worker_40 : ey FX7 ini rt fin K0 K (decode cX7_worker 40) 40 L (.ref a :: r) h cs ss = (h.1 a = some (.inl 7) ∧ K 43 L (h.2 a 2 :: r) h cs ss) := by
  rw [dX7_worker_40, ey_ok, nx_getfield_54]
  exact and_l rfl
theorem qX7_worker_43 : ey FX7 ini rt fin K0 K (decode cX7_worker 43) 43 L (st) h cs ss = (lhas L 1 ∧ isI (lgt L 1) ∧ K 44 L (lgt L 1 :: st) h cs ss) := by
  rw [dX7_worker_43, ey_ok, nx_iload_n_1] <;> rfl
theorem qX7_worker_44 : ey FX7 ini rt fin K0 K (decode cX7_worker 44) 44 L (.int i :: .ref a :: r) h cs ss = (isA (h.1 a) (fun k m => k = 0 ∧ vp_in i m) ∧ K 45 L (h.2 a i.toNatClampNeg :: r) h cs ss) := by
  rw [dX7_worker_44, ey_ok, nx_iaload_57]
theorem qX7_worker_45 : ey FX7 ini rt fin K0 K (decode cX7_worker 45) 45 L (.int x :: r) h cs ss = (4 < L.length ∧ K 47 (L.set 4 (some (.int x))) r h cs ss) := by
  rw [dX7_worker_45, ey_ok, nx_istore_4] <;> rfl
theorem qX7_worker_47 : ey FX7 ini rt fin K0 K (decode cX7_worker 47) 47 L (st) h cs ss = (lhas L 0 ∧ isRf (lgt L 0) ∧ K 48 L (lgt L 0 :: st) h cs ss) := by
  rw [dX7_worker_47, ey_ok, nx_aload_n_3] <;> rfl
theorem qX7_worker_48 : ey FX7 ini rt fin K0 K (decode cX7_worker 48) 48 L (.ref a :: r) h cs ss = (h.1 a = some (.inl 7) ∧ K 51 L (h.2 a 1 :: r) h cs ss) := by
  rw [dX7_worker_48, ey_ok, nx_getfield_54]
  exact and_l rfl
theorem qX7_worker_51 : ey FX7 ini rt fin K0 K (decode cX7_worker 51) 51 L (st) h cs ss = (lhas L 1 ∧ isI (lgt L 1) ∧ K 52 L (lgt L 1 :: st) h cs ss) := by
  rw [dX7_worker_51, ey_ok, nx_iload_n_1] <;> rfl
theorem qX7_worker_52 : ey FX7 ini rt fin K0 K (decode cX7_worker 52) 52 L (st) h cs ss = (lhas L 2 ∧ isI (lgt L 2) ∧ K 53 L (lgt L 2 :: st) h cs ss) := by
  rw [dX7_worker_52, ey_ok, nx_iload_n_1] <;> rfl
theorem qX7_worker_53 : ey FX7 ini rt fin K0 K (decode cX7_worker 53) 53 L (.int x :: .int i :: .ref a :: r) h cs ss = (isA (h.1 a) (fun k m => k = 0 ∧ vp_in i m) ∧ K 54 L r (h.1, hup h.2 a i.toNatClampNeg (.int x)) cs ss) := by
  rw [dX7_worker_53, ey_ok, nx_iastore_62]
theorem qX7_worker_54 : ey FX7 ini rt fin K0 K (decode cX7_worker 54) 54 L (st) h cs ss = (lhas L 0 ∧ isRf (lgt L 0) ∧ K 55 L (lgt L 0 :: st) h cs ss) := by
  rw [dX7_worker_54, ey_ok, nx_aload_n_3] <;> rfl
theorem qX7_worker_55 : ey FX7 ini rt fin K0 K (decode cX7_worker 55) 55 L (.ref a :: r) h cs ss = (h.1 a = some (.inl 7) ∧ K 58 L (h.2 a 2 :: r) h cs ss) := by
  rw [dX7_worker_55, ey_ok, nx_getfield_54]
  exact and_l rfl
theorem qX7_worker_58 : ey FX7 ini rt fin K0 K (decode cX7_worker 58) 58 L (st) h cs ss = (lhas L 1 ∧ isI (lgt L 1) ∧ K 59 L (lgt L 1 :: st) h cs ss) := by
  rw [dX7_worker_58, ey_ok, nx_iload_n_1] <;> rfl
theorem qX7_worker_59 : ey FX7 ini rt fin K0 K (decode cX7_worker 59) 59 L (st) h cs ss = (lhas L 3 ∧ isI (lgt L 3) ∧ K 60 L (lgt L 3 :: st) h cs ss) := by
  rw [dX7_worker_59, ey_ok, nx_iload_n_1] <;> rfl
theorem qX7_worker_60 : ey FX7 ini rt fin K0 K (decode cX7_worker 60) 60 L (.int x :: .int i :: .ref a :: r) h cs ss = (isA (h.1 a) (fun k m => k = 0 ∧ vp_in i m) ∧ K 61 L r (h.1, hup h.2 a i.toNatClampNeg (.int x)) cs ss) := by
  rw [dX7_worker_60, ey_ok, nx_iastore_62]
theorem qX7_worker_61 : ey FX7 ini rt fin K0 K (decode cX7_worker 61) 61 L (st) h cs ss = (lhas L 4 ∧ isI (lgt L 4) ∧ K 63 L (lgt L 4 :: st) h cs ss) := by
  rw [dX7_worker_61, ey_ok, nx_iload_0] <;> rfl
theorem qX7_worker_63 : ey FX7 ini rt fin K0 K (decode cX7_worker 63) 63 L ([.int x]) h cs ss = (rokI rt x ∧ fin (some (.int x)) h cs ss) := by
  rw [dX7_worker_63, ey_ok, nx_ireturn_68]
theorem qX7_shift_0 : ey FX7 ini rt fin K0 K (decode cX7_shift 0) 0 L (st) h cs ss = (lhas L 0 ∧ isRf (lgt L 0) ∧ K 1 L (lgt L 0 :: st) h cs ss) := by
  rw [dX7_shift_0, ey_ok, nx_aload_n_3] <;> rfl
theorem qX7_shift_1 : ey FX7 ini rt fin K0 K (decode cX7_shift 1) 1 L (st) h cs ss = (lhas L 1 ∧ isI (lgt L 1) ∧ K 2 L (lgt L 1 :: st) h cs ss) := by
  rw [dX7_shift_1, ey_ok, nx_iload_n_1] <;> rfl
theorem qX7_shift_2 : ey FX7 ini rt fin K0 K (decode cX7_shift 2) 2 L (st) h cs ss = (K 3 L (.int 0 :: st) h cs ss) := by
  rw [dX7_shift_2, ey_ok, nx_iconst_11] <;> rfl
theorem qX7_shift_3 : ey FX7 ini rt fin K0 K (decode cX7_shift 3) 3 L (st) h cs ss = (K 6 L (.int 2000 :: st) h cs ss) := by
  rw [dX7_shift_3, ey_ok, nx_sipush_13] <;> rfl
theorem qX7_shift_6 : ey FX7 ini rt fin K0 K (decode cX7_shift 6) 6 L (st) h cs ss = (K0 6 L st h cs ss) := by
  rw [dX7_shift_6, ey_ok, nx_invokestatic_73]
theorem qX7_shift_9 : ey FX7 ini rt fin K0 K (decode cX7_shift 9) 9 L (.int x :: r) h cs ss = (if x = 0 then K 35 L r h cs ss else K 12 L r h cs ss) := by
  rw [dX7_shift_9, ey_ok, nx_ifond_30]
  exact and_l (by unfold jok; decide)
theorem qX7_shift_12 : ey FX7 ini rt fin K0 K (decode cX7_shift 12) 12 L (st) h cs ss = (lhas L 2 ∧ isI (lgt L 2) ∧ K 13 L (lgt L 2 :: st) h cs ss) := by
  rw [dX7_shift_12, ey_ok, nx_iload_n_1] <;> rfl
theorem qX7_shift_13 : ey FX7 ini rt fin K0 K (decode cX7_shift 13) 13 L (st) h cs ss = (K 14 L (.int 1 :: st) h cs ss) := by
  rw [dX7_shift_13, ey_ok, nx_iconst_11] <;> rfl
theorem qX7_shift_14 : ey FX7 ini rt fin K0 K (decode cX7_shift 14) 14 L (st) h cs ss = (K 16 L (.int 16 :: st) h cs ss) := by
  rw [dX7_shift_14, ey_ok, nx_bipush_12] <;> rfl
theorem qX7_shift_16 : ey FX7 ini rt fin K0 K (decode cX7_shift 16) 16 L (st) h cs ss = (K0 16 L st h cs ss) := by
  rw [dX7_shift_16, ey_ok, nx_invokestatic_73]
theorem qX7_shift_19 : ey FX7 ini rt fin K0 K (decode cX7_shift 19) 19 L (.int x :: r) h cs ss = (if x = 0 then K 35 L r h cs ss else K 22 L r h cs ss) := by
  rw [dX7_shift_19, ey_ok, nx_ifond_30]
  exact and_l (by unfold jok; decide)
theorem qX7_shift_22 : ey FX7 ini rt fin K0 K (decode cX7_shift 22) 22 L (st) h cs ss = (lhas L 3 ∧ isI (lgt L 3) ∧ K 23 L (lgt L 3 :: st) h cs ss) := by
  rw [dX7_shift_22, ey_ok, nx_iload_n_1] <;> rfl
theorem qX7_shift_23 : ey FX7 ini rt fin K0 K (decode cX7_shift 23) 23 L (st) h cs ss = (K 24 L (.int 0 :: st) h cs ss) := by
  rw [dX7_shift_23, ey_ok, nx_iconst_11] <;> rfl
theorem qX7_shift_24 : ey FX7 ini rt fin K0 K (decode cX7_shift 24) 24 L (st) h cs ss = (K 25 L (.int 3 :: st) h cs ss) := by
  rw [dX7_shift_24, ey_ok, nx_iconst_11] <;> rfl
theorem qX7_shift_25 : ey FX7 ini rt fin K0 K (decode cX7_shift 25) 25 L (st) h cs ss = (K0 25 L st h cs ss) := by
  rw [dX7_shift_25, ey_ok, nx_invokestatic_73]
theorem qX7_shift_28 : ey FX7 ini rt fin K0 K (decode cX7_shift 28) 28 L (.int x :: r) h cs ss = (if x = 0 then K 35 L r h cs ss else K 31 L r h cs ss) := by
  rw [dX7_shift_28, ey_ok, nx_ifond_30]
  exact and_l (by unfold jok; decide)
theorem qX7_shift_31 : ey FX7 ini rt fin K0 K (decode cX7_shift 31) 31 L (st) h cs ss = (K 32 L (.int 1 :: st) h cs ss) := by
  rw [dX7_shift_31, ey_ok, nx_iconst_11] <;> rfl
theorem qX7_shift_32 : ey FX7 ini rt fin K0 K (decode cX7_shift 32) 32 L (st) h cs ss = (K 36 L st h cs ss) := by
  rw [dX7_shift_32, ey_ok, nx_goto_29]
  exact and_l (by unfold jok; decide)
theorem qX7_shift_35 : ey FX7 ini rt fin K0 K (decode cX7_shift 35) 35 L (st) h cs ss = (K 36 L (.int 0 :: st) h cs ss) := by
  rw [dX7_shift_35, ey_ok, nx_iconst_11] <;> rfl
theorem qX7_shift_36 : ey FX7 ini rt fin K0 K (decode cX7_shift 36) 36 L (st) h cs ss = (lhas L 0 ∧ isRf (lgt L 0) ∧ K 37 L (lgt L 0 :: st) h cs ss) := by
  rw [dX7_shift_36, ey_ok, nx_aload_n_3] <;> rfl
theorem qX7_shift_37 : ey FX7 ini rt fin K0 K (decode cX7_shift 37) 37 L (.ref a :: r) h cs ss = (h.1 a = some (.inl 7) ∧ K 40 L (h.2 a 3 :: r) h cs ss) := by
  rw [dX7_shift_37, ey_ok, nx_getfield_54]
  exact and_l rfl
theorem qX7_shift_40 : ey FX7 ini rt fin K0 K (decode cX7_shift 40) 40 L (st) h cs ss = (K 42 L (.int 40 :: st) h cs ss) := by
  rw [dX7_shift_40, ey_ok, nx_bipush_12] <;> rfl
theorem qX7_shift_42 : ey FX7 ini rt fin K0 K (decode cX7_shift 42) 42 L (.int y :: .int x :: r) h cs ss = (if y ≤ x then K 49 L r h cs ss else K 45 L r h cs ss) := by
  rw [dX7_shift_42, ey_ok, nx_if_icmp_39]
  exact and_l (by unfold jok; decide)
theorem qX7_shift_45 : ey FX7 ini rt fin K0 K (decode cX7_shift 45) 45 L (st) h cs ss = (K 46 L (.int 1 :: st) h cs ss) := by
  rw [dX7_shift_45, ey_ok, nx_iconst_11] <;> rfl
theorem qX7_shift_46 : ey FX7 ini rt fin K0 K (decode cX7_shift 46) 46 L (st) h cs ss = (K 50 L st h cs ss) := by
  rw [dX7_shift_46, ey_ok, nx_goto_29]
  exact and_l (by unfold jok; decide)
theorem qX7_shift_49 : ey FX7 ini rt fin K0 K (decode cX7_shift 49) 49 L (st) h cs ss = (K 50 L (.int 0 :: st) h cs ss) := by
  rw [dX7_shift_49, ey_ok, nx_iconst_11] <;> rfl
theorem qX7_shift_50 : ey FX7 ini rt fin K0 K (decode cX7_shift 50) 50 L (st) h cs ss = (K0 50 L st h cs ss) := by
  rw [dX7_shift_50, ey_ok, nx_invokevirtual_72]
theorem qX7_shift_53 : ey FX7 ini rt fin K0 K (decode cX7_shift 53) 53 L (.int x :: r) h cs ss = (if ¬ x = 0 then K 58 L r h cs ss else K 56 L r h cs ss) := by
  rw [dX7_shift_53, ey_ok, nx_ifond_31]
  exact and_l (by unfold jok; decide)
theorem qX7_shift_56 : ey FX7 ini rt fin K0 K (decode cX7_shift 56) 56 L (st) h cs ss = (K 57 L (.int 0 :: st) h cs ss) := by
  rw [dX7_shift_56, ey_ok, nx_iconst_11] <;> rfl
theorem qX7_shift_57 : ey FX7 ini rt fin K0 K (decode cX7_shift 57) 57 L ([.int x]) h cs ss = (rokI rt x ∧ fin (some (.int x)) h cs ss) := by
  rw [dX7_shift_57, ey_ok, nx_ireturn_68]
theorem qX7_shift_58 : ey FX7 ini rt fin K0 K (decode cX7_shift 58) 58 L (st) h cs ss = (lhas L 0 ∧ isRf (lgt L 0) ∧ K 59 L (lgt L 0 :: st) h cs ss) := by
  rw [dX7_shift_58, ey_ok, nx_aload_n_3] <;> rfl
theorem qX7_shift_59 : ey FX7 ini rt fin K0 K (decode cX7_shift 59) 59 L (.ref a :: r) h cs ss = (h.1 a = some (.inl 7) ∧ K 62 L (h.2 a 4 :: r) h cs ss) := by
  rw [dX7_shift_59, ey_ok, nx_getfield_54]
  exact and_l rfl
theorem qX7_shift_62 : ey FX7 ini rt fin K0 K (decode cX7_shift 62) 62 L (st) h cs ss = (lhas L 0 ∧ isRf (lgt L 0) ∧ K 63 L (lgt L 0 :: st) h cs ss) := by
  rw [dX7_shift_62, ey_ok, nx_aload_n_3] <;> rfl
theorem qX7_shift_63 : ey FX7 ini rt fin K0 K (decode cX7_shift 63) 63 L (.ref a :: r) h cs ss = (h.1 a = some (.inl 7) ∧ K 66 L (h.2 a 3 :: r) h cs ss) := by
  rw [dX7_shift_63, ey_ok, nx_getfield_54]
  exact and_l rfl
theorem qX7_shift_66 : ey FX7 ini rt fin K0 K (decode cX7_shift 66) 66 L (st) h cs ss = (lhas L 1 ∧ isI (lgt L 1) ∧ K 67 L (lgt L 1 :: st) h cs ss) := by
  rw [dX7_shift_66, ey_ok, nx_iload_n_1] <;> rfl
theorem qX7_shift_67 : ey FX7 ini rt fin K0 K (decode cX7_shift 67) 67 L (.int x :: .int i :: .ref a :: r) h cs ss = (isA (h.1 a) (fun k m => k = 0 ∧ vp_in i m) ∧ K 68 L r (h.1, hup h.2 a i.toNatClampNeg (.int x)) cs ss) := by
  rw [dX7_shift_67, ey_ok, nx_iastore_62]
theorem qX7_shift_68 : ey FX7 ini rt fin K0 K (decode cX7_shift 68) 68 L (st) h cs ss = (lhas L 0 ∧ isRf (lgt L 0) ∧ K 69 L (lgt L 0 :: st) h cs ss) := by
  rw [dX7_shift_68, ey_ok, nx_aload_n_3] <;> rfl
theorem qX7_shift_69 : ey FX7 ini rt fin K0 K (decode cX7_shift 69) 69 L (.ref a :: r) h cs ss = (h.1 a = some (.inl 7) ∧ K 72 L (h.2 a 5 :: r) h cs ss) := by
  rw [dX7_shift_69, ey_ok, nx_getfield_54]
  exact and_l rfl
theorem qX7_shift_72 : ey FX7 ini rt fin K0 K (decode cX7_shift 72) 72 L (st) h cs ss = (lhas L 0 ∧ isRf (lgt L 0) ∧ K 73 L (lgt L 0 :: st) h cs ss) := by
  rw [dX7_shift_72, ey_ok, nx_aload_n_3] <;> rfl
theorem qX7_shift_73 : ey FX7 ini rt fin K0 K (decode cX7_shift 73) 73 L (.ref a :: r) h cs ss = (h.1 a = some (.inl 7) ∧ K 76 L (h.2 a 3 :: r) h cs ss) := by
  rw [dX7_shift_73, ey_ok, nx_getfield_54]
  exact and_l rfl
theorem qX7_shift_76 : ey FX7 ini rt fin K0 K (decode cX7_shift 76) 76 L (st) h cs ss = (lhas L 1 ∧ isI (lgt L 1) ∧ K 77 L (lgt L 1 :: st) h cs ss) := by
  rw [dX7_shift_76, ey_ok, nx_iload_n_1] <;> rfl
theorem qX7_shift_77 : ey FX7 ini rt fin K0 K (decode cX7_shift 77) 77 L (st) h cs ss = (lhas L 2 ∧ isI (lgt L 2) ∧ K 78 L (lgt L 2 :: st) h cs ss) := by
  rw [dX7_shift_77, ey_ok, nx_iload_n_1] <;> rfl
theorem qX7_shift_78 : ey FX7 ini rt fin K0 K (decode cX7_shift 78) 78 L (.int y :: .int x :: r) h cs ss = (K 79 L (.int (x + y) :: r) h cs ss) := by
  rw [dX7_shift_78, ey_ok, nx_iadd_16]
theorem qX7_shift_79 : ey FX7 ini rt fin K0 K (decode cX7_shift 79) 79 L (.int x :: .int i :: .ref a :: r) h cs ss = (isA (h.1 a) (fun k m => k = 0 ∧ vp_in i m) ∧ K 80 L r (h.1, hup h.2 a i.toNatClampNeg (.int x)) cs ss) := by
  rw [dX7_shift_79, ey_ok, nx_iastore_62]
theorem qX7_shift_80 : ey FX7 ini rt fin K0 K (decode cX7_shift 80) 80 L (st) h cs ss = (lhas L 0 ∧ isRf (lgt L 0) ∧ K 81 L (lgt L 0 :: st) h cs ss) := by
  rw [dX7_shift_80, ey_ok, nx_aload_n_3] <;> rfl
theorem qX7_shift_81 : ey FX7 ini rt fin K0 K (decode cX7_shift 81) 81 L (.ref a :: r) h cs ss = (h.1 a = some (.inl 7) ∧ K 84 L (h.2 a 8 :: r) h cs ss) := by
  rw [dX7_shift_81, ey_ok, nx_getfield_54]
  exact and_l rfl
theorem qX7_shift_84 : ey FX7 ini rt fin K0 K (decode cX7_shift 84) 84 L (st) h cs ss = (lhas L 0 ∧ isRf (lgt L 0) ∧ K 85 L (lgt L 0 :: st) h cs ss) := by
  rw [dX7_shift_84, ey_ok, nx_aload_n_3] <;> rfl
theorem qX7_shift_85 : ey FX7 ini rt fin K0 K (decode cX7_shift 85) 85 L (.ref a :: r) h cs ss = (h.1 a = some (.inl 7) ∧ K 88 L (h.2 a 3 :: r) h cs ss) := by
  rw [dX7_shift_85, ey_ok, nx_getfield_54]
  exact and_l rfl
theorem qX7_shift_88 : ey FX7 ini rt fin K0 K (decode cX7_shift 88) 88 L (st) h cs ss = (lhas L 1 ∧ isI (lgt L 1) ∧ K 89 L (lgt L 1 :: st) h cs ss) := by
  rw [dX7_shift_88, ey_ok, nx_iload_n_1] <;> rfl
theorem qX7_shift_89 : ey FX7 ini rt fin K0 K (decode cX7_shift 89) 89 L (.int x :: .int i :: .ref a :: r) h cs ss = (isA (h.1 a) (fun k m => k = 0 ∧ vp_in i m) ∧ K 90 L r (h.1, hup h.2 a i.toNatClampNeg (.int x)) cs ss) := by
  rw [dX7_shift_89, ey_ok, nx_iastore_62]
theorem qX7_shift_90 : ey FX7 ini rt fin K0 K (decode cX7_shift 90) 90 L (st) h cs ss = (lhas L 0 ∧ isRf (lgt L 0) ∧ K 91 L (lgt L 0 :: st) h cs ss) := by
  rw [dX7_shift_90, ey_ok, nx_aload_n_3] <;> rfl
theorem qX7_shift_91 : ey FX7 ini rt fin K0 K (decode cX7_shift 91) 91 L (.ref a :: r) h cs ss = (h.1 a = some (.inl 7) ∧ K 94 L (h.2 a 9 :: r) h cs ss) := by
  rw [dX7_shift_91, ey_ok, nx_getfield_54]
  exact and_l rfl
theorem qX7_shift_94 : ey FX7 ini rt fin K0 K (decode cX7_shift 94) 94 L (st) h cs ss = (lhas L 0 ∧ isRf (lgt L 0) ∧ K 95 L (lgt L 0 :: st) h cs ss) := by
  rw [dX7_shift_94, ey_ok, nx_aload_n_3] <;> rfl
theorem qX7_shift_95 : ey FX7 ini rt fin K0 K (decode cX7_shift 95) 95 L (.ref a :: r) h cs ss = (h.1 a = some (.inl 7) ∧ K 98 L (h.2 a 3 :: r) h cs ss) := by
  rw [dX7_shift_95, ey_ok, nx_getfield_54]
  exact and_l rfl
theorem qX7_shift_98 : ey FX7 ini rt fin K0 K (decode cX7_shift 98) 98 L (st) h cs ss = (lhas L 1 ∧ isI (lgt L 1) ∧ K 99 L (lgt L 1 :: st) h cs ss) := by
  rw [dX7_shift_98, ey_ok, nx_iload_n_1] <;> rfl
theorem qX7_shift_99 : ey FX7 ini rt fin K0 K (decode cX7_shift 99) 99 L (st) h cs ss = (lhas L 2 ∧ isI (lgt L 2) ∧ K 100 L (lgt L 2 :: st) h cs ss) := by
  rw [dX7_shift_99, ey_ok, nx_iload_n_1] <;> rfl
theorem qX7_shift_100 : ey FX7 ini rt fin K0 K (decode cX7_shift 100) 100 L (.int y :: .int x :: r) h cs ss = (K 101 L (.int (x + y) :: r) h cs ss) := by
  rw [dX7_shift_100, ey_ok, nx_iadd_16]
theorem qX7_shift_101 : ey FX7 ini rt fin K0 K (decode cX7_shift 101) 101 L (.int x :: .int i :: .ref a :: r) h cs ss = (isA (h.1 a) (fun k m => k = 0 ∧ vp_in i m) ∧ K 102 L r (h.1, hup h.2 a i.toNatClampNeg (.int x)) cs ss) := by
  rw [dX7_shift_101, ey_ok, nx_iastore_62]
theorem qX7_shift_102 : ey FX7 ini rt fin K0 K (decode cX7_shift 102) 102 L (st) h cs ss = (lhas L 0 ∧ isRf (lgt L 0) ∧ K 103 L (lgt L 0 :: st) h cs ss) := by
  rw [dX7_shift_102, ey_ok, nx_aload_n_3] <;> rfl
theorem qX7_shift_103 : ey FX7 ini rt fin K0 K (decode cX7_shift 103) 103 L (.ref a :: r) h cs ss = (h.1 a = some (.inl 7) ∧ K 106 L (h.2 a 6 :: r) h cs ss) := by
  rw [dX7_shift_103, ey_ok, nx_getfield_54]
  exact and_l rfl
theorem qX7_shift_106 : ey FX7 ini rt fin K0 K (decode cX7_shift 106) 106 L (st) h cs ss = (lhas L 0 ∧ isRf (lgt L 0) ∧ K 107 L (lgt L 0 :: st) h cs ss) := by
  rw [dX7_shift_106, ey_ok, nx_aload_n_3] <;> rfl
theorem qX7_shift_107 : ey FX7 ini rt fin K0 K (decode cX7_shift 107) 107 L (.ref a :: r) h cs ss = (h.1 a = some (.inl 7) ∧ K 110 L (h.2 a 3 :: r) h cs ss) := by
  rw [dX7_shift_107, ey_ok, nx_getfield_54]
  exact and_l rfl
theorem qX7_shift_110 : ey FX7 ini rt fin K0 K (decode cX7_shift 110) 110 L (st) h cs ss = (lhas L 3 ∧ isI (lgt L 3) ∧ K 111 L (lgt L 3 :: st) h cs ss) := by
  rw [dX7_shift_110, ey_ok, nx_iload_n_1] <;> rfl
theorem qX7_shift_111 : ey FX7 ini rt fin K0 K (decode cX7_shift 111) 111 L (.int x :: .int i :: .ref a :: r) h cs ss = (isA (h.1 a) (fun k m => k = 0 ∧ vp_in i m) ∧ K 112 L r (h.1, hup h.2 a i.toNatClampNeg (.int x)) cs ss) := by
  rw [dX7_shift_111, ey_ok, nx_iastore_62]
theorem qX7_shift_112 : ey FX7 ini rt fin K0 K (decode cX7_shift 112) 112 L (st) h cs ss = (lhas L 0 ∧ isRf (lgt L 0) ∧ K 113 L (lgt L 0 :: st) h cs ss) := by
  rw [dX7_shift_112, ey_ok, nx_aload_n_3] <;> rfl
theorem qX7_shift_113 : ey FX7 ini rt fin K0 K (decode cX7_shift 113) 113 L (.ref a :: r) h cs ss = (h.1 a = some (.inl 7) ∧ K 116 L (h.2 a 7 :: r) h cs ss) := by
  rw [dX7_shift_113, ey_ok, nx_getfield_54]
  exact and_l rfl
theorem qX7_shift_116 : ey FX7 ini rt fin K0 K (decode cX7_shift 116) 116 L (st) h cs ss = (lhas L 0 ∧ isRf (lgt L 0) ∧ K 117 L (lgt L 0 :: st) h cs ss) := by
  rw [dX7_shift_116, ey_ok, nx_aload_n_3] <;> rfl
theorem qX7_shift_117 : ey FX7 ini rt fin K0 K (decode cX7_shift 117) 117 L (.ref a :: r) h cs ss = (h.1 a = some (.inl 7) ∧ K 120 L (h.2 a 3 :: r) h cs ss) := by
  rw [dX7_shift_117, ey_ok, nx_getfield_54]
  exact and_l rfl
theorem qX7_shift_120 : ey FX7 ini rt fin K0 K (decode cX7_shift 120) 120 L (st) h cs ss = (K 121 L (.int (-1) :: st) h cs ss) := by
  rw [dX7_shift_120, ey_ok, nx_iconst_11] <;> rfl
theorem qX7_shift_121 : ey FX7 ini rt fin K0 K (decode cX7_shift 121) 121 L (.int x :: .int i :: .ref a :: r) h cs ss = (isA (h.1 a) (fun k m => k = 0 ∧ vp_in i m) ∧ K 122 L r (h.1, hup h.2 a i.toNatClampNeg (.int x)) cs ss) := by
  rw [dX7_shift_121, ey_ok, nx_iastore_62]
theorem qX7_shift_122 : ey FX7 ini rt fin K0 K (decode cX7_shift 122) 122 L (st) h cs ss = (lhas L 0 ∧ isRf (lgt L 0) ∧ K 123 L (lgt L 0 :: st) h cs ss) := by
  rw [dX7_shift_122, ey_ok, nx_aload_n_3] <;> rfl
theorem qX7_shift_123 : ey FX7 ini rt fin K0 K (decode cX7_shift 123) 123 L (v :: r) h cs ss = (v.category = 1 ∧ K 124 L (v :: v :: r) h cs ss) := by
  rw [dX7_shift_123, ey_ok, nx_dup_27]
theorem qX7_shift_124 : ey FX7 ini rt fin K0 K (decode cX7_shift 124) 124 L (.ref a :: r) h cs ss = (h.1 a = some (.inl 7) ∧ K 127 L (h.2 a 3 :: r) h cs ss) := by
  rw [dX7_shift_124, ey_ok, nx_getfield_54]
  exact and_l rfl
theorem qX7_shift_127 : ey FX7 ini rt fin K0 K (decode cX7_shift 127) 127 L (st) h cs ss = (K 128 L (.int 1 :: st) h cs ss) := by
  rw [dX7_shift_127, ey_ok, nx_iconst_11] <;> rfl
theorem qX7_shift_128 : ey FX7 ini rt fin K0 K (decode cX7_shift 128) 128 L (.int y :: .int x :: r) h cs ss = (K 129 L (.int (x + y) :: r) h cs ss) := by
  rw [dX7_shift_128, ey_ok, nx_iadd_16]
theorem qX7_shift_129 : ey FX7 ini rt fin K0 K (decode cX7_shift 129) 129 L (v :: .ref a :: r) h cs ss = (h.1 a = some (.inl 7) ∧ okv (.int) v ∧ K 132 L r (h.1, hup h.2 a 3 v) cs ss) := by
  rw [dX7_shift_129, ey_ok, nx_putfield_55]
  exact (and_l rfl).trans (and_m (fun z => nomatch z))
theorem qX7_shift_132 : ey FX7 ini rt fin K0 K (decode cX7_shift 132) 132 L (st) h cs ss = (lhas L 0 ∧ isRf (lgt L 0) ∧ K 133 L (lgt L 0 :: st) h cs ss) := by
  rw [dX7_shift_132, ey_ok, nx_aload_n_3] <;> rfl
theorem qX7_shift_133 : ey FX7 ini rt fin K0 K (decode cX7_shift 133) 133 L (.ref a :: r) h cs ss = (h.1 a = some (.inl 7) ∧ K 136 L (h.2 a 3 :: r) h cs ss) := by
  rw [dX7_shift_133, ey_ok, nx_getfield_54]
  exact and_l rfl
theorem qX7_shift_136 : ey FX7 ini rt fin K0 K (decode cX7_shift 136) 136 L (st) h cs ss = (K 137 L (.int 1 :: st) h cs ss) := by
  rw [dX7_shift_136, ey_ok, nx_iconst_11] <;> rfl
theorem qX7_shift_137 : ey FX7 ini rt fin K0 K (decode cX7_shift 137) 137 L (.int y :: .int x :: r) h cs ss = (K 138 L (.int (x - y) :: r) h cs ss) := by
  rw [dX7_shift_137, ey_ok, nx_isub_17]
theorem qX7_shift_138 : ey FX7 ini rt fin K0 K (decode cX7_shift 138) 138 L ([.int x]) h cs ss = (rokI rt x ∧ fin (some (.int x)) h cs ss) := by
  rw [dX7_shift_138, ey_ok, nx_ireturn_68]
theorem qX7_canHold_0 : ey FX7 ini rt fin K0 K (decode cX7_canHold 0) 0 L (st) h cs ss = (lhas L 0 ∧ isRf (lgt L 0) ∧ K 1 L (lgt L 0 :: st) h cs ss) := by
  rw [dX7_canHold_0, ey_ok, nx_aload_n_3] <;> rfl
theorem qX7_canHold_1 : ey FX7 ini rt fin K0 K (decode cX7_canHold 1) 1 L (.ref a :: r) h cs ss = (h.1 a = some (.inl 7) ∧ K 4 L (h.2 a 1 :: r) h cs ss) := by
  rw [dX7_canHold_1, ey_ok, nx_getfield_54]
  exact and_l rfl
theorem qX7_canHold_4 : ey FX7 ini rt fin K0 K (decode cX7_canHold 4) 4 L (st) h cs ss = (lhas L 1 ∧ isI (lgt L 1) ∧ K 5 L (lgt L 1 :: st) h cs ss) := by
  rw [dX7_canHold_4, ey_ok, nx_iload_n_1] <;> rfl
theorem qX7_canHold_5 : ey FX7 ini rt fin K0 K (decode cX7_canHold 5) 5 L (.int i :: .ref a :: r) h cs ss = (isA (h.1 a) (fun k m => k = 0 ∧ vp_in i m) ∧ K 6 L (h.2 a i.toNatClampNeg :: r) h cs ss) := by
  rw [dX7_canHold_5, ey_ok, nx_iaload_57]
theorem qX7_canHold_6 : ey FX7 ini rt fin K0 K (decode cX7_canHold 6) 6 L (st) h cs ss = (lhas L 0 ∧ isRf (lgt L 0) ∧ K 7 L (lgt L 0 :: st) h cs ss) := by
  rw [dX7_canHold_6, ey_ok, nx_aload_n_3] <;> rfl
theorem qX7_canHold_7 : ey FX7 ini rt fin K0 K (decode cX7_canHold 7) 7 L (.ref a :: r) h cs ss = (h.1 a = some (.inl 7) ∧ K 10 L (h.2 a 6 :: r) h cs ss) := by
  rw [dX7_canHold_7, ey_ok, nx_getfield_54]
  exact and_l rfl
theorem qX7_canHold_10 : ey FX7 ini rt fin K0 K (decode cX7_canHold 10) 10 L (st) h cs ss = (lhas L 2 ∧ isI (lgt L 2) ∧ K 11 L (lgt L 2 :: st) h cs ss) := by
  rw [dX7_canHold_10, ey_ok, nx_iload_n_1] <;> rfl
theorem qX7_canHold_11 : ey FX7 ini rt fin K0 K (decode cX7_canHold 11) 11 L (.int i :: .ref a :: r) h cs ss = (isA (h.1 a) (fun k m => k = 0 ∧ vp_in i m) ∧ K 12 L (h.2 a i.toNatClampNeg :: r) h cs ss) := by
  rw [dX7_canHold_11, ey_ok, nx_iaload_57]
theorem qX7_canHold_12 : ey FX7 ini rt fin K0 K (decode cX7_canHold 12) 12 L (.int y :: .int x :: r) h cs ss = (K 13 L (.int (x >>> (y &&& 31)) :: r) h cs ss) := by
  rw [dX7_canHold_12, ey_ok, nx_ishr_21]
theorem qX7_canHold_13 : ey FX7 ini rt fin K0 K (decode cX7_canHold 13) 13 L (st) h cs ss = (K 14 L (.int 1 :: st) h cs ss) := by
  rw [dX7_canHold_13, ey_ok, nx_iconst_11] <;> rfl
theorem qX7_canHold_14 : ey FX7 ini rt fin K0 K (decode cX7_canHold 14) 14 L (.int y :: .int x :: r) h cs ss = (K 15 L (.int (x &&& y) :: r) h cs ss) := by
  rw [dX7_canHold_14, ey_ok, nx_iand_19]
theorem qX7_canHold_15 : ey FX7 ini rt fin K0 K (decode cX7_canHold 15) 15 L (st) h cs ss = (K 16 L (.int 1 :: st) h cs ss) := by
  rw [dX7_canHold_15, ey_ok, nx_iconst_11] <;> rfl
theorem qX7_canHold_16 : ey FX7 ini rt fin K0 K (decode cX7_canHold 16) 16 L (.int y :: .int x :: r) h cs ss = (if ¬ x = y then K 23 L r h cs ss else K 19 L r h cs ss) := by
  rw [dX7_canHold_16, ey_ok, nx_if_icmp_37]
  exact and_l (by unfold jok; decide)
theorem qX7_canHold_19 : ey FX7 ini rt fin K0 K (decode cX7_canHold 19) 19 L (st) h cs ss = (K 20 L (.int 1 :: st) h cs ss) := by
  rw [dX7_canHold_19, ey_ok, nx_iconst_11] <;> rfl
theorem qX7_canHold_20 : ey FX7 ini rt fin K0 K (decode cX7_canHold 20) 20 L (st) h cs ss = (K 24 L st h cs ss) := by
  rw [dX7_canHold_20, ey_ok, nx_goto_29]
  exact and_l (by unfold jok; decide)
theorem qX7_canHold_23 : ey FX7 ini rt fin K0 K (decode cX7_canHold 23) 23 L (st) h cs ss = (K 24 L (.int 0 :: st) h cs ss) := by
  rw [dX7_canHold_23, ey_ok, nx_iconst_11] <;> rfl
theorem qX7_canHold_24 : ey FX7 ini rt fin K0 K (decode cX7_canHold 24) 24 L (.int x :: r) h cs ss = (4 < L.length ∧ K 26 (L.set 4 (some (.int x))) r h cs ss) := by
  rw [dX7_canHold_24, ey_ok, nx_istore_4] <;> rfl
theorem qX7_canHold_26 : ey FX7 ini rt fin K0 K (decode cX7_canHold 26) 26 L (st) h cs ss = (K 27 L (.int 0 :: st) h cs ss) := by
  rw [dX7_canHold_26, ey_ok, nx_iconst_11] <;> rfl
theorem qX7_canHold_27 : ey FX7 ini rt fin K0 K (decode cX7_canHold 27) 27 L (.int x :: r) h cs ss = (5 < L.length ∧ K 29 (L.set 5 (some (.int x))) r h cs ss) := by
  rw [dX7_canHold_27, ey_ok, nx_istore_4] <;> rfl
theorem qX7_canHold_29 : ey FX7 ini rt fin K0 K (decode cX7_canHold 29) 29 L (st) h cs ss = (lhas L 5 ∧ isI (lgt L 5) ∧ K 31 L (lgt L 5 :: st) h cs ss) := by
  rw [dX7_canHold_29, ey_ok, nx_iload_0] <;> rfl
theorem qX7_canHold_31 : ey FX7 ini rt fin K0 K (decode cX7_canHold 31) 31 L (st) h cs ss = (lhas L 0 ∧ isRf (lgt L 0) ∧ K 32 L (lgt L 0 :: st) h cs ss) := by
  rw [dX7_canHold_31, ey_ok, nx_aload_n_3] <;> rfl
theorem qX7_canHold_32 : ey FX7 ini rt fin K0 K (decode cX7_canHold 32) 32 L (.ref a :: r) h cs ss = (h.1 a = some (.inl 7) ∧ K 35 L (h.2 a 3 :: r) h cs ss) := by
  rw [dX7_canHold_32, ey_ok, nx_getfield_54]
  exact and_l rfl
theorem qX7_canHold_35 : ey FX7 ini rt fin K0 K (decode cX7_canHold 35) 35 L (.int y :: .int x :: r) h cs ss = (if y ≤ x then K 123 L r h cs ss else K 38 L r h cs ss) := by
  rw [dX7_canHold_35, ey_ok, nx_if_icmp_39]
  exact and_l (by unfold jok; decide)
theorem qX7_canHold_38 : ey FX7 ini rt fin K0 K (decode cX7_canHold 38) 38 L (st) h cs ss = (lhas L 5 ∧ isI (lgt L 5) ∧ K 40 L (lgt L 5 :: st) h cs ss) := by
  rw [dX7_canHold_38, ey_ok, nx_iload_0] <;> rfl
theorem qX7_canHold_40 : ey FX7 ini rt fin K0 K (decode cX7_canHold 40) 40 L (st) h cs ss = (lhas L 2 ∧ isI (lgt L 2) ∧ K 41 L (lgt L 2 :: st) h cs ss) := by
  rw [dX7_canHold_40, ey_ok, nx_iload_n_1] <;> rfl
theorem qX7_canHold_41 : ey FX7 ini rt fin K0 K (decode cX7_canHold 41) 41 L (.int y :: .int x :: r) h cs ss = (if x = y then K 65 L r h cs ss else K 44 L r h cs ss) := by
  rw [dX7_canHold_41, ey_ok, nx_if_icmp_36]
  exact and_l (by unfold jok; decide)
theorem qX7_canHold_44 : ey FX7 ini rt fin K0 K (decode cX7_canHold 44) 44 L (st) h cs ss = (lhas L 5 ∧ isI (lgt L 5) ∧ K 46 L (lgt L 5 :: st) h cs ss) := by
  rw [dX7_canHold_44, ey_ok, nx_iload_0] <;> rfl
theorem qX7_canHold_46 : ey FX7 ini rt fin K0 K (decode cX7_canHold 46) 46 L (st) h cs ss = (lhas L 3 ∧ isI (lgt L 3) ∧ K 47 L (lgt L 3 :: st) h cs ss) := by
  rw [dX7_canHold_46, ey_ok, nx_iload_n_1] <;> rfl
theorem qX7_canHold_47 : ey FX7 ini rt fin K0 K (decode cX7_canHold 47) 47 L (.int y :: .int x :: r) h cs ss = (if x = y then K 65 L r h cs ss else K 50 L r h cs ss) := by
  rw [dX7_canHold_47, ey_ok, nx_if_icmp_36]
  exact and_l (by unfold jok; decide)
theorem qX7_canHold_50 : ey FX7 ini rt fin K0 K (decode cX7_canHold 50) 50 L (st) h cs ss = (lhas L 0 ∧ isRf (lgt L 0) ∧ K 51 L (lgt L 0 :: st) h cs ss) := by
  rw [dX7_canHold_50, ey_ok, nx_aload_n_3] <;> rfl
theorem qX7_canHold_51 : ey FX7 ini rt fin K0 K (decode cX7_canHold 51) 51 L (.ref a :: r) h cs ss = (h.1 a = some (.inl 7) ∧ K 54 L (h.2 a 7 :: r) h cs ss) := by
  rw [dX7_canHold_51, ey_ok, nx_getfield_54]
  exact and_l rfl
theorem qX7_canHold_54 : ey FX7 ini rt fin K0 K (decode cX7_canHold 54) 54 L (st) h cs ss = (lhas L 5 ∧ isI (lgt L 5) ∧ K 56 L (lgt L 5 :: st) h cs ss) := by
  rw [dX7_canHold_54, ey_ok, nx_iload_0] <;> rfl
theorem qX7_canHold_56 : ey FX7 ini rt fin K0 K (decode cX7_canHold 56) 56 L (.int i :: .ref a :: r) h cs ss = (isA (h.1 a) (fun k m => k = 0 ∧ vp_in i m) ∧ K 57 L (h.2 a i.toNatClampNeg :: r) h cs ss) := by
  rw [dX7_canHold_56, ey_ok, nx_iaload_57]
theorem qX7_canHold_57 : ey FX7 ini rt fin K0 K (decode cX7_canHold 57) 57 L (st) h cs ss = (lhas L 1 ∧ isI (lgt L 1) ∧ K 58 L (lgt L 1 :: st) h cs ss) := by
  rw [dX7_canHold_57, ey_ok, nx_iload_n_1] <;> rfl
theorem qX7_canHold_58 : ey FX7 ini rt fin K0 K (decode cX7_canHold 58) 58 L (.int y :: .int x :: r) h cs ss = (if ¬ x = y then K 65 L r h cs ss else K 61 L r h cs ss) := by
  rw [dX7_canHold_58, ey_ok, nx_if_icmp_37]
  exact and_l (by unfold jok; decide)
theorem qX7_canHold_61 : ey FX7 ini rt fin K0 K (decode cX7_canHold 61) 61 L (st) h cs ss = (K 62 L (.int 1 :: st) h cs ss) := by
  rw [dX7_canHold_61, ey_ok, nx_iconst_11] <;> rfl
theorem qX7_canHold_62 : ey FX7 ini rt fin K0 K (decode cX7_canHold 62) 62 L (st) h cs ss = (K 66 L st h cs ss) := by
  rw [dX7_canHold_62, ey_ok, nx_goto_29]
  exact and_l (by unfold jok; decide)
theorem qX7_canHold_65 : ey FX7 ini rt fin K0 K (decode cX7_canHold 65) 65 L (st) h cs ss = (K 66 L (.int 0 :: st) h cs ss) := by
  rw [dX7_canHold_65, ey_ok, nx_iconst_11] <;> rfl
theorem qX7_canHold_66 : ey FX7 ini rt fin K0 K (decode cX7_canHold 66) 66 L (.int x :: r) h cs ss = (6 < L.length ∧ K 68 (L.set 6 (some (.int x))) r h cs ss) := by
  rw [dX7_canHold_66, ey_ok, nx_istore_4] <;> rfl
theorem qX7_canHold_68 : ey FX7 ini rt fin K0 K (decode cX7_canHold 68) 68 L (st) h cs ss = (lhas L 4 ∧ isI (lgt L 4) ∧ K 70 L (lgt L 4 :: st) h cs ss) := by
  rw [dX7_canHold_68, ey_ok, nx_iload_0] <;> rfl
theorem qX7_canHold_70 : ey FX7 ini rt fin K0 K (decode cX7_canHold 70) 70 L (.int x :: r) h cs ss = (if x = 0 then K 114 L r h cs ss else K 73 L r h cs ss) := by
  rw [dX7_canHold_70, ey_ok, nx_ifond_30]
  exact and_l (by unfold jok; decide)
theorem qX7_canHold_73 : ey FX7 ini rt fin K0 K (decode cX7_canHold 73) 73 L (st) h cs ss = (lhas L 6 ∧ isI (lgt L 6) ∧ K 75 L (lgt L 6 :: st) h cs ss) := by
  rw [dX7_canHold_73, ey_ok, nx_iload_0] <;> rfl
theorem qX7_canHold_75 : ey FX7 ini rt fin K0 K (decode cX7_canHold 75) 75 L (.int x :: r) h cs ss = (if x = 0 then K 110 L r h cs ss else K 78 L r h cs ss) := by
  rw [dX7_canHold_75, ey_ok, nx_ifond_30]
  exact and_l (by unfold jok; decide)
theorem qX7_canHold_78 : ey FX7 ini rt fin K0 K (decode cX7_canHold 78) 78 L (st) h cs ss = (lhas L 0 ∧ isRf (lgt L 0) ∧ K 79 L (lgt L 0 :: st) h cs ss) := by
  rw [dX7_canHold_78, ey_ok, nx_aload_n_3] <;> rfl
theorem qX7_canHold_79 : ey FX7 ini rt fin K0 K (decode cX7_canHold 79) 79 L (.ref a :: r) h cs ss = (h.1 a = some (.inl 7) ∧ K 82 L (h.2 a 4 :: r) h cs ss) := by
  rw [dX7_canHold_79, ey_ok, nx_getfield_54]
  exact and_l rfl
theorem qX7_canHold_82 : ey FX7 ini rt fin K0 K (decode cX7_canHold 82) 82 L (st) h cs ss = (lhas L 5 ∧ isI (lgt L 5) ∧ K 84 L (lgt L 5 :: st) h cs ss) := by
  rw [dX7_canHold_82, ey_ok, nx_iload_0] <;> rfl
theorem qX7_canHold_84 : ey FX7 ini rt fin K0 K (decode cX7_canHold 84) 84 L (.int i :: .ref a :: r) h cs ss = (isA (h.1 a) (fun k m => k = 0 ∧ vp_in i m) ∧ K 85 L (h.2 a i.toNatClampNeg :: r) h cs ss) := by
  rw [dX7_canHold_84, ey_ok, nx_iaload_57]
theorem qX7_canHold_85 : ey FX7 ini rt fin K0 K (decode cX7_canHold 85) 85 L (st) h cs ss = (lhas L 0 ∧ isRf (lgt L 0) ∧ K 86 L (lgt L 0 :: st) h cs ss) := by
  rw [dX7_canHold_85, ey_ok, nx_aload_n_3] <;> rfl
theorem qX7_canHold_86 : ey FX7 ini rt fin K0 K (decode cX7_canHold 86) 86 L (.ref a :: r) h cs ss = (h.1 a = some (.inl 7) ∧ K 89 L (h.2 a 5 :: r) h cs ss) := by
  rw [dX7_canHold_86, ey_ok, nx_getfield_54]
  exact and_l rfl
theorem qX7_canHold_89 : ey FX7 ini rt fin K0 K (decode cX7_canHold 89) 89 L (st) h cs ss = (lhas L 2 ∧ isI (lgt L 2) ∧ K 90 L (lgt L 2 :: st) h cs ss) := by
  rw [dX7_canHold_89, ey_ok, nx_iload_n_1] <;> rfl
theorem qX7_canHold_90 : ey FX7 ini rt fin K0 K (decode cX7_canHold 90) 90 L (.int i :: .ref a :: r) h cs ss = (isA (h.1 a) (fun k m => k = 0 ∧ vp_in i m) ∧ K 91 L (h.2 a i.toNatClampNeg :: r) h cs ss) := by
  rw [dX7_canHold_90, ey_ok, nx_iaload_57]
theorem qX7_canHold_91 : ey FX7 ini rt fin K0 K (decode cX7_canHold 91) 91 L (.int y :: .int x :: r) h cs ss = (if y ≤ x then K 110 L r h cs ss else K 94 L r h cs ss) := by
  rw [dX7_canHold_91, ey_ok, nx_if_icmp_39]
  exact and_l (by unfold jok; decide)
theorem qX7_canHold_94 : ey FX7 ini rt fin K0 K (decode cX7_canHold 94) 94 L (st) h cs ss = (lhas L 0 ∧ isRf (lgt L 0) ∧ K 95 L (lgt L 0 :: st) h cs ss) := by
  rw [dX7_canHold_94, ey_ok, nx_aload_n_3] <;> rfl
theorem qX7_canHold_95 : ey FX7 ini rt fin K0 K (decode cX7_canHold 95) 95 L (.ref a :: r) h cs ss = (h.1 a = some (.inl 7) ∧ K 98 L (h.2 a 4 :: r) h cs ss) := by
  rw [dX7_canHold_95, ey_ok, nx_getfield_54]
  exact and_l rfl
theorem qX7_canHold_98 : ey FX7 ini rt fin K0 K (decode cX7_canHold 98) 98 L (st) h cs ss = (lhas L 2 ∧ isI (lgt L 2) ∧ K 99 L (lgt L 2 :: st) h cs ss) := by
  rw [dX7_canHold_98, ey_ok, nx_iload_n_1] <;> rfl
theorem qX7_canHold_99 : ey FX7 ini rt fin K0 K (decode cX7_canHold 99) 99 L (.int i :: .ref a :: r) h cs ss = (isA (h.1 a) (fun k m => k = 0 ∧ vp_in i m) ∧ K 100 L (h.2 a i.toNatClampNeg :: r) h cs ss) := by
  rw [dX7_canHold_99, ey_ok, nx_iaload_57]
theorem qX7_canHold_100 : ey FX7 ini rt fin K0 K (decode cX7_canHold 100) 100 L (st) h cs ss = (lhas L 0 ∧ isRf (lgt L 0) ∧ K 101 L (lgt L 0 :: st) h cs ss) := by
  rw [dX7_canHold_100, ey_ok, nx_aload_n_3] <;> rfl
theorem qX7_canHold_101 : ey FX7 ini rt fin K0 K (decode cX7_canHold 101) 101 L (.ref a :: r) h cs ss = (h.1 a = some (.inl 7) ∧ K 104 L (h.2 a 5 :: r) h cs ss) := by
  rw [dX7_canHold_101, ey_ok, nx_getfield_54]
  exact and_l rfl
theorem qX7_canHold_104 : ey FX7 ini rt fin K0 K (decode cX7_canHold 104) 104 L (st) h cs ss = (lhas L 5 ∧ isI (lgt L 5) ∧ K 106 L (lgt L 5 :: st) h cs ss) := by
  rw [dX7_canHold_104, ey_ok, nx_iload_0] <;> rfl
theorem qX7_canHold_106 : ey FX7 ini rt fin K0 K (decode cX7_canHold 106) 106 L (.int i :: .ref a :: r) h cs ss = (isA (h.1 a) (fun k m => k = 0 ∧ vp_in i m) ∧ K 107 L (h.2 a i.toNatClampNeg :: r) h cs ss) := by
  rw [dX7_canHold_106, ey_ok, nx_iaload_57]
theorem qX7_canHold_107 : ey FX7 ini rt fin K0 K (decode cX7_canHold 107) 107 L (.int y :: .int x :: r) h cs ss = (if x < y then K 114 L r h cs ss else K 110 L r h cs ss) := by
  rw [dX7_canHold_107, ey_ok, nx_if_icmp_38]
  exact and_l (by unfold jok; decide)
theorem qX7_canHold_110 : ey FX7 ini rt fin K0 K (decode cX7_canHold 110) 110 L (st) h cs ss = (K 111 L (.int 1 :: st) h cs ss) := by
  rw [dX7_canHold_110, ey_ok, nx_iconst_11] <;> rfl
theorem qX7_canHold_111 : ey FX7 ini rt fin K0 K (decode cX7_canHold 111) 111 L (st) h cs ss = (K 115 L st h cs ss) := by
  rw [dX7_canHold_111, ey_ok, nx_goto_29]
  exact and_l (by unfold jok; decide)
theorem qX7_canHold_114 : ey FX7 ini rt fin K0 K (decode cX7_canHold 114) 114 L (st) h cs ss = (K 115 L (.int 0 :: st) h cs ss) := by
  rw [dX7_canHold_114, ey_ok, nx_iconst_11] <;> rfl
theorem qX7_canHold_115 : ey FX7 ini rt fin K0 K (decode cX7_canHold 115) 115 L (.int x :: r) h cs ss = (4 < L.length ∧ K 117 (L.set 4 (some (.int x))) r h cs ss) := by
  rw [dX7_canHold_115, ey_ok, nx_istore_4] <;> rfl
theorem qX7_canHold_117 : ey FX7 ini rt fin K0 K (decode cX7_canHold 117) 117 L (st) h cs ss = (lhas L 5 ∧ isI (lgt L 5) ∧ K 120 (L.set 5 (some (inc (lgt L 5) 1))) st h cs ss) := by
  rw [dX7_canHold_117, ey_ok, nx_iinc_10] <;> rfl
theorem qX7_canHold_120 : ey FX7 ini rt fin K0 K (decode cX7_canHold 120) 120 L (st) h cs ss = (K 29 L st h cs ss) := by
  rw [dX7_canHold_120, ey_ok, nx_goto_29]
  exact and_l (by unfold jok; decide)
theorem qX7_canHold_123 : ey FX7 ini rt fin K0 K (decode cX7_canHold 123) 123 L (st) h cs ss = (lhas L 4 ∧ isI (lgt L 4) ∧ K 125 L (lgt L 4 :: st) h cs ss) := by
  rw [dX7_canHold_123, ey_ok, nx_iload_0] <;> rfl
theorem qX7_canHold_125 : ey FX7 ini rt fin K0 K (decode cX7_canHold 125) 125 L ([.int x]) h cs ss = (rokI rt x ∧ fin (some (.int x)) h cs ss) := by
  rw [dX7_canHold_125, ey_ok, nx_ireturn_68]
theorem qX7_giveTo_0 : ey FX7 ini rt fin K0 K (decode cX7_giveTo 0) 0 L (st) h cs ss = (lhas L 0 ∧ isRf (lgt L 0) ∧ K 1 L (lgt L 0 :: st) h cs ss) := by
  rw [dX7_giveTo_0, ey_ok, nx_aload_n_3] <;> rfl
theorem qX7_giveTo_1 : ey FX7 ini rt fin K0 K (decode cX7_giveTo 1) 1 L (.ref a :: r) h cs ss = (h.1 a = some (.inl 7) ∧ K 4 L (h.2 a 7 :: r) h cs ss) := by
  rw [dX7_giveTo_1, ey_ok, nx_getfield_54]
  exact and_l rfl
theorem qX7_giveTo_4 : ey FX7 ini rt fin K0 K (decode cX7_giveTo 4) 4 L (st) h cs ss = (lhas L 1 ∧ isI (lgt L 1) ∧ K 5 L (lgt L 1 :: st) h cs ss) := by
  rw [dX7_giveTo_4, ey_ok, nx_iload_n_1] <;> rfl
theorem qX7_giveTo_5 : ey FX7 ini rt fin K0 K (decode cX7_giveTo 5) 5 L (.int i :: .ref a :: r) h cs ss = (isA (h.1 a) (fun k m => k = 0 ∧ vp_in i m) ∧ K 6 L (h.2 a i.toNatClampNeg :: r) h cs ss) := by
  rw [dX7_giveTo_5, ey_ok, nx_iaload_57]
theorem qX7_giveTo_6 : ey FX7 ini rt fin K0 K (decode cX7_giveTo 6) 6 L (st) h cs ss = (lhas L 2 ∧ isI (lgt L 2) ∧ K 7 L (lgt L 2 :: st) h cs ss) := by
  rw [dX7_giveTo_6, ey_ok, nx_iload_n_1] <;> rfl
theorem qX7_giveTo_7 : ey FX7 ini rt fin K0 K (decode cX7_giveTo 7) 7 L (.int y :: .int x :: r) h cs ss = (if x = y then K 66 L r h cs ss else K 10 L r h cs ss) := by
  rw [dX7_giveTo_7, ey_ok, nx_if_icmp_36]
  exact and_l (by unfold jok; decide)
theorem qX7_giveTo_10 : ey FX7 ini rt fin K0 K (decode cX7_giveTo 10) 10 L (st) h cs ss = (K 11 L (.int 0 :: st) h cs ss) := by
  rw [dX7_giveTo_10, ey_ok, nx_iconst_11] <;> rfl
theorem qX7_giveTo_11 : ey FX7 ini rt fin K0 K (decode cX7_giveTo 11) 11 L (.int x :: r) h cs ss = (3 < L.length ∧ K 12 (L.set 3 (some (.int x))) r h cs ss) := by
  rw [dX7_giveTo_11, ey_ok, nx_istore_n_5] <;> rfl
theorem qX7_giveTo_12 : ey FX7 ini rt fin K0 K (decode cX7_giveTo 12) 12 L (st) h cs ss = (lhas L 3 ∧ isI (lgt L 3) ∧ K 13 L (lgt L 3 :: st) h cs ss) := by
  rw [dX7_giveTo_12, ey_ok, nx_iload_n_1] <;> rfl
theorem qX7_giveTo_13 : ey FX7 ini rt fin K0 K (decode cX7_giveTo 13) 13 L (st) h cs ss = (lhas L 0 ∧ isRf (lgt L 0) ∧ K 14 L (lgt L 0 :: st) h cs ss) := by
  rw [dX7_giveTo_13, ey_ok, nx_aload_n_3] <;> rfl
theorem qX7_giveTo_14 : ey FX7 ini rt fin K0 K (decode cX7_giveTo 14) 14 L (.ref a :: r) h cs ss = (h.1 a = some (.inl 7) ∧ K 17 L (h.2 a 28 :: r) h cs ss) := by
  rw [dX7_giveTo_14, ey_ok, nx_getfield_54]
  exact and_l rfl
theorem qX7_giveTo_17 : ey FX7 ini rt fin K0 K (decode cX7_giveTo 17) 17 L (.int y :: .int x :: r) h cs ss = (if y ≤ x then K 66 L r h cs ss else K 20 L r h cs ss) := by
  rw [dX7_giveTo_17, ey_ok, nx_if_icmp_39]
  exact and_l (by unfold jok; decide)
theorem qX7_giveTo_20 : ey FX7 ini rt fin K0 K (decode cX7_giveTo 20) 20 L (st) h cs ss = (lhas L 0 ∧ isRf (lgt L 0) ∧ K 21 L (lgt L 0 :: st) h cs ss) := by
  rw [dX7_giveTo_20, ey_ok, nx_aload_n_3] <;> rfl
theorem qX7_giveTo_21 : ey FX7 ini rt fin K0 K (decode cX7_giveTo 21) 21 L (.ref a :: r) h cs ss = (h.1 a = some (.inl 7) ∧ K 24 L (h.2 a 31 :: r) h cs ss) := by
  rw [dX7_giveTo_21, ey_ok, nx_getfield_54]
  exact and_l rfl
theorem qX7_giveTo_24 : ey FX7 ini rt fin K0 K (decode cX7_giveTo 24) 24 L (st) h cs ss = (lhas L 3 ∧ isI (lgt L 3) ∧ K 25 L (lgt L 3 :: st) h cs ss) := by
  rw [dX7_giveTo_24, ey_ok, nx_iload_n_1] <;> rfl
theorem qX7_giveTo_25 : ey FX7 ini rt fin K0 K (decode cX7_giveTo 25) 25 L (st) h cs ss = (lhas L 0 ∧ isRf (lgt L 0) ∧ K 26 L (lgt L 0 :: st) h cs ss) := by
  rw [dX7_giveTo_25, ey_ok, nx_aload_n_3] <;> rfl
theorem qX7_giveTo_26 : ey FX7 ini rt fin K0 K (decode cX7_giveTo 26) 26 L (.ref a :: r) h cs ss = (h.1 a = some (.inl 7) ∧ K 29 L (h.2 a 31 :: r) h cs ss) := by
  rw [dX7_giveTo_26, ey_ok, nx_getfield_54]
  exact and_l rfl
theorem qX7_giveTo_29 : ey FX7 ini rt fin K0 K (decode cX7_giveTo 29) 29 L (st) h cs ss = (lhas L 3 ∧ isI (lgt L 3) ∧ K 30 L (lgt L 3 :: st) h cs ss) := by
  rw [dX7_giveTo_29, ey_ok, nx_iload_n_1] <;> rfl
theorem qX7_giveTo_30 : ey FX7 ini rt fin K0 K (decode cX7_giveTo 30) 30 L (.int i :: .ref a :: r) h cs ss = (isA (h.1 a) (fun k m => k = 1 ∧ vp_in i m) ∧ K 31 L (h.2 a i.toNatClampNeg :: r) h cs ss) := by
  rw [dX7_giveTo_30, ey_ok, nx_baload_58]
theorem qX7_giveTo_31 : ey FX7 ini rt fin K0 K (decode cX7_giveTo 31) 31 L (.int x :: r) h cs ss = (if x = 0 then K 58 L r h cs ss else K 34 L r h cs ss) := by
  rw [dX7_giveTo_31, ey_ok, nx_ifond_30]
  exact and_l (by unfold jok; decide)
theorem qX7_giveTo_34 : ey FX7 ini rt fin K0 K (decode cX7_giveTo 34) 34 L (st) h cs ss = (lhas L 0 ∧ isRf (lgt L 0) ∧ K 35 L (lgt L 0 :: st) h cs ss) := by
  rw [dX7_giveTo_34, ey_ok, nx_aload_n_3] <;> rfl
theorem qX7_giveTo_35 : ey FX7 ini rt fin K0 K (decode cX7_giveTo 35) 35 L (.ref a :: r) h cs ss = (h.1 a = some (.inl 7) ∧ K 38 L (h.2 a 29 :: r) h cs ss) := by
  rw [dX7_giveTo_35, ey_ok, nx_getfield_54]
  exact and_l rfl
theorem qX7_giveTo_38 : ey FX7 ini rt fin K0 K (decode cX7_giveTo 38) 38 L (st) h cs ss = (lhas L 3 ∧ isI (lgt L 3) ∧ K 39 L (lgt L 3 :: st) h cs ss) := by
  rw [dX7_giveTo_38, ey_ok, nx_iload_n_1] <;> rfl
theorem qX7_giveTo_39 : ey FX7 ini rt fin K0 K (decode cX7_giveTo 39) 39 L (.int i :: .ref a :: r) h cs ss = (isA (h.1 a) (fun k m => k = 0 ∧ vp_in i m) ∧ K 40 L (h.2 a i.toNatClampNeg :: r) h cs ss) := by
  rw [dX7_giveTo_39, ey_ok, nx_iaload_57]
theorem qX7_giveTo_40 : ey FX7 ini rt fin K0 K (decode cX7_giveTo 40) 40 L (st) h cs ss = (lhas L 1 ∧ isI (lgt L 1) ∧ K 41 L (lgt L 1 :: st) h cs ss) := by
  rw [dX7_giveTo_40, ey_ok, nx_iload_n_1] <;> rfl
theorem qX7_giveTo_41 : ey FX7 ini rt fin K0 K (decode cX7_giveTo 41) 41 L (.int y :: .int x :: r) h cs ss = (if x = y then K 58 L r h cs ss else K 44 L r h cs ss) := by
  rw [dX7_giveTo_41, ey_ok, nx_if_icmp_36]
  exact and_l (by unfold jok; decide)
theorem qX7_giveTo_44 : ey FX7 ini rt fin K0 K (decode cX7_giveTo 44) 44 L (st) h cs ss = (lhas L 0 ∧ isRf (lgt L 0) ∧ K 45 L (lgt L 0 :: st) h cs ss) := by
  rw [dX7_giveTo_44, ey_ok, nx_aload_n_3] <;> rfl
theorem qX7_giveTo_45 : ey FX7 ini rt fin K0 K (decode cX7_giveTo 45) 45 L (.ref a :: r) h cs ss = (h.1 a = some (.inl 7) ∧ K 48 L (h.2 a 30 :: r) h cs ss) := by
  rw [dX7_giveTo_45, ey_ok, nx_getfield_54]
  exact and_l rfl
theorem qX7_giveTo_48 : ey FX7 ini rt fin K0 K (decode cX7_giveTo 48) 48 L (st) h cs ss = (lhas L 3 ∧ isI (lgt L 3) ∧ K 49 L (lgt L 3 :: st) h cs ss) := by
  rw [dX7_giveTo_48, ey_ok, nx_iload_n_1] <;> rfl
theorem qX7_giveTo_49 : ey FX7 ini rt fin K0 K (decode cX7_giveTo 49) 49 L (.int i :: .ref a :: r) h cs ss = (isA (h.1 a) (fun k m => k = 0 ∧ vp_in i m) ∧ K 50 L (h.2 a i.toNatClampNeg :: r) h cs ss) := by
  rw [dX7_giveTo_49, ey_ok, nx_iaload_57]
theorem qX7_giveTo_50 : ey FX7 ini rt fin K0 K (decode cX7_giveTo 50) 50 L (st) h cs ss = (lhas L 1 ∧ isI (lgt L 1) ∧ K 51 L (lgt L 1 :: st) h cs ss) := by
  rw [dX7_giveTo_50, ey_ok, nx_iload_n_1] <;> rfl
theorem qX7_giveTo_51 : ey FX7 ini rt fin K0 K (decode cX7_giveTo 51) 51 L (.int y :: .int x :: r) h cs ss = (if x = y then K 58 L r h cs ss else K 54 L r h cs ss) := by
  rw [dX7_giveTo_51, ey_ok, nx_if_icmp_36]
  exact and_l (by unfold jok; decide)
theorem qX7_giveTo_54 : ey FX7 ini rt fin K0 K (decode cX7_giveTo 54) 54 L (st) h cs ss = (K 55 L (.int 1 :: st) h cs ss) := by
  rw [dX7_giveTo_54, ey_ok, nx_iconst_11] <;> rfl
theorem qX7_giveTo_55 : ey FX7 ini rt fin K0 K (decode cX7_giveTo 55) 55 L (st) h cs ss = (K 59 L st h cs ss) := by
  rw [dX7_giveTo_55, ey_ok, nx_goto_29]
  exact and_l (by unfold jok; decide)
theorem qX7_giveTo_58 : ey FX7 ini rt fin K0 K (decode cX7_giveTo 58) 58 L (st) h cs ss = (K 59 L (.int 0 :: st) h cs ss) := by
  rw [dX7_giveTo_58, ey_ok, nx_iconst_11] <;> rfl
theorem qX7_giveTo_59 : ey FX7 ini rt fin K0 K (decode cX7_giveTo 59) 59 L (.int x :: .int i :: .ref a :: r) h cs ss = (isA (h.1 a) (fun k m => k = 1 ∧ vp_in i m) ∧ K 60 L r (h.1, hup h.2 a i.toNatClampNeg (narrow .boolean (.int x))) cs ss) := by
  rw [dX7_giveTo_59, ey_ok, nx_bastore_63]
theorem qX7_giveTo_60 : ey FX7 ini rt fin K0 K (decode cX7_giveTo 60) 60 L (st) h cs ss = (lhas L 3 ∧ isI (lgt L 3) ∧ K 63 (L.set 3 (some (inc (lgt L 3) 1))) st h cs ss) := by
  rw [dX7_giveTo_60, ey_ok, nx_iinc_10] <;> rfl
theorem qX7_giveTo_63 : ey FX7 ini rt fin K0 K (decode cX7_giveTo 63) 63 L (st) h cs ss = (K 12 L st h cs ss) := by
  rw [dX7_giveTo_63, ey_ok, nx_goto_29]
  exact and_l (by unfold jok; decide)
theorem qX7_giveTo_66 : ey FX7 ini rt fin K0 K (decode cX7_giveTo 66) 66 L (st) h cs ss = (lhas L 0 ∧ isRf (lgt L 0) ∧ K 67 L (lgt L 0 :: st) h cs ss) := by
  rw [dX7_giveTo_66, ey_ok, nx_aload_n_3] <;> rfl
theorem qX7_giveTo_67 : ey FX7 ini rt fin K0 K (decode cX7_giveTo 67) 67 L (.ref a :: r) h cs ss = (h.1 a = some (.inl 7) ∧ K 70 L (h.2 a 7 :: r) h cs ss) := by
  rw [dX7_giveTo_67, ey_ok, nx_getfield_54]
  exact and_l rfl
theorem qX7_giveTo_70 : ey FX7 ini rt fin K0 K (decode cX7_giveTo 70) 70 L (st) h cs ss = (lhas L 1 ∧ isI (lgt L 1) ∧ K 71 L (lgt L 1 :: st) h cs ss) := by
  rw [dX7_giveTo_70, ey_ok, nx_iload_n_1] <;> rfl
theorem qX7_giveTo_71 : ey FX7 ini rt fin K0 K (decode cX7_giveTo 71) 71 L (st) h cs ss = (lhas L 2 ∧ isI (lgt L 2) ∧ K 72 L (lgt L 2 :: st) h cs ss) := by
  rw [dX7_giveTo_71, ey_ok, nx_iload_n_1] <;> rfl
theorem qX7_giveTo_72 : ey FX7 ini rt fin K0 K (decode cX7_giveTo 72) 72 L (.int x :: .int i :: .ref a :: r) h cs ss = (isA (h.1 a) (fun k m => k = 0 ∧ vp_in i m) ∧ K 73 L r (h.1, hup h.2 a i.toNatClampNeg (.int x)) cs ss) := by
  rw [dX7_giveTo_72, ey_ok, nx_iastore_62]
theorem qX7_giveTo_73 : ey FX7 ini rt fin K0 K (decode cX7_giveTo 73) 73 L ([]) h cs ss = (rt = none ∧ fin none h cs ss) := by
  rw [dX7_giveTo_73, ey_ok, nx_return__71]
theorem qX7_hold_0 : ey FX7 ini rt fin K0 K (decode cX7_hold 0) 0 L (st) h cs ss = (lhas L 0 ∧ isRf (lgt L 0) ∧ K 1 L (lgt L 0 :: st) h cs ss) := by
  rw [dX7_hold_0, ey_ok, nx_aload_n_3] <;> rfl
theorem qX7_hold_1 : ey FX7 ini rt fin K0 K (decode cX7_hold 1) 1 L (st) h cs ss = (lhas L 1 ∧ isI (lgt L 1) ∧ K 2 L (lgt L 1 :: st) h cs ss) := by
  rw [dX7_hold_1, ey_ok, nx_iload_n_1] <;> rfl
theorem qX7_hold_2 : ey FX7 ini rt fin K0 K (decode cX7_hold 2) 2 L (st) h cs ss = (K0 2 L st h cs ss) := by
  rw [dX7_hold_2, ey_ok, nx_invokevirtual_72]
theorem qX7_hold_5 : ey FX7 ini rt fin K0 K (decode cX7_hold 5) 5 L (.int x :: r) h cs ss = (if x = 0 then K 24 L r h cs ss else K 8 L r h cs ss) := by
  rw [dX7_hold_5, ey_ok, nx_ifond_30]
  exact and_l (by unfold jok; decide)
theorem qX7_hold_8 : ey FX7 ini rt fin K0 K (decode cX7_hold 8) 8 L (st) h cs ss = (lhas L 2 ∧ isI (lgt L 2) ∧ K 9 L (lgt L 2 :: st) h cs ss) := by
  rw [dX7_hold_8, ey_ok, nx_iload_n_1] <;> rfl
theorem qX7_hold_9 : ey FX7 ini rt fin K0 K (decode cX7_hold 9) 9 L (st) h cs ss = (K 10 L (.int (-1) :: st) h cs ss) := by
  rw [dX7_hold_9, ey_ok, nx_iconst_11] <;> rfl
theorem qX7_hold_10 : ey FX7 ini rt fin K0 K (decode cX7_hold 10) 10 L (.int y :: .int x :: r) h cs ss = (if x = y then K 20 L r h cs ss else K 13 L r h cs ss) := by
  rw [dX7_hold_10, ey_ok, nx_if_icmp_36]
  exact and_l (by unfold jok; decide)
theorem qX7_hold_13 : ey FX7 ini rt fin K0 K (decode cX7_hold 13) 13 L (st) h cs ss = (lhas L 2 ∧ isI (lgt L 2) ∧ K 14 L (lgt L 2 :: st) h cs ss) := by
  rw [dX7_hold_13, ey_ok, nx_iload_n_1] <;> rfl
theorem qX7_hold_14 : ey FX7 ini rt fin K0 K (decode cX7_hold 14) 14 L (st) h cs ss = (K0 14 L st h cs ss) := by
  rw [dX7_hold_14, ey_ok, nx_invokestatic_73]
theorem qX7_hold_17 : ey FX7 ini rt fin K0 K (decode cX7_hold 17) 17 L (.int x :: r) h cs ss = (if x = 0 then K 24 L r h cs ss else K 20 L r h cs ss) := by
  rw [dX7_hold_17, ey_ok, nx_ifond_30]
  exact and_l (by unfold jok; decide)
theorem qX7_hold_20 : ey FX7 ini rt fin K0 K (decode cX7_hold 20) 20 L (st) h cs ss = (K 21 L (.int 1 :: st) h cs ss) := by
  rw [dX7_hold_20, ey_ok, nx_iconst_11] <;> rfl
theorem qX7_hold_21 : ey FX7 ini rt fin K0 K (decode cX7_hold 21) 21 L (st) h cs ss = (K 25 L st h cs ss) := by
  rw [dX7_hold_21, ey_ok, nx_goto_29]
  exact and_l (by unfold jok; decide)
theorem qX7_hold_24 : ey FX7 ini rt fin K0 K (decode cX7_hold 24) 24 L (st) h cs ss = (K 25 L (.int 0 :: st) h cs ss) := by
  rw [dX7_hold_24, ey_ok, nx_iconst_11] <;> rfl
theorem qX7_hold_25 : ey FX7 ini rt fin K0 K (decode cX7_hold 25) 25 L (.int x :: r) h cs ss = (3 < L.length ∧ K 26 (L.set 3 (some (.int x))) r h cs ss) := by
  rw [dX7_hold_25, ey_ok, nx_istore_n_5] <;> rfl
theorem qX7_hold_26 : ey FX7 ini rt fin K0 K (decode cX7_hold 26) 26 L (st) h cs ss = (lhas L 0 ∧ isRf (lgt L 0) ∧ K 27 L (lgt L 0 :: st) h cs ss) := by
  rw [dX7_hold_26, ey_ok, nx_aload_n_3] <;> rfl
theorem qX7_hold_27 : ey FX7 ini rt fin K0 K (decode cX7_hold 27) 27 L (st) h cs ss = (lhas L 3 ∧ isI (lgt L 3) ∧ K 28 L (lgt L 3 :: st) h cs ss) := by
  rw [dX7_hold_27, ey_ok, nx_iload_n_1] <;> rfl
theorem qX7_hold_28 : ey FX7 ini rt fin K0 K (decode cX7_hold 28) 28 L (st) h cs ss = (lhas L 3 ∧ isI (lgt L 3) ∧ K 29 L (lgt L 3 :: st) h cs ss) := by
  rw [dX7_hold_28, ey_ok, nx_iload_n_1] <;> rfl
theorem qX7_hold_29 : ey FX7 ini rt fin K0 K (decode cX7_hold 29) 29 L (.int x :: r) h cs ss = (if x = 0 then K 51 L r h cs ss else K 32 L r h cs ss) := by
  rw [dX7_hold_29, ey_ok, nx_ifond_30]
  exact and_l (by unfold jok; decide)
theorem qX7_hold_32 : ey FX7 ini rt fin K0 K (decode cX7_hold 32) 32 L (st) h cs ss = (lhas L 2 ∧ isI (lgt L 2) ∧ K 33 L (lgt L 2 :: st) h cs ss) := by
  rw [dX7_hold_32, ey_ok, nx_iload_n_1] <;> rfl
theorem qX7_hold_33 : ey FX7 ini rt fin K0 K (decode cX7_hold 33) 33 L (st) h cs ss = (K 34 L (.int (-1) :: st) h cs ss) := by
  rw [dX7_hold_33, ey_ok, nx_iconst_11] <;> rfl
theorem qX7_hold_34 : ey FX7 ini rt fin K0 K (decode cX7_hold 34) 34 L (.int y :: .int x :: r) h cs ss = (if x = y then K 47 L r h cs ss else K 37 L r h cs ss) := by
  rw [dX7_hold_34, ey_ok, nx_if_icmp_36]
  exact and_l (by unfold jok; decide)
theorem qX7_hold_37 : ey FX7 ini rt fin K0 K (decode cX7_hold 37) 37 L (st) h cs ss = (lhas L 0 ∧ isRf (lgt L 0) ∧ K 38 L (lgt L 0 :: st) h cs ss) := by
  rw [dX7_hold_37, ey_ok, nx_aload_n_3] <;> rfl
theorem qX7_hold_38 : ey FX7 ini rt fin K0 K (decode cX7_hold 38) 38 L (st) h cs ss = (lhas L 2 ∧ isI (lgt L 2) ∧ K 39 L (lgt L 2 :: st) h cs ss) := by
  rw [dX7_hold_38, ey_ok, nx_iload_n_1] <;> rfl
theorem qX7_hold_39 : ey FX7 ini rt fin K0 K (decode cX7_hold 39) 39 L (st) h cs ss = (lhas L 1 ∧ isI (lgt L 1) ∧ K 40 L (lgt L 1 :: st) h cs ss) := by
  rw [dX7_hold_39, ey_ok, nx_iload_n_1] <;> rfl
theorem qX7_hold_40 : ey FX7 ini rt fin K0 K (decode cX7_hold 40) 40 L (st) h cs ss = (K 41 L (.int (-1) :: st) h cs ss) := by
  rw [dX7_hold_40, ey_ok, nx_iconst_11] <;> rfl
theorem qX7_hold_41 : ey FX7 ini rt fin K0 K (decode cX7_hold 41) 41 L (st) h cs ss = (K0 41 L st h cs ss) := by
  rw [dX7_hold_41, ey_ok, nx_invokevirtual_72]
theorem qX7_hold_44 : ey FX7 ini rt fin K0 K (decode cX7_hold 44) 44 L (.int x :: r) h cs ss = (if x = 0 then K 51 L r h cs ss else K 47 L r h cs ss) := by
  rw [dX7_hold_44, ey_ok, nx_ifond_30]
  exact and_l (by unfold jok; decide)
theorem qX7_hold_47 : ey FX7 ini rt fin K0 K (decode cX7_hold 47) 47 L (st) h cs ss = (K 48 L (.int 1 :: st) h cs ss) := by
  rw [dX7_hold_47, ey_ok, nx_iconst_11] <;> rfl
theorem qX7_hold_48 : ey FX7 ini rt fin K0 K (decode cX7_hold 48) 48 L (st) h cs ss = (K 52 L st h cs ss) := by
  rw [dX7_hold_48, ey_ok, nx_goto_29]
  exact and_l (by unfold jok; decide)
theorem qX7_hold_51 : ey FX7 ini rt fin K0 K (decode cX7_hold 51) 51 L (st) h cs ss = (K 52 L (.int 0 :: st) h cs ss) := by
  rw [dX7_hold_51, ey_ok, nx_iconst_11] <;> rfl
theorem qX7_hold_52 : ey FX7 ini rt fin K0 K (decode cX7_hold 52) 52 L (st) h cs ss = (K0 52 L st h cs ss) := by
  rw [dX7_hold_52, ey_ok, nx_invokevirtual_72]
theorem qX7_hold_55 : ey FX7 ini rt fin K0 K (decode cX7_hold 55) 55 L (.int x :: r) h cs ss = (if ¬ x = 0 then K 60 L r h cs ss else K 58 L r h cs ss) := by
  rw [dX7_hold_55, ey_ok, nx_ifond_31]
  exact and_l (by unfold jok; decide)
theorem qX7_hold_58 : ey FX7 ini rt fin K0 K (decode cX7_hold 58) 58 L (st) h cs ss = (K 59 L (.int 0 :: st) h cs ss) := by
  rw [dX7_hold_58, ey_ok, nx_iconst_11] <;> rfl
theorem qX7_hold_59 : ey FX7 ini rt fin K0 K (decode cX7_hold 59) 59 L ([.int x]) h cs ss = (rokI rt x ∧ fin (some (.int x)) h cs ss) := by
  rw [dX7_hold_59, ey_ok, nx_ireturn_68]
theorem qX7_hold_60 : ey FX7 ini rt fin K0 K (decode cX7_hold 60) 60 L (st) h cs ss = (lhas L 0 ∧ isRf (lgt L 0) ∧ K 61 L (lgt L 0 :: st) h cs ss) := by
  rw [dX7_hold_60, ey_ok, nx_aload_n_3] <;> rfl
theorem qX7_hold_61 : ey FX7 ini rt fin K0 K (decode cX7_hold 61) 61 L (.ref a :: r) h cs ss = (h.1 a = some (.inl 7) ∧ K 64 L (h.2 a 7 :: r) h cs ss) := by
  rw [dX7_hold_61, ey_ok, nx_getfield_54]
  exact and_l rfl
theorem qX7_hold_64 : ey FX7 ini rt fin K0 K (decode cX7_hold 64) 64 L (st) h cs ss = (lhas L 1 ∧ isI (lgt L 1) ∧ K 65 L (lgt L 1 :: st) h cs ss) := by
  rw [dX7_hold_64, ey_ok, nx_iload_n_1] <;> rfl
theorem qX7_hold_65 : ey FX7 ini rt fin K0 K (decode cX7_hold 65) 65 L (.int i :: .ref a :: r) h cs ss = (isA (h.1 a) (fun k m => k = 0 ∧ vp_in i m) ∧ K 66 L (h.2 a i.toNatClampNeg :: r) h cs ss) := by
  rw [dX7_hold_65, ey_ok, nx_iaload_57]
theorem qX7_hold_66 : ey FX7 ini rt fin K0 K (decode cX7_hold 66) 66 L (.int x :: r) h cs ss = (4 < L.length ∧ K 68 (L.set 4 (some (.int x))) r h cs ss) := by
  rw [dX7_hold_66, ey_ok, nx_istore_4] <;> rfl
theorem qX7_hold_68 : ey FX7 ini rt fin K0 K (decode cX7_hold 68) 68 L (st) h cs ss = (lhas L 0 ∧ isRf (lgt L 0) ∧ K 69 L (lgt L 0 :: st) h cs ss) := by
  rw [dX7_hold_68, ey_ok, nx_aload_n_3] <;> rfl
theorem qX7_hold_69 : ey FX7 ini rt fin K0 K (decode cX7_hold 69) 69 L (st) h cs ss = (lhas L 1 ∧ isI (lgt L 1) ∧ K 70 L (lgt L 1 :: st) h cs ss) := by
  rw [dX7_hold_69, ey_ok, nx_iload_n_1] <;> rfl
theorem qX7_hold_70 : ey FX7 ini rt fin K0 K (decode cX7_hold 70) 70 L (st) h cs ss = (lhas L 2 ∧ isI (lgt L 2) ∧ K 71 L (lgt L 2 :: st) h cs ss) := by
  rw [dX7_hold_70, ey_ok, nx_iload_n_1] <;> rfl
theorem qX7_hold_71 : ey FX7 ini rt fin K0 K (decode cX7_hold 71) 71 L (st) h cs ss = (K0 71 L st h cs ss) := by
  rw [dX7_hold_71, ey_ok, nx_invokevirtual_72]
theorem qX7_hold_74 : ey FX7 ini rt fin K0 K (decode cX7_hold 74) 74 L (st) h cs ss = (lhas L 0 ∧ isRf (lgt L 0) ∧ K 75 L (lgt L 0 :: st) h cs ss) := by
  rw [dX7_hold_74, ey_ok, nx_aload_n_3] <;> rfl
theorem qX7_hold_75 : ey FX7 ini rt fin K0 K (decode cX7_hold 75) 75 L (st) h cs ss = (K0 75 L st h cs ss) := by
  rw [dX7_hold_75, ey_ok, nx_invokevirtual_72]
theorem qX7_hold_78 : ey FX7 ini rt fin K0 K (decode cX7_hold 78) 78 L (v :: r) h cs ss = (v.category = 1 ∧ K 79 L r h cs ss) := by
  rw [dX7_hold_78, ey_ok, nx_pop_28]
theorem qX7_hold_79 : ey FX7 ini rt fin K0 K (decode cX7_hold 79) 79 L (st) h cs ss = (lhas L 4 ∧ isI (lgt L 4) ∧ K 81 L (lgt L 4 :: st) h cs ss) := by
  rw [dX7_hold_79, ey_ok, nx_iload_0] <;> rfl
theorem qX7_hold_81 : ey FX7 ini rt fin K0 K (decode cX7_hold 81) 81 L ([.int x]) h cs ss = (rokI rt x ∧ fin (some (.int x)) h cs ss) := by
  rw [dX7_hold_81, ey_ok, nx_ireturn_68]
theorem qX7_stamp_0 : ey FX7 ini rt fin K0 K (decode cX7_stamp 0) 0 L (st) h cs ss = (lhas L 0 ∧ isRf (lgt L 0) ∧ K 1 L (lgt L 0 :: st) h cs ss) := by
  rw [dX7_stamp_0, ey_ok, nx_aload_n_3] <;> rfl
theorem qX7_stamp_1 : ey FX7 ini rt fin K0 K (decode cX7_stamp 1) 1 L (st) h cs ss = (lhas L 1 ∧ isI (lgt L 1) ∧ K 2 L (lgt L 1 :: st) h cs ss) := by
  rw [dX7_stamp_1, ey_ok, nx_iload_n_1] <;> rfl
theorem qX7_stamp_2 : ey FX7 ini rt fin K0 K (decode cX7_stamp 2) 2 L (st) h cs ss = (K0 2 L st h cs ss) := by
  rw [dX7_stamp_2, ey_ok, nx_invokevirtual_72]
theorem qX7_stamp_5 : ey FX7 ini rt fin K0 K (decode cX7_stamp 5) 5 L (.int x :: r) h cs ss = (4 < L.length ∧ K 7 (L.set 4 (some (.int x))) r h cs ss) := by
  rw [dX7_stamp_5, ey_ok, nx_istore_4] <;> rfl
theorem qX7_stamp_7 : ey FX7 ini rt fin K0 K (decode cX7_stamp 7) 7 L (st) h cs ss = (lhas L 2 ∧ isI (lgt L 2) ∧ K 8 L (lgt L 2 :: st) h cs ss) := by
  rw [dX7_stamp_7, ey_ok, nx_iload_n_1] <;> rfl
theorem qX7_stamp_8 : ey FX7 ini rt fin K0 K (decode cX7_stamp 8) 8 L (.int x :: r) h cs ss = (if x < 0 then K 44 L r h cs ss else K 11 L r h cs ss) := by
  rw [dX7_stamp_8, ey_ok, nx_ifond_32]
  exact and_l (by unfold jok; decide)
theorem qX7_stamp_11 : ey FX7 ini rt fin K0 K (decode cX7_stamp 11) 11 L (st) h cs ss = (lhas L 2 ∧ isI (lgt L 2) ∧ K 12 L (lgt L 2 :: st) h cs ss) := by
  rw [dX7_stamp_11, ey_ok, nx_iload_n_1] <;> rfl
theorem qX7_stamp_12 : ey FX7 ini rt fin K0 K (decode cX7_stamp 12) 12 L (st) h cs ss = (lhas L 0 ∧ isRf (lgt L 0) ∧ K 13 L (lgt L 0 :: st) h cs ss) := by
  rw [dX7_stamp_12, ey_ok, nx_aload_n_3] <;> rfl
theorem qX7_stamp_13 : ey FX7 ini rt fin K0 K (decode cX7_stamp 13) 13 L (.ref a :: r) h cs ss = (h.1 a = some (.inl 7) ∧ K 16 L (h.2 a 0 :: r) h cs ss) := by
  rw [dX7_stamp_13, ey_ok, nx_getfield_54]
  exact and_l rfl
theorem qX7_stamp_16 : ey FX7 ini rt fin K0 K (decode cX7_stamp 16) 16 L (.int y :: .int x :: r) h cs ss = (if y < x then K 44 L r h cs ss else K 19 L r h cs ss) := by
  rw [dX7_stamp_16, ey_ok, nx_if_icmp_40]
  exact and_l (by unfold jok; decide)
theorem qX7_stamp_19 : ey FX7 ini rt fin K0 K (decode cX7_stamp 19) 19 L (st) h cs ss = (lhas L 3 ∧ isI (lgt L 3) ∧ K 20 L (lgt L 3 :: st) h cs ss) := by
  rw [dX7_stamp_19, ey_ok, nx_iload_n_1] <;> rfl
theorem qX7_stamp_20 : ey FX7 ini rt fin K0 K (decode cX7_stamp 20) 20 L (st) h cs ss = (lhas L 2 ∧ isI (lgt L 2) ∧ K 21 L (lgt L 2 :: st) h cs ss) := by
  rw [dX7_stamp_20, ey_ok, nx_iload_n_1] <;> rfl
theorem qX7_stamp_21 : ey FX7 ini rt fin K0 K (decode cX7_stamp 21) 21 L (.int y :: .int x :: r) h cs ss = (if x ≤ y then K 44 L r h cs ss else K 24 L r h cs ss) := by
  rw [dX7_stamp_21, ey_ok, nx_if_icmp_41]
  exact and_l (by unfold jok; decide)
theorem qX7_stamp_24 : ey FX7 ini rt fin K0 K (decode cX7_stamp 24) 24 L (st) h cs ss = (lhas L 3 ∧ isI (lgt L 3) ∧ K 25 L (lgt L 3 :: st) h cs ss) := by
  rw [dX7_stamp_24, ey_ok, nx_iload_n_1] <;> rfl
theorem qX7_stamp_25 : ey FX7 ini rt fin K0 K (decode cX7_stamp 25) 25 L (st) h cs ss = (lhas L 2 ∧ isI (lgt L 2) ∧ K 26 L (lgt L 2 :: st) h cs ss) := by
  rw [dX7_stamp_25, ey_ok, nx_iload_n_1] <;> rfl
theorem qX7_stamp_26 : ey FX7 ini rt fin K0 K (decode cX7_stamp 26) 26 L (st) h cs ss = (K 28 L (.int 24 :: st) h cs ss) := by
  rw [dX7_stamp_26, ey_ok, nx_bipush_12] <;> rfl
theorem qX7_stamp_28 : ey FX7 ini rt fin K0 K (decode cX7_stamp 28) 28 L (.int y :: .int x :: r) h cs ss = (K 29 L (.int (x + y) :: r) h cs ss) := by
  rw [dX7_stamp_28, ey_ok, nx_iadd_16]
theorem qX7_stamp_29 : ey FX7 ini rt fin K0 K (decode cX7_stamp 29) 29 L (.int y :: .int x :: r) h cs ss = (if y < x then K 44 L r h cs ss else K 32 L r h cs ss) := by
  rw [dX7_stamp_29, ey_ok, nx_if_icmp_40]
  exact and_l (by unfold jok; decide)
theorem qX7_stamp_32 : ey FX7 ini rt fin K0 K (decode cX7_stamp 32) 32 L (st) h cs ss = (lhas L 3 ∧ isI (lgt L 3) ∧ K 33 L (lgt L 3 :: st) h cs ss) := by
  rw [dX7_stamp_32, ey_ok, nx_iload_n_1] <;> rfl
theorem qX7_stamp_33 : ey FX7 ini rt fin K0 K (decode cX7_stamp 33) 33 L (st) h cs ss = (lhas L 0 ∧ isRf (lgt L 0) ∧ K 34 L (lgt L 0 :: st) h cs ss) := by
  rw [dX7_stamp_33, ey_ok, nx_aload_n_3] <;> rfl
theorem qX7_stamp_34 : ey FX7 ini rt fin K0 K (decode cX7_stamp 34) 34 L (.ref a :: r) h cs ss = (h.1 a = some (.inl 7) ∧ K 37 L (h.2 a 0 :: r) h cs ss) := by
  rw [dX7_stamp_34, ey_ok, nx_getfield_54]
  exact and_l rfl
theorem qX7_stamp_37 : ey FX7 ini rt fin K0 K (decode cX7_stamp 37) 37 L (.int y :: .int x :: r) h cs ss = (if y < x then K 44 L r h cs ss else K 40 L r h cs ss) := by
  rw [dX7_stamp_37, ey_ok, nx_if_icmp_40]
  exact and_l (by unfold jok; decide)
theorem qX7_stamp_40 : ey FX7 ini rt fin K0 K (decode cX7_stamp 40) 40 L (st) h cs ss = (K 41 L (.int 1 :: st) h cs ss) := by
  rw [dX7_stamp_40, ey_ok, nx_iconst_11] <;> rfl
theorem qX7_stamp_41 : ey FX7 ini rt fin K0 K (decode cX7_stamp 41) 41 L (st) h cs ss = (K 45 L st h cs ss) := by
  rw [dX7_stamp_41, ey_ok, nx_goto_29]
  exact and_l (by unfold jok; decide)
theorem qX7_stamp_44 : ey FX7 ini rt fin K0 K (decode cX7_stamp 44) 44 L (st) h cs ss = (K 45 L (.int 0 :: st) h cs ss) := by
  rw [dX7_stamp_44, ey_ok, nx_iconst_11] <;> rfl
theorem qX7_stamp_45 : ey FX7 ini rt fin K0 K (decode cX7_stamp 45) 45 L (.int x :: r) h cs ss = (5 < L.length ∧ K 47 (L.set 5 (some (.int x))) r h cs ss) := by
  rw [dX7_stamp_45, ey_ok, nx_istore_4] <;> rfl
theorem qX7_stamp_47 : ey FX7 ini rt fin K0 K (decode cX7_stamp 47) 47 L (st) h cs ss = (lhas L 0 ∧ isRf (lgt L 0) ∧ K 48 L (lgt L 0 :: st) h cs ss) := by
  rw [dX7_stamp_47, ey_ok, nx_aload_n_3] <;> rfl
theorem qX7_stamp_48 : ey FX7 ini rt fin K0 K (decode cX7_stamp 48) 48 L (st) h cs ss = (lhas L 4 ∧ isI (lgt L 4) ∧ K 50 L (lgt L 4 :: st) h cs ss) := by
  rw [dX7_stamp_48, ey_ok, nx_iload_0] <;> rfl
theorem qX7_stamp_50 : ey FX7 ini rt fin K0 K (decode cX7_stamp 50) 50 L (st) h cs ss = (lhas L 5 ∧ isI (lgt L 5) ∧ K 52 L (lgt L 5 :: st) h cs ss) := by
  rw [dX7_stamp_50, ey_ok, nx_iload_0] <;> rfl
theorem qX7_stamp_52 : ey FX7 ini rt fin K0 K (decode cX7_stamp 52) 52 L (st) h cs ss = (lhas L 4 ∧ isI (lgt L 4) ∧ K 54 L (lgt L 4 :: st) h cs ss) := by
  rw [dX7_stamp_52, ey_ok, nx_iload_0] <;> rfl
theorem qX7_stamp_54 : ey FX7 ini rt fin K0 K (decode cX7_stamp 54) 54 L (.int x :: r) h cs ss = (if x = 0 then K 87 L r h cs ss else K 57 L r h cs ss) := by
  rw [dX7_stamp_54, ey_ok, nx_ifond_30]
  exact and_l (by unfold jok; decide)
theorem qX7_stamp_57 : ey FX7 ini rt fin K0 K (decode cX7_stamp 57) 57 L (st) h cs ss = (lhas L 0 ∧ isRf (lgt L 0) ∧ K 58 L (lgt L 0 :: st) h cs ss) := by
  rw [dX7_stamp_57, ey_ok, nx_aload_n_3] <;> rfl
theorem qX7_stamp_58 : ey FX7 ini rt fin K0 K (decode cX7_stamp 58) 58 L (.ref a :: r) h cs ss = (h.1 a = some (.inl 7) ∧ K 61 L (h.2 a 7 :: r) h cs ss) := by
  rw [dX7_stamp_58, ey_ok, nx_getfield_54]
  exact and_l rfl
theorem qX7_stamp_61 : ey FX7 ini rt fin K0 K (decode cX7_stamp 61) 61 L (st) h cs ss = (lhas L 1 ∧ isI (lgt L 1) ∧ K 62 L (lgt L 1 :: st) h cs ss) := by
  rw [dX7_stamp_61, ey_ok, nx_iload_n_1] <;> rfl
theorem qX7_stamp_62 : ey FX7 ini rt fin K0 K (decode cX7_stamp 62) 62 L (.int i :: .ref a :: r) h cs ss = (isA (h.1 a) (fun k m => k = 0 ∧ vp_in i m) ∧ K 63 L (h.2 a i.toNatClampNeg :: r) h cs ss) := by
  rw [dX7_stamp_62, ey_ok, nx_iaload_57]
theorem qX7_stamp_63 : ey FX7 ini rt fin K0 K (decode cX7_stamp 63) 63 L (st) h cs ss = (K 64 L (.int (-1) :: st) h cs ss) := by
  rw [dX7_stamp_63, ey_ok, nx_iconst_11] <;> rfl
theorem qX7_stamp_64 : ey FX7 ini rt fin K0 K (decode cX7_stamp 64) 64 L (.int y :: .int x :: r) h cs ss = (if x = y then K 87 L r h cs ss else K 67 L r h cs ss) := by
  rw [dX7_stamp_64, ey_ok, nx_if_icmp_36]
  exact and_l (by unfold jok; decide)
theorem qX7_stamp_67 : ey FX7 ini rt fin K0 K (decode cX7_stamp 67) 67 L (st) h cs ss = (lhas L 0 ∧ isRf (lgt L 0) ∧ K 68 L (lgt L 0 :: st) h cs ss) := by
  rw [dX7_stamp_67, ey_ok, nx_aload_n_3] <;> rfl
theorem qX7_stamp_68 : ey FX7 ini rt fin K0 K (decode cX7_stamp 68) 68 L (.ref a :: r) h cs ss = (h.1 a = some (.inl 7) ∧ K 71 L (h.2 a 0 :: r) h cs ss) := by
  rw [dX7_stamp_68, ey_ok, nx_getfield_54]
  exact and_l rfl
theorem qX7_stamp_71 : ey FX7 ini rt fin K0 K (decode cX7_stamp 71) 71 L (st) h cs ss = (lhas L 0 ∧ isRf (lgt L 0) ∧ K 72 L (lgt L 0 :: st) h cs ss) := by
  rw [dX7_stamp_71, ey_ok, nx_aload_n_3] <;> rfl
theorem qX7_stamp_72 : ey FX7 ini rt fin K0 K (decode cX7_stamp 72) 72 L (.ref a :: r) h cs ss = (h.1 a = some (.inl 7) ∧ K 75 L (h.2 a 5 :: r) h cs ss) := by
  rw [dX7_stamp_72, ey_ok, nx_getfield_54]
  exact and_l rfl
theorem qX7_stamp_75 : ey FX7 ini rt fin K0 K (decode cX7_stamp 75) 75 L (st) h cs ss = (lhas L 1 ∧ isI (lgt L 1) ∧ K 76 L (lgt L 1 :: st) h cs ss) := by
  rw [dX7_stamp_75, ey_ok, nx_iload_n_1] <;> rfl
theorem qX7_stamp_76 : ey FX7 ini rt fin K0 K (decode cX7_stamp 76) 76 L (.int i :: .ref a :: r) h cs ss = (isA (h.1 a) (fun k m => k = 0 ∧ vp_in i m) ∧ K 77 L (h.2 a i.toNatClampNeg :: r) h cs ss) := by
  rw [dX7_stamp_76, ey_ok, nx_iaload_57]
theorem qX7_stamp_77 : ey FX7 ini rt fin K0 K (decode cX7_stamp 77) 77 L (st) h cs ss = (K 79 L (.int 100 :: st) h cs ss) := by
  rw [dX7_stamp_77, ey_ok, nx_bipush_12] <;> rfl
theorem qX7_stamp_79 : ey FX7 ini rt fin K0 K (decode cX7_stamp 79) 79 L (.int y :: .int x :: r) h cs ss = (K 80 L (.int (x + y) :: r) h cs ss) := by
  rw [dX7_stamp_79, ey_ok, nx_iadd_16]
theorem qX7_stamp_80 : ey FX7 ini rt fin K0 K (decode cX7_stamp 80) 80 L (.int y :: .int x :: r) h cs ss = (if y < x then K 87 L r h cs ss else K 83 L r h cs ss) := by
  rw [dX7_stamp_80, ey_ok, nx_if_icmp_40]
  exact and_l (by unfold jok; decide)
theorem qX7_stamp_83 : ey FX7 ini rt fin K0 K (decode cX7_stamp 83) 83 L (st) h cs ss = (K 84 L (.int 1 :: st) h cs ss) := by
  rw [dX7_stamp_83, ey_ok, nx_iconst_11] <;> rfl
theorem qX7_stamp_84 : ey FX7 ini rt fin K0 K (decode cX7_stamp 84) 84 L (st) h cs ss = (K 88 L st h cs ss) := by
  rw [dX7_stamp_84, ey_ok, nx_goto_29]
  exact and_l (by unfold jok; decide)
theorem qX7_stamp_87 : ey FX7 ini rt fin K0 K (decode cX7_stamp 87) 87 L (st) h cs ss = (K 88 L (.int 0 :: st) h cs ss) := by
  rw [dX7_stamp_87, ey_ok, nx_iconst_11] <;> rfl
theorem qX7_stamp_88 : ey FX7 ini rt fin K0 K (decode cX7_stamp 88) 88 L (st) h cs ss = (K0 88 L st h cs ss) := by
  rw [dX7_stamp_88, ey_ok, nx_invokevirtual_72]
theorem qX7_stamp_91 : ey FX7 ini rt fin K0 K (decode cX7_stamp 91) 91 L (.int x :: r) h cs ss = (if ¬ x = 0 then K 96 L r h cs ss else K 94 L r h cs ss) := by
  rw [dX7_stamp_91, ey_ok, nx_ifond_31]
  exact and_l (by unfold jok; decide)
theorem qX7_stamp_94 : ey FX7 ini rt fin K0 K (decode cX7_stamp 94) 94 L (st) h cs ss = (K 95 L (.int 0 :: st) h cs ss) := by
  rw [dX7_stamp_94, ey_ok, nx_iconst_11] <;> rfl
theorem qX7_stamp_95 : ey FX7 ini rt fin K0 K (decode cX7_stamp 95) 95 L ([.int x]) h cs ss = (rokI rt x ∧ fin (some (.int x)) h cs ss) := by
  rw [dX7_stamp_95, ey_ok, nx_ireturn_68]
theorem qX7_stamp_96 : ey FX7 ini rt fin K0 K (decode cX7_stamp 96) 96 L (st) h cs ss = (lhas L 0 ∧ isRf (lgt L 0) ∧ K 97 L (lgt L 0 :: st) h cs ss) := by
  rw [dX7_stamp_96, ey_ok, nx_aload_n_3] <;> rfl
theorem qX7_stamp_97 : ey FX7 ini rt fin K0 K (decode cX7_stamp 97) 97 L (.ref a :: r) h cs ss = (h.1 a = some (.inl 7) ∧ K 100 L (h.2 a 8 :: r) h cs ss) := by
  rw [dX7_stamp_97, ey_ok, nx_getfield_54]
  exact and_l rfl
theorem qX7_stamp_100 : ey FX7 ini rt fin K0 K (decode cX7_stamp 100) 100 L (st) h cs ss = (lhas L 1 ∧ isI (lgt L 1) ∧ K 101 L (lgt L 1 :: st) h cs ss) := by
  rw [dX7_stamp_100, ey_ok, nx_iload_n_1] <;> rfl
theorem qX7_stamp_101 : ey FX7 ini rt fin K0 K (decode cX7_stamp 101) 101 L (st) h cs ss = (lhas L 2 ∧ isI (lgt L 2) ∧ K 102 L (lgt L 2 :: st) h cs ss) := by
  rw [dX7_stamp_101, ey_ok, nx_iload_n_1] <;> rfl
theorem qX7_stamp_102 : ey FX7 ini rt fin K0 K (decode cX7_stamp 102) 102 L (.int x :: .int i :: .ref a :: r) h cs ss = (isA (h.1 a) (fun k m => k = 0 ∧ vp_in i m) ∧ K 103 L r (h.1, hup h.2 a i.toNatClampNeg (.int x)) cs ss) := by
  rw [dX7_stamp_102, ey_ok, nx_iastore_62]
theorem qX7_stamp_103 : ey FX7 ini rt fin K0 K (decode cX7_stamp 103) 103 L (st) h cs ss = (lhas L 0 ∧ isRf (lgt L 0) ∧ K 104 L (lgt L 0 :: st) h cs ss) := by
  rw [dX7_stamp_103, ey_ok, nx_aload_n_3] <;> rfl
theorem qX7_stamp_104 : ey FX7 ini rt fin K0 K (decode cX7_stamp 104) 104 L (.ref a :: r) h cs ss = (h.1 a = some (.inl 7) ∧ K 107 L (h.2 a 9 :: r) h cs ss) := by
  rw [dX7_stamp_104, ey_ok, nx_getfield_54]
  exact and_l rfl
theorem qX7_stamp_107 : ey FX7 ini rt fin K0 K (decode cX7_stamp 107) 107 L (st) h cs ss = (lhas L 1 ∧ isI (lgt L 1) ∧ K 108 L (lgt L 1 :: st) h cs ss) := by
  rw [dX7_stamp_107, ey_ok, nx_iload_n_1] <;> rfl
theorem qX7_stamp_108 : ey FX7 ini rt fin K0 K (decode cX7_stamp 108) 108 L (st) h cs ss = (lhas L 3 ∧ isI (lgt L 3) ∧ K 109 L (lgt L 3 :: st) h cs ss) := by
  rw [dX7_stamp_108, ey_ok, nx_iload_n_1] <;> rfl
theorem qX7_stamp_109 : ey FX7 ini rt fin K0 K (decode cX7_stamp 109) 109 L (.int x :: .int i :: .ref a :: r) h cs ss = (isA (h.1 a) (fun k m => k = 0 ∧ vp_in i m) ∧ K 110 L r (h.1, hup h.2 a i.toNatClampNeg (.int x)) cs ss) := by
  rw [dX7_stamp_109, ey_ok, nx_iastore_62]
theorem qX7_stamp_110 : ey FX7 ini rt fin K0 K (decode cX7_stamp 110) 110 L (st) h cs ss = (lhas L 0 ∧ isRf (lgt L 0) ∧ K 111 L (lgt L 0 :: st) h cs ss) := by
  rw [dX7_stamp_110, ey_ok, nx_aload_n_3] <;> rfl
theorem qX7_stamp_111 : ey FX7 ini rt fin K0 K (decode cX7_stamp 111) 111 L (st) h cs ss = (K0 111 L st h cs ss) := by
  rw [dX7_stamp_111, ey_ok, nx_invokevirtual_72]
theorem qX7_stamp_114 : ey FX7 ini rt fin K0 K (decode cX7_stamp 114) 114 L (v :: r) h cs ss = (v.category = 1 ∧ K 115 L r h cs ss) := by
  rw [dX7_stamp_114, ey_ok, nx_pop_28]
theorem qX7_stamp_115 : ey FX7 ini rt fin K0 K (decode cX7_stamp 115) 115 L (st) h cs ss = (lhas L 3 ∧ isI (lgt L 3) ∧ K 116 L (lgt L 3 :: st) h cs ss) := by
  rw [dX7_stamp_115, ey_ok, nx_iload_n_1] <;> rfl
theorem qX7_stamp_116 : ey FX7 ini rt fin K0 K (decode cX7_stamp 116) 116 L (st) h cs ss = (lhas L 2 ∧ isI (lgt L 2) ∧ K 117 L (lgt L 2 :: st) h cs ss) := by
  rw [dX7_stamp_116, ey_ok, nx_iload_n_1] <;> rfl
theorem qX7_stamp_117 : ey FX7 ini rt fin K0 K (decode cX7_stamp 117) 117 L (.int y :: .int x :: r) h cs ss = (K 118 L (.int (x - y) :: r) h cs ss) := by
  rw [dX7_stamp_117, ey_ok, nx_isub_17]
theorem qX7_stamp_118 : ey FX7 ini rt fin K0 K (decode cX7_stamp 118) 118 L (st) h cs ss = (lhas L 0 ∧ isRf (lgt L 0) ∧ K 119 L (lgt L 0 :: st) h cs ss) := by
  rw [dX7_stamp_118, ey_ok, nx_aload_n_3] <;> rfl
theorem qX7_stamp_119 : ey FX7 ini rt fin K0 K (decode cX7_stamp 119) 119 L (.ref a :: r) h cs ss = (h.1 a = some (.inl 7) ∧ K 122 L (h.2 a 5 :: r) h cs ss) := by
  rw [dX7_stamp_119, ey_ok, nx_getfield_54]
  exact and_l rfl
theorem qX7_stamp_122 : ey FX7 ini rt fin K0 K (decode cX7_stamp 122) 122 L (st) h cs ss = (lhas L 1 ∧ isI (lgt L 1) ∧ K 123 L (lgt L 1 :: st) h cs ss) := by
  rw [dX7_stamp_122, ey_ok, nx_iload_n_1] <;> rfl
theorem qX7_stamp_123 : ey FX7 ini rt fin K0 K (decode cX7_stamp 123) 123 L (.int i :: .ref a :: r) h cs ss = (isA (h.1 a) (fun k m => k = 0 ∧ vp_in i m) ∧ K 124 L (h.2 a i.toNatClampNeg :: r) h cs ss) := by
  rw [dX7_stamp_123, ey_ok, nx_iaload_57]
theorem qX7_stamp_124 : ey FX7 ini rt fin K0 K (decode cX7_stamp 124) 124 L (st) h cs ss = (lhas L 0 ∧ isRf (lgt L 0) ∧ K 125 L (lgt L 0 :: st) h cs ss) := by
  rw [dX7_stamp_124, ey_ok, nx_aload_n_3] <;> rfl
theorem qX7_stamp_125 : ey FX7 ini rt fin K0 K (decode cX7_stamp 125) 125 L (.ref a :: r) h cs ss = (h.1 a = some (.inl 7) ∧ K 128 L (h.2 a 4 :: r) h cs ss) := by
  rw [dX7_stamp_125, ey_ok, nx_getfield_54]
  exact and_l rfl
theorem qX7_stamp_128 : ey FX7 ini rt fin K0 K (decode cX7_stamp 128) 128 L (st) h cs ss = (lhas L 1 ∧ isI (lgt L 1) ∧ K 129 L (lgt L 1 :: st) h cs ss) := by
  rw [dX7_stamp_128, ey_ok, nx_iload_n_1] <;> rfl
theorem qX7_stamp_129 : ey FX7 ini rt fin K0 K (decode cX7_stamp 129) 129 L (.int i :: .ref a :: r) h cs ss = (isA (h.1 a) (fun k m => k = 0 ∧ vp_in i m) ∧ K 130 L (h.2 a i.toNatClampNeg :: r) h cs ss) := by
  rw [dX7_stamp_129, ey_ok, nx_iaload_57]
theorem qX7_stamp_130 : ey FX7 ini rt fin K0 K (decode cX7_stamp 130) 130 L (.int y :: .int x :: r) h cs ss = (K 131 L (.int (x - y) :: r) h cs ss) := by
  rw [dX7_stamp_130, ey_ok, nx_isub_17]
theorem qX7_stamp_131 : ey FX7 ini rt fin K0 K (decode cX7_stamp 131) 131 L (.int y :: .int x :: r) h cs ss = (K 132 L (.int (x - y) :: r) h cs ss) := by
  rw [dX7_stamp_131, ey_ok, nx_isub_17]
theorem qX7_stamp_132 : ey FX7 ini rt fin K0 K (decode cX7_stamp 132) 132 L ([.int x]) h cs ss = (rokI rt x ∧ fin (some (.int x)) h cs ss) := by
  rw [dX7_stamp_132, ey_ok, nx_ireturn_68]
theorem qX7_holder_0 : ey FX7 ini rt fin K0 K (decode cX7_holder 0) 0 L (st) h cs ss = (lhas L 0 ∧ isRf (lgt L 0) ∧ K 1 L (lgt L 0 :: st) h cs ss) := by
  rw [dX7_holder_0, ey_ok, nx_aload_n_3] <;> rfl
theorem qX7_holder_1 : ey FX7 ini rt fin K0 K (decode cX7_holder 1) 1 L (st) h cs ss = (lhas L 0 ∧ isRf (lgt L 0) ∧ K 2 L (lgt L 0 :: st) h cs ss) := by
  rw [dX7_holder_1, ey_ok, nx_aload_n_3] <;> rfl
theorem qX7_holder_2 : ey FX7 ini rt fin K0 K (decode cX7_holder 2) 2 L (st) h cs ss = (lhas L 1 ∧ isI (lgt L 1) ∧ K 3 L (lgt L 1 :: st) h cs ss) := by
  rw [dX7_holder_2, ey_ok, nx_iload_n_1] <;> rfl
theorem qX7_holder_3 : ey FX7 ini rt fin K0 K (decode cX7_holder 3) 3 L (st) h cs ss = (K0 3 L st h cs ss) := by
  rw [dX7_holder_3, ey_ok, nx_invokevirtual_72]
theorem qX7_holder_6 : ey FX7 ini rt fin K0 K (decode cX7_holder 6) 6 L (st) h cs ss = (K0 6 L st h cs ss) := by
  rw [dX7_holder_6, ey_ok, nx_invokevirtual_72]
theorem qX7_holder_9 : ey FX7 ini rt fin K0 K (decode cX7_holder 9) 9 L (.int x :: r) h cs ss = (if x = 0 then K 21 L r h cs ss else K 12 L r h cs ss) := by
  rw [dX7_holder_9, ey_ok, nx_ifond_30]
  exact and_l (by unfold jok; decide)
theorem qX7_holder_12 : ey FX7 ini rt fin K0 K (decode cX7_holder 12) 12 L (st) h cs ss = (lhas L 0 ∧ isRf (lgt L 0) ∧ K 13 L (lgt L 0 :: st) h cs ss) := by
  rw [dX7_holder_12, ey_ok, nx_aload_n_3] <;> rfl
theorem qX7_holder_13 : ey FX7 ini rt fin K0 K (decode cX7_holder 13) 13 L (.ref a :: r) h cs ss = (h.1 a = some (.inl 7) ∧ K 16 L (h.2 a 7 :: r) h cs ss) := by
  rw [dX7_holder_13, ey_ok, nx_getfield_54]
  exact and_l rfl
theorem qX7_holder_16 : ey FX7 ini rt fin K0 K (decode cX7_holder 16) 16 L (st) h cs ss = (lhas L 1 ∧ isI (lgt L 1) ∧ K 17 L (lgt L 1 :: st) h cs ss) := by
  rw [dX7_holder_16, ey_ok, nx_iload_n_1] <;> rfl
theorem qX7_holder_17 : ey FX7 ini rt fin K0 K (decode cX7_holder 17) 17 L (.int i :: .ref a :: r) h cs ss = (isA (h.1 a) (fun k m => k = 0 ∧ vp_in i m) ∧ K 18 L (h.2 a i.toNatClampNeg :: r) h cs ss) := by
  rw [dX7_holder_17, ey_ok, nx_iaload_57]
theorem qX7_holder_18 : ey FX7 ini rt fin K0 K (decode cX7_holder 18) 18 L (st) h cs ss = (K 22 L st h cs ss) := by
  rw [dX7_holder_18, ey_ok, nx_goto_29]
  exact and_l (by unfold jok; decide)
theorem qX7_holder_21 : ey FX7 ini rt fin K0 K (decode cX7_holder 21) 21 L (st) h cs ss = (K 22 L (.int 0 :: st) h cs ss) := by
  rw [dX7_holder_21, ey_ok, nx_iconst_11] <;> rfl
theorem qX7_holder_22 : ey FX7 ini rt fin K0 K (decode cX7_holder 22) 22 L ([.int x]) h cs ss = (rokI rt x ∧ fin (some (.int x)) h cs ss) := by
  rw [dX7_holder_22, ey_ok, nx_ireturn_68]
theorem qX7_isAhead_0 : ey FX7 ini rt fin K0 K (decode cX7_isAhead 0) 0 L (st) h cs ss = (lhas L 0 ∧ isRf (lgt L 0) ∧ K 1 L (lgt L 0 :: st) h cs ss) := by
  rw [dX7_isAhead_0, ey_ok, nx_aload_n_3] <;> rfl
theorem qX7_isAhead_1 : ey FX7 ini rt fin K0 K (decode cX7_isAhead 1) 1 L (.ref a :: r) h cs ss = (h.1 a = some (.inl 7) ∧ K 4 L (h.2 a 7 :: r) h cs ss) := by
  rw [dX7_isAhead_1, ey_ok, nx_getfield_54]
  exact and_l rfl
theorem qX7_isAhead_4 : ey FX7 ini rt fin K0 K (decode cX7_isAhead 4) 4 L (st) h cs ss = (lhas L 1 ∧ isI (lgt L 1) ∧ K 5 L (lgt L 1 :: st) h cs ss) := by
  rw [dX7_isAhead_4, ey_ok, nx_iload_n_1] <;> rfl
theorem qX7_isAhead_5 : ey FX7 ini rt fin K0 K (decode cX7_isAhead 5) 5 L (.int i :: .ref a :: r) h cs ss = (isA (h.1 a) (fun k m => k = 0 ∧ vp_in i m) ∧ K 6 L (h.2 a i.toNatClampNeg :: r) h cs ss) := by
  rw [dX7_isAhead_5, ey_ok, nx_iaload_57]
theorem qX7_isAhead_6 : ey FX7 ini rt fin K0 K (decode cX7_isAhead 6) 6 L (st) h cs ss = (lhas L 0 ∧ isRf (lgt L 0) ∧ K 7 L (lgt L 0 :: st) h cs ss) := by
  rw [dX7_isAhead_6, ey_ok, nx_aload_n_3] <;> rfl
theorem qX7_isAhead_7 : ey FX7 ini rt fin K0 K (decode cX7_isAhead 7) 7 L (.ref a :: r) h cs ss = (h.1 a = some (.inl 7) ∧ K 10 L (h.2 a 7 :: r) h cs ss) := by
  rw [dX7_isAhead_7, ey_ok, nx_getfield_54]
  exact and_l rfl
theorem qX7_isAhead_10 : ey FX7 ini rt fin K0 K (decode cX7_isAhead 10) 10 L (st) h cs ss = (lhas L 2 ∧ isI (lgt L 2) ∧ K 11 L (lgt L 2 :: st) h cs ss) := by
  rw [dX7_isAhead_10, ey_ok, nx_iload_n_1] <;> rfl
theorem qX7_isAhead_11 : ey FX7 ini rt fin K0 K (decode cX7_isAhead 11) 11 L (.int i :: .ref a :: r) h cs ss = (isA (h.1 a) (fun k m => k = 0 ∧ vp_in i m) ∧ K 12 L (h.2 a i.toNatClampNeg :: r) h cs ss) := by
  rw [dX7_isAhead_11, ey_ok, nx_iaload_57]
theorem qX7_isAhead_12 : ey FX7 ini rt fin K0 K (decode cX7_isAhead 12) 12 L (.int y :: .int x :: r) h cs ss = (if ¬ x = y then K 54 L r h cs ss else K 15 L r h cs ss) := by
  rw [dX7_isAhead_12, ey_ok, nx_if_icmp_37]
  exact and_l (by unfold jok; decide)
theorem qX7_isAhead_15 : ey FX7 ini rt fin K0 K (decode cX7_isAhead 15) 15 L (st) h cs ss = (lhas L 0 ∧ isRf (lgt L 0) ∧ K 16 L (lgt L 0 :: st) h cs ss) := by
  rw [dX7_isAhead_15, ey_ok, nx_aload_n_3] <;> rfl
theorem qX7_isAhead_16 : ey FX7 ini rt fin K0 K (decode cX7_isAhead 16) 16 L (.ref a :: r) h cs ss = (h.1 a = some (.inl 7) ∧ K 19 L (h.2 a 8 :: r) h cs ss) := by
  rw [dX7_isAhead_16, ey_ok, nx_getfield_54]
  exact and_l rfl
theorem qX7_isAhead_19 : ey FX7 ini rt fin K0 K (decode cX7_isAhead 19) 19 L (st) h cs ss = (lhas L 1 ∧ isI (lgt L 1) ∧ K 20 L (lgt L 1 :: st) h cs ss) := by
  rw [dX7_isAhead_19, ey_ok, nx_iload_n_1] <;> rfl
theorem qX7_isAhead_20 : ey FX7 ini rt fin K0 K (decode cX7_isAhead 20) 20 L (.int i :: .ref a :: r) h cs ss = (isA (h.1 a) (fun k m => k = 0 ∧ vp_in i m) ∧ K 21 L (h.2 a i.toNatClampNeg :: r) h cs ss) := by
  rw [dX7_isAhead_20, ey_ok, nx_iaload_57]
theorem qX7_isAhead_21 : ey FX7 ini rt fin K0 K (decode cX7_isAhead 21) 21 L (st) h cs ss = (lhas L 0 ∧ isRf (lgt L 0) ∧ K 22 L (lgt L 0 :: st) h cs ss) := by
  rw [dX7_isAhead_21, ey_ok, nx_aload_n_3] <;> rfl
theorem qX7_isAhead_22 : ey FX7 ini rt fin K0 K (decode cX7_isAhead 22) 22 L (.ref a :: r) h cs ss = (h.1 a = some (.inl 7) ∧ K 25 L (h.2 a 8 :: r) h cs ss) := by
  rw [dX7_isAhead_22, ey_ok, nx_getfield_54]
  exact and_l rfl
theorem qX7_isAhead_25 : ey FX7 ini rt fin K0 K (decode cX7_isAhead 25) 25 L (st) h cs ss = (lhas L 2 ∧ isI (lgt L 2) ∧ K 26 L (lgt L 2 :: st) h cs ss) := by
  rw [dX7_isAhead_25, ey_ok, nx_iload_n_1] <;> rfl
theorem qX7_isAhead_26 : ey FX7 ini rt fin K0 K (decode cX7_isAhead 26) 26 L (.int i :: .ref a :: r) h cs ss = (isA (h.1 a) (fun k m => k = 0 ∧ vp_in i m) ∧ K 27 L (h.2 a i.toNatClampNeg :: r) h cs ss) := by
  rw [dX7_isAhead_26, ey_ok, nx_iaload_57]
theorem qX7_isAhead_27 : ey FX7 ini rt fin K0 K (decode cX7_isAhead 27) 27 L (.int y :: .int x :: r) h cs ss = (if x < y then K 50 L r h cs ss else K 30 L r h cs ss) := by
  rw [dX7_isAhead_27, ey_ok, nx_if_icmp_38]
  exact and_l (by unfold jok; decide)
theorem qX7_isAhead_30 : ey FX7 ini rt fin K0 K (decode cX7_isAhead 30) 30 L (st) h cs ss = (lhas L 0 ∧ isRf (lgt L 0) ∧ K 31 L (lgt L 0 :: st) h cs ss) := by
  rw [dX7_isAhead_30, ey_ok, nx_aload_n_3] <;> rfl
theorem qX7_isAhead_31 : ey FX7 ini rt fin K0 K (decode cX7_isAhead 31) 31 L (.ref a :: r) h cs ss = (h.1 a = some (.inl 7) ∧ K 34 L (h.2 a 8 :: r) h cs ss) := by
  rw [dX7_isAhead_31, ey_ok, nx_getfield_54]
  exact and_l rfl
theorem qX7_isAhead_34 : ey FX7 ini rt fin K0 K (decode cX7_isAhead 34) 34 L (st) h cs ss = (lhas L 1 ∧ isI (lgt L 1) ∧ K 35 L (lgt L 1 :: st) h cs ss) := by
  rw [dX7_isAhead_34, ey_ok, nx_iload_n_1] <;> rfl
theorem qX7_isAhead_35 : ey FX7 ini rt fin K0 K (decode cX7_isAhead 35) 35 L (.int i :: .ref a :: r) h cs ss = (isA (h.1 a) (fun k m => k = 0 ∧ vp_in i m) ∧ K 36 L (h.2 a i.toNatClampNeg :: r) h cs ss) := by
  rw [dX7_isAhead_35, ey_ok, nx_iaload_57]
theorem qX7_isAhead_36 : ey FX7 ini rt fin K0 K (decode cX7_isAhead 36) 36 L (st) h cs ss = (lhas L 0 ∧ isRf (lgt L 0) ∧ K 37 L (lgt L 0 :: st) h cs ss) := by
  rw [dX7_isAhead_36, ey_ok, nx_aload_n_3] <;> rfl
theorem qX7_isAhead_37 : ey FX7 ini rt fin K0 K (decode cX7_isAhead 37) 37 L (.ref a :: r) h cs ss = (h.1 a = some (.inl 7) ∧ K 40 L (h.2 a 8 :: r) h cs ss) := by
  rw [dX7_isAhead_37, ey_ok, nx_getfield_54]
  exact and_l rfl
theorem qX7_isAhead_40 : ey FX7 ini rt fin K0 K (decode cX7_isAhead 40) 40 L (st) h cs ss = (lhas L 2 ∧ isI (lgt L 2) ∧ K 41 L (lgt L 2 :: st) h cs ss) := by
  rw [dX7_isAhead_40, ey_ok, nx_iload_n_1] <;> rfl
theorem qX7_isAhead_41 : ey FX7 ini rt fin K0 K (decode cX7_isAhead 41) 41 L (.int i :: .ref a :: r) h cs ss = (isA (h.1 a) (fun k m => k = 0 ∧ vp_in i m) ∧ K 42 L (h.2 a i.toNatClampNeg :: r) h cs ss) := by
  rw [dX7_isAhead_41, ey_ok, nx_iaload_57]
theorem qX7_isAhead_42 : ey FX7 ini rt fin K0 K (decode cX7_isAhead 42) 42 L (.int y :: .int x :: r) h cs ss = (if ¬ x = y then K 54 L r h cs ss else K 45 L r h cs ss) := by
  rw [dX7_isAhead_42, ey_ok, nx_if_icmp_37]
  exact and_l (by unfold jok; decide)
theorem qX7_isAhead_45 : ey FX7 ini rt fin K0 K (decode cX7_isAhead 45) 45 L (st) h cs ss = (lhas L 1 ∧ isI (lgt L 1) ∧ K 46 L (lgt L 1 :: st) h cs ss) := by
  rw [dX7_isAhead_45, ey_ok, nx_iload_n_1] <;> rfl
theorem qX7_isAhead_46 : ey FX7 ini rt fin K0 K (decode cX7_isAhead 46) 46 L (st) h cs ss = (lhas L 2 ∧ isI (lgt L 2) ∧ K 47 L (lgt L 2 :: st) h cs ss) := by
  rw [dX7_isAhead_46, ey_ok, nx_iload_n_1] <;> rfl
theorem qX7_isAhead_47 : ey FX7 ini rt fin K0 K (decode cX7_isAhead 47) 47 L (.int y :: .int x :: r) h cs ss = (if y ≤ x then K 54 L r h cs ss else K 50 L r h cs ss) := by
  rw [dX7_isAhead_47, ey_ok, nx_if_icmp_39]
  exact and_l (by unfold jok; decide)
theorem qX7_isAhead_50 : ey FX7 ini rt fin K0 K (decode cX7_isAhead 50) 50 L (st) h cs ss = (K 51 L (.int 1 :: st) h cs ss) := by
  rw [dX7_isAhead_50, ey_ok, nx_iconst_11] <;> rfl
theorem qX7_isAhead_51 : ey FX7 ini rt fin K0 K (decode cX7_isAhead 51) 51 L (st) h cs ss = (K 55 L st h cs ss) := by
  rw [dX7_isAhead_51, ey_ok, nx_goto_29]
  exact and_l (by unfold jok; decide)
theorem qX7_isAhead_54 : ey FX7 ini rt fin K0 K (decode cX7_isAhead 54) 54 L (st) h cs ss = (K 55 L (.int 0 :: st) h cs ss) := by
  rw [dX7_isAhead_54, ey_ok, nx_iconst_11] <;> rfl
theorem qX7_isAhead_55 : ey FX7 ini rt fin K0 K (decode cX7_isAhead 55) 55 L ([.int x]) h cs ss = (rokI rt x ∧ fin (some (.int x)) h cs ss) := by
  rw [dX7_isAhead_55, ey_ok, nx_ireturn_68]
theorem qX7_shiftOf_0 : ey FX7 ini rt fin K0 K (decode cX7_shiftOf 0) 0 L (st) h cs ss = (K 1 L (.int (-1) :: st) h cs ss) := by
  rw [dX7_shiftOf_0, ey_ok, nx_iconst_11] <;> rfl
theorem qX7_shiftOf_1 : ey FX7 ini rt fin K0 K (decode cX7_shiftOf 1) 1 L (.int x :: r) h cs ss = (3 < L.length ∧ K 2 (L.set 3 (some (.int x))) r h cs ss) := by
  rw [dX7_shiftOf_1, ey_ok, nx_istore_n_5] <;> rfl
theorem qX7_shiftOf_2 : ey FX7 ini rt fin K0 K (decode cX7_shiftOf 2) 2 L (st) h cs ss = (K 3 L (.int 0 :: st) h cs ss) := by
  rw [dX7_shiftOf_2, ey_ok, nx_iconst_11] <;> rfl
theorem qX7_shiftOf_3 : ey FX7 ini rt fin K0 K (decode cX7_shiftOf 3) 3 L (.int x :: r) h cs ss = (4 < L.length ∧ K 5 (L.set 4 (some (.int x))) r h cs ss) := by
  rw [dX7_shiftOf_3, ey_ok, nx_istore_4] <;> rfl
theorem qX7_shiftOf_5 : ey FX7 ini rt fin K0 K (decode cX7_shiftOf 5) 5 L (st) h cs ss = (lhas L 4 ∧ isI (lgt L 4) ∧ K 7 L (lgt L 4 :: st) h cs ss) := by
  rw [dX7_shiftOf_5, ey_ok, nx_iload_0] <;> rfl
theorem qX7_shiftOf_7 : ey FX7 ini rt fin K0 K (decode cX7_shiftOf 7) 7 L (st) h cs ss = (lhas L 0 ∧ isRf (lgt L 0) ∧ K 8 L (lgt L 0 :: st) h cs ss) := by
  rw [dX7_shiftOf_7, ey_ok, nx_aload_n_3] <;> rfl
theorem qX7_shiftOf_8 : ey FX7 ini rt fin K0 K (decode cX7_shiftOf 8) 8 L (.ref a :: r) h cs ss = (h.1 a = some (.inl 7) ∧ K 11 L (h.2 a 3 :: r) h cs ss) := by
  rw [dX7_shiftOf_8, ey_ok, nx_getfield_54]
  exact and_l rfl
theorem qX7_shiftOf_11 : ey FX7 ini rt fin K0 K (decode cX7_shiftOf 11) 11 L (.int y :: .int x :: r) h cs ss = (if y ≤ x then K 93 L r h cs ss else K 14 L r h cs ss) := by
  rw [dX7_shiftOf_11, ey_ok, nx_if_icmp_39]
  exact and_l (by unfold jok; decide)
theorem qX7_shiftOf_14 : ey FX7 ini rt fin K0 K (decode cX7_shiftOf 14) 14 L (st) h cs ss = (lhas L 1 ∧ isI (lgt L 1) ∧ K 15 L (lgt L 1 :: st) h cs ss) := by
  rw [dX7_shiftOf_14, ey_ok, nx_iload_n_1] <;> rfl
theorem qX7_shiftOf_15 : ey FX7 ini rt fin K0 K (decode cX7_shiftOf 15) 15 L (st) h cs ss = (K0 15 L st h cs ss) := by
  rw [dX7_shiftOf_15, ey_ok, nx_invokestatic_73]
theorem qX7_shiftOf_18 : ey FX7 ini rt fin K0 K (decode cX7_shiftOf 18) 18 L (.int x :: r) h cs ss = (if x = 0 then K 93 L r h cs ss else K 21 L r h cs ss) := by
  rw [dX7_shiftOf_18, ey_ok, nx_ifond_30]
  exact and_l (by unfold jok; decide)
theorem qX7_shiftOf_21 : ey FX7 ini rt fin K0 K (decode cX7_shiftOf 21) 21 L (st) h cs ss = (K 22 L (.int 0 :: st) h cs ss) := by
  rw [dX7_shiftOf_21, ey_ok, nx_iconst_11] <;> rfl
theorem qX7_shiftOf_22 : ey FX7 ini rt fin K0 K (decode cX7_shiftOf 22) 22 L (.int x :: r) h cs ss = (5 < L.length ∧ K 24 (L.set 5 (some (.int x))) r h cs ss) := by
  rw [dX7_shiftOf_22, ey_ok, nx_istore_4] <;> rfl
theorem qX7_shiftOf_24 : ey FX7 ini rt fin K0 K (decode cX7_shiftOf 24) 24 L (st) h cs ss = (K 25 L (.int 0 :: st) h cs ss) := by
  rw [dX7_shiftOf_24, ey_ok, nx_iconst_11] <;> rfl
theorem qX7_shiftOf_25 : ey FX7 ini rt fin K0 K (decode cX7_shiftOf 25) 25 L (.int x :: r) h cs ss = (6 < L.length ∧ K 27 (L.set 6 (some (.int x))) r h cs ss) := by
  rw [dX7_shiftOf_25, ey_ok, nx_istore_4] <;> rfl
theorem qX7_shiftOf_27 : ey FX7 ini rt fin K0 K (decode cX7_shiftOf 27) 27 L (st) h cs ss = (lhas L 6 ∧ isI (lgt L 6) ∧ K 29 L (lgt L 6 :: st) h cs ss) := by
  rw [dX7_shiftOf_27, ey_ok, nx_iload_0] <;> rfl
theorem qX7_shiftOf_29 : ey FX7 ini rt fin K0 K (decode cX7_shiftOf 29) 29 L (st) h cs ss = (lhas L 0 ∧ isRf (lgt L 0) ∧ K 30 L (lgt L 0 :: st) h cs ss) := by
  rw [dX7_shiftOf_29, ey_ok, nx_aload_n_3] <;> rfl
theorem qX7_shiftOf_30 : ey FX7 ini rt fin K0 K (decode cX7_shiftOf 30) 30 L (.ref a :: r) h cs ss = (h.1 a = some (.inl 7) ∧ K 33 L (h.2 a 3 :: r) h cs ss) := by
  rw [dX7_shiftOf_30, ey_ok, nx_getfield_54]
  exact and_l rfl
theorem qX7_shiftOf_33 : ey FX7 ini rt fin K0 K (decode cX7_shiftOf 33) 33 L (.int y :: .int x :: r) h cs ss = (if y ≤ x then K 63 L r h cs ss else K 36 L r h cs ss) := by
  rw [dX7_shiftOf_33, ey_ok, nx_if_icmp_39]
  exact and_l (by unfold jok; decide)
theorem qX7_shiftOf_36 : ey FX7 ini rt fin K0 K (decode cX7_shiftOf 36) 36 L (st) h cs ss = (lhas L 5 ∧ isI (lgt L 5) ∧ K 38 L (lgt L 5 :: st) h cs ss) := by
  rw [dX7_shiftOf_36, ey_ok, nx_iload_0] <;> rfl
theorem qX7_shiftOf_38 : ey FX7 ini rt fin K0 K (decode cX7_shiftOf 38) 38 L (st) h cs ss = (lhas L 0 ∧ isRf (lgt L 0) ∧ K 39 L (lgt L 0 :: st) h cs ss) := by
  rw [dX7_shiftOf_38, ey_ok, nx_aload_n_3] <;> rfl
theorem qX7_shiftOf_39 : ey FX7 ini rt fin K0 K (decode cX7_shiftOf 39) 39 L (st) h cs ss = (lhas L 6 ∧ isI (lgt L 6) ∧ K 41 L (lgt L 6 :: st) h cs ss) := by
  rw [dX7_shiftOf_39, ey_ok, nx_iload_0] <;> rfl
theorem qX7_shiftOf_41 : ey FX7 ini rt fin K0 K (decode cX7_shiftOf 41) 41 L (st) h cs ss = (lhas L 4 ∧ isI (lgt L 4) ∧ K 43 L (lgt L 4 :: st) h cs ss) := by
  rw [dX7_shiftOf_41, ey_ok, nx_iload_0] <;> rfl
theorem qX7_shiftOf_43 : ey FX7 ini rt fin K0 K (decode cX7_shiftOf 43) 43 L (st) h cs ss = (K0 43 L st h cs ss) := by
  rw [dX7_shiftOf_43, ey_ok, nx_invokevirtual_72]
theorem qX7_shiftOf_46 : ey FX7 ini rt fin K0 K (decode cX7_shiftOf 46) 46 L (.int x :: r) h cs ss = (if x = 0 then K 53 L r h cs ss else K 49 L r h cs ss) := by
  rw [dX7_shiftOf_46, ey_ok, nx_ifond_30]
  exact and_l (by unfold jok; decide)
theorem qX7_shiftOf_49 : ey FX7 ini rt fin K0 K (decode cX7_shiftOf 49) 49 L (st) h cs ss = (K 50 L (.int 1 :: st) h cs ss) := by
  rw [dX7_shiftOf_49, ey_ok, nx_iconst_11] <;> rfl
theorem qX7_shiftOf_50 : ey FX7 ini rt fin K0 K (decode cX7_shiftOf 50) 50 L (st) h cs ss = (K 54 L st h cs ss) := by
  rw [dX7_shiftOf_50, ey_ok, nx_goto_29]
  exact and_l (by unfold jok; decide)
theorem qX7_shiftOf_53 : ey FX7 ini rt fin K0 K (decode cX7_shiftOf 53) 53 L (st) h cs ss = (K 54 L (.int 0 :: st) h cs ss) := by
  rw [dX7_shiftOf_53, ey_ok, nx_iconst_11] <;> rfl
theorem qX7_shiftOf_54 : ey FX7 ini rt fin K0 K (decode cX7_shiftOf 54) 54 L (.int y :: .int x :: r) h cs ss = (K 55 L (.int (x + y) :: r) h cs ss) := by
  rw [dX7_shiftOf_54, ey_ok, nx_iadd_16]
theorem qX7_shiftOf_55 : ey FX7 ini rt fin K0 K (decode cX7_shiftOf 55) 55 L (.int x :: r) h cs ss = (5 < L.length ∧ K 57 (L.set 5 (some (.int x))) r h cs ss) := by
  rw [dX7_shiftOf_55, ey_ok, nx_istore_4] <;> rfl
theorem qX7_shiftOf_57 : ey FX7 ini rt fin K0 K (decode cX7_shiftOf 57) 57 L (st) h cs ss = (lhas L 6 ∧ isI (lgt L 6) ∧ K 60 (L.set 6 (some (inc (lgt L 6) 1))) st h cs ss) := by
  rw [dX7_shiftOf_57, ey_ok, nx_iinc_10] <;> rfl
theorem qX7_shiftOf_60 : ey FX7 ini rt fin K0 K (decode cX7_shiftOf 60) 60 L (st) h cs ss = (K 27 L st h cs ss) := by
  rw [dX7_shiftOf_60, ey_ok, nx_goto_29]
  exact and_l (by unfold jok; decide)
theorem qX7_shiftOf_63 : ey FX7 ini rt fin K0 K (decode cX7_shiftOf 63) 63 L (st) h cs ss = (lhas L 0 ∧ isRf (lgt L 0) ∧ K 64 L (lgt L 0 :: st) h cs ss) := by
  rw [dX7_shiftOf_63, ey_ok, nx_aload_n_3] <;> rfl
theorem qX7_shiftOf_64 : ey FX7 ini rt fin K0 K (decode cX7_shiftOf 64) 64 L (.ref a :: r) h cs ss = (h.1 a = some (.inl 7) ∧ K 67 L (h.2 a 7 :: r) h cs ss) := by
  rw [dX7_shiftOf_64, ey_ok, nx_getfield_54]
  exact and_l rfl
theorem qX7_shiftOf_67 : ey FX7 ini rt fin K0 K (decode cX7_shiftOf 67) 67 L (st) h cs ss = (lhas L 4 ∧ isI (lgt L 4) ∧ K 69 L (lgt L 4 :: st) h cs ss) := by
  rw [dX7_shiftOf_67, ey_ok, nx_iload_0] <;> rfl
theorem qX7_shiftOf_69 : ey FX7 ini rt fin K0 K (decode cX7_shiftOf 69) 69 L (.int i :: .ref a :: r) h cs ss = (isA (h.1 a) (fun k m => k = 0 ∧ vp_in i m) ∧ K 70 L (h.2 a i.toNatClampNeg :: r) h cs ss) := by
  rw [dX7_shiftOf_69, ey_ok, nx_iaload_57]
theorem qX7_shiftOf_70 : ey FX7 ini rt fin K0 K (decode cX7_shiftOf 70) 70 L (st) h cs ss = (lhas L 1 ∧ isI (lgt L 1) ∧ K 71 L (lgt L 1 :: st) h cs ss) := by
  rw [dX7_shiftOf_70, ey_ok, nx_iload_n_1] <;> rfl
theorem qX7_shiftOf_71 : ey FX7 ini rt fin K0 K (decode cX7_shiftOf 71) 71 L (.int y :: .int x :: r) h cs ss = (if ¬ x = y then K 85 L r h cs ss else K 74 L r h cs ss) := by
  rw [dX7_shiftOf_71, ey_ok, nx_if_icmp_37]
  exact and_l (by unfold jok; decide)
theorem qX7_shiftOf_74 : ey FX7 ini rt fin K0 K (decode cX7_shiftOf 74) 74 L (st) h cs ss = (lhas L 5 ∧ isI (lgt L 5) ∧ K 76 L (lgt L 5 :: st) h cs ss) := by
  rw [dX7_shiftOf_74, ey_ok, nx_iload_0] <;> rfl
theorem qX7_shiftOf_76 : ey FX7 ini rt fin K0 K (decode cX7_shiftOf 76) 76 L (st) h cs ss = (lhas L 2 ∧ isI (lgt L 2) ∧ K 77 L (lgt L 2 :: st) h cs ss) := by
  rw [dX7_shiftOf_76, ey_ok, nx_iload_n_1] <;> rfl
theorem qX7_shiftOf_77 : ey FX7 ini rt fin K0 K (decode cX7_shiftOf 77) 77 L (.int y :: .int x :: r) h cs ss = (if ¬ x = y then K 85 L r h cs ss else K 80 L r h cs ss) := by
  rw [dX7_shiftOf_77, ey_ok, nx_if_icmp_37]
  exact and_l (by unfold jok; decide)
theorem qX7_shiftOf_80 : ey FX7 ini rt fin K0 K (decode cX7_shiftOf 80) 80 L (st) h cs ss = (lhas L 4 ∧ isI (lgt L 4) ∧ K 82 L (lgt L 4 :: st) h cs ss) := by
  rw [dX7_shiftOf_80, ey_ok, nx_iload_0] <;> rfl
theorem qX7_shiftOf_82 : ey FX7 ini rt fin K0 K (decode cX7_shiftOf 82) 82 L (st) h cs ss = (K 86 L st h cs ss) := by
  rw [dX7_shiftOf_82, ey_ok, nx_goto_29]
  exact and_l (by unfold jok; decide)
theorem qX7_shiftOf_85 : ey FX7 ini rt fin K0 K (decode cX7_shiftOf 85) 85 L (st) h cs ss = (lhas L 3 ∧ isI (lgt L 3) ∧ K 86 L (lgt L 3 :: st) h cs ss) := by
  rw [dX7_shiftOf_85, ey_ok, nx_iload_n_1] <;> rfl
theorem qX7_shiftOf_86 : ey FX7 ini rt fin K0 K (decode cX7_shiftOf 86) 86 L (.int x :: r) h cs ss = (3 < L.length ∧ K 87 (L.set 3 (some (.int x))) r h cs ss) := by
  rw [dX7_shiftOf_86, ey_ok, nx_istore_n_5] <;> rfl
theorem qX7_shiftOf_87 : ey FX7 ini rt fin K0 K (decode cX7_shiftOf 87) 87 L (st) h cs ss = (lhas L 4 ∧ isI (lgt L 4) ∧ K 90 (L.set 4 (some (inc (lgt L 4) 1))) st h cs ss) := by
  rw [dX7_shiftOf_87, ey_ok, nx_iinc_10] <;> rfl
theorem qX7_shiftOf_90 : ey FX7 ini rt fin K0 K (decode cX7_shiftOf 90) 90 L (st) h cs ss = (K 5 L st h cs ss) := by
  rw [dX7_shiftOf_90, ey_ok, nx_goto_29]
  exact and_l (by unfold jok; decide)
theorem qX7_shiftOf_93 : ey FX7 ini rt fin K0 K (decode cX7_shiftOf 93) 93 L (st) h cs ss = (lhas L 0 ∧ isRf (lgt L 0) ∧ K 94 L (lgt L 0 :: st) h cs ss) := by
  rw [dX7_shiftOf_93, ey_ok, nx_aload_n_3] <;> rfl
theorem qX7_shiftOf_94 : ey FX7 ini rt fin K0 K (decode cX7_shiftOf 94) 94 L (st) h cs ss = (lhas L 3 ∧ isI (lgt L 3) ∧ K 95 L (lgt L 3 :: st) h cs ss) := by
  rw [dX7_shiftOf_94, ey_ok, nx_iload_n_1] <;> rfl
theorem qX7_shiftOf_95 : ey FX7 ini rt fin K0 K (decode cX7_shiftOf 95) 95 L (st) h cs ss = (K 96 L (.int (-1) :: st) h cs ss) := by
  rw [dX7_shiftOf_95, ey_ok, nx_iconst_11] <;> rfl
theorem qX7_shiftOf_96 : ey FX7 ini rt fin K0 K (decode cX7_shiftOf 96) 96 L (.int y :: .int x :: r) h cs ss = (if x = y then K 103 L r h cs ss else K 99 L r h cs ss) := by
  rw [dX7_shiftOf_96, ey_ok, nx_if_icmp_36]
  exact and_l (by unfold jok; decide)
theorem qX7_shiftOf_99 : ey FX7 ini rt fin K0 K (decode cX7_shiftOf 99) 99 L (st) h cs ss = (K 100 L (.int 1 :: st) h cs ss) := by
  rw [dX7_shiftOf_99, ey_ok, nx_iconst_11] <;> rfl
theorem qX7_shiftOf_100 : ey FX7 ini rt fin K0 K (decode cX7_shiftOf 100) 100 L (st) h cs ss = (K 104 L st h cs ss) := by
  rw [dX7_shiftOf_100, ey_ok, nx_goto_29]
  exact and_l (by unfold jok; decide)
theorem qX7_shiftOf_103 : ey FX7 ini rt fin K0 K (decode cX7_shiftOf 103) 103 L (st) h cs ss = (K 104 L (.int 0 :: st) h cs ss) := by
  rw [dX7_shiftOf_103, ey_ok, nx_iconst_11] <;> rfl
theorem qX7_shiftOf_104 : ey FX7 ini rt fin K0 K (decode cX7_shiftOf 104) 104 L (st) h cs ss = (K0 104 L st h cs ss) := by
  rw [dX7_shiftOf_104, ey_ok, nx_invokevirtual_72]
theorem qX7_shiftOf_107 : ey FX7 ini rt fin K0 K (decode cX7_shiftOf 107) 107 L (.int x :: r) h cs ss = (if x = 0 then K 114 L r h cs ss else K 110 L r h cs ss) := by
  rw [dX7_shiftOf_107, ey_ok, nx_ifond_30]
  exact and_l (by unfold jok; decide)
theorem qX7_shiftOf_110 : ey FX7 ini rt fin K0 K (decode cX7_shiftOf 110) 110 L (st) h cs ss = (lhas L 3 ∧ isI (lgt L 3) ∧ K 111 L (lgt L 3 :: st) h cs ss) := by
  rw [dX7_shiftOf_110, ey_ok, nx_iload_n_1] <;> rfl
theorem qX7_shiftOf_111 : ey FX7 ini rt fin K0 K (decode cX7_shiftOf 111) 111 L (st) h cs ss = (K 115 L st h cs ss) := by
  rw [dX7_shiftOf_111, ey_ok, nx_goto_29]
  exact and_l (by unfold jok; decide)
theorem qX7_shiftOf_114 : ey FX7 ini rt fin K0 K (decode cX7_shiftOf 114) 114 L (st) h cs ss = (K 115 L (.int 0 :: st) h cs ss) := by
  rw [dX7_shiftOf_114, ey_ok, nx_iconst_11] <;> rfl
theorem qX7_shiftOf_115 : ey FX7 ini rt fin K0 K (decode cX7_shiftOf 115) 115 L ([.int x]) h cs ss = (rokI rt x ∧ fin (some (.int x)) h cs ss) := by
  rw [dX7_shiftOf_115, ey_ok, nx_ireturn_68]
theorem qX7_justAhead_0 : ey FX7 ini rt fin K0 K (decode cX7_justAhead 0) 0 L (st) h cs ss = (K 1 L (.int (-1) :: st) h cs ss) := by
  rw [dX7_justAhead_0, ey_ok, nx_iconst_11] <;> rfl
theorem qX7_justAhead_1 : ey FX7 ini rt fin K0 K (decode cX7_justAhead 1) 1 L (.int x :: r) h cs ss = (2 < L.length ∧ K 2 (L.set 2 (some (.int x))) r h cs ss) := by
  rw [dX7_justAhead_1, ey_ok, nx_istore_n_5] <;> rfl
theorem qX7_justAhead_2 : ey FX7 ini rt fin K0 K (decode cX7_justAhead 2) 2 L (st) h cs ss = (K 3 L (.int 0 :: st) h cs ss) := by
  rw [dX7_justAhead_2, ey_ok, nx_iconst_11] <;> rfl
theorem qX7_justAhead_3 : ey FX7 ini rt fin K0 K (decode cX7_justAhead 3) 3 L (.int x :: r) h cs ss = (3 < L.length ∧ K 4 (L.set 3 (some (.int x))) r h cs ss) := by
  rw [dX7_justAhead_3, ey_ok, nx_istore_n_5] <;> rfl
theorem qX7_justAhead_4 : ey FX7 ini rt fin K0 K (decode cX7_justAhead 4) 4 L (st) h cs ss = (lhas L 3 ∧ isI (lgt L 3) ∧ K 5 L (lgt L 3 :: st) h cs ss) := by
  rw [dX7_justAhead_4, ey_ok, nx_iload_n_1] <;> rfl
theorem qX7_justAhead_5 : ey FX7 ini rt fin K0 K (decode cX7_justAhead 5) 5 L (st) h cs ss = (lhas L 0 ∧ isRf (lgt L 0) ∧ K 6 L (lgt L 0 :: st) h cs ss) := by
  rw [dX7_justAhead_5, ey_ok, nx_aload_n_3] <;> rfl
theorem qX7_justAhead_6 : ey FX7 ini rt fin K0 K (decode cX7_justAhead 6) 6 L (.ref a :: r) h cs ss = (h.1 a = some (.inl 7) ∧ K 9 L (h.2 a 3 :: r) h cs ss) := by
  rw [dX7_justAhead_6, ey_ok, nx_getfield_54]
  exact and_l rfl
theorem qX7_justAhead_9 : ey FX7 ini rt fin K0 K (decode cX7_justAhead 9) 9 L (.int y :: .int x :: r) h cs ss = (if y ≤ x then K 47 L r h cs ss else K 12 L r h cs ss) := by
  rw [dX7_justAhead_9, ey_ok, nx_if_icmp_39]
  exact and_l (by unfold jok; decide)
theorem qX7_justAhead_12 : ey FX7 ini rt fin K0 K (decode cX7_justAhead 12) 12 L (st) h cs ss = (lhas L 0 ∧ isRf (lgt L 0) ∧ K 13 L (lgt L 0 :: st) h cs ss) := by
  rw [dX7_justAhead_12, ey_ok, nx_aload_n_3] <;> rfl
theorem qX7_justAhead_13 : ey FX7 ini rt fin K0 K (decode cX7_justAhead 13) 13 L (st) h cs ss = (lhas L 3 ∧ isI (lgt L 3) ∧ K 14 L (lgt L 3 :: st) h cs ss) := by
  rw [dX7_justAhead_13, ey_ok, nx_iload_n_1] <;> rfl
theorem qX7_justAhead_14 : ey FX7 ini rt fin K0 K (decode cX7_justAhead 14) 14 L (st) h cs ss = (lhas L 1 ∧ isI (lgt L 1) ∧ K 15 L (lgt L 1 :: st) h cs ss) := by
  rw [dX7_justAhead_14, ey_ok, nx_iload_n_1] <;> rfl
theorem qX7_justAhead_15 : ey FX7 ini rt fin K0 K (decode cX7_justAhead 15) 15 L (st) h cs ss = (K0 15 L st h cs ss) := by
  rw [dX7_justAhead_15, ey_ok, nx_invokevirtual_72]
theorem qX7_justAhead_18 : ey FX7 ini rt fin K0 K (decode cX7_justAhead 18) 18 L (.int x :: r) h cs ss = (if x = 0 then K 41 L r h cs ss else K 21 L r h cs ss) := by
  rw [dX7_justAhead_18, ey_ok, nx_ifond_30]
  exact and_l (by unfold jok; decide)
theorem qX7_justAhead_21 : ey FX7 ini rt fin K0 K (decode cX7_justAhead 21) 21 L (st) h cs ss = (lhas L 2 ∧ isI (lgt L 2) ∧ K 22 L (lgt L 2 :: st) h cs ss) := by
  rw [dX7_justAhead_21, ey_ok, nx_iload_n_1] <;> rfl
theorem qX7_justAhead_22 : ey FX7 ini rt fin K0 K (decode cX7_justAhead 22) 22 L (st) h cs ss = (K 23 L (.int (-1) :: st) h cs ss) := by
  rw [dX7_justAhead_22, ey_ok, nx_iconst_11] <;> rfl
theorem qX7_justAhead_23 : ey FX7 ini rt fin K0 K (decode cX7_justAhead 23) 23 L (.int y :: .int x :: r) h cs ss = (if x = y then K 35 L r h cs ss else K 26 L r h cs ss) := by
  rw [dX7_justAhead_23, ey_ok, nx_if_icmp_36]
  exact and_l (by unfold jok; decide)
theorem qX7_justAhead_26 : ey FX7 ini rt fin K0 K (decode cX7_justAhead 26) 26 L (st) h cs ss = (lhas L 0 ∧ isRf (lgt L 0) ∧ K 27 L (lgt L 0 :: st) h cs ss) := by
  rw [dX7_justAhead_26, ey_ok, nx_aload_n_3] <;> rfl
theorem qX7_justAhead_27 : ey FX7 ini rt fin K0 K (decode cX7_justAhead 27) 27 L (st) h cs ss = (lhas L 2 ∧ isI (lgt L 2) ∧ K 28 L (lgt L 2 :: st) h cs ss) := by
  rw [dX7_justAhead_27, ey_ok, nx_iload_n_1] <;> rfl
theorem qX7_justAhead_28 : ey FX7 ini rt fin K0 K (decode cX7_justAhead 28) 28 L (st) h cs ss = (lhas L 3 ∧ isI (lgt L 3) ∧ K 29 L (lgt L 3 :: st) h cs ss) := by
  rw [dX7_justAhead_28, ey_ok, nx_iload_n_1] <;> rfl
theorem qX7_justAhead_29 : ey FX7 ini rt fin K0 K (decode cX7_justAhead 29) 29 L (st) h cs ss = (K0 29 L st h cs ss) := by
  rw [dX7_justAhead_29, ey_ok, nx_invokevirtual_72]
theorem qX7_justAhead_32 : ey FX7 ini rt fin K0 K (decode cX7_justAhead 32) 32 L (.int x :: r) h cs ss = (if x = 0 then K 39 L r h cs ss else K 35 L r h cs ss) := by
  rw [dX7_justAhead_32, ey_ok, nx_ifond_30]
  exact and_l (by unfold jok; decide)
theorem qX7_justAhead_35 : ey FX7 ini rt fin K0 K (decode cX7_justAhead 35) 35 L (st) h cs ss = (lhas L 3 ∧ isI (lgt L 3) ∧ K 36 L (lgt L 3 :: st) h cs ss) := by
  rw [dX7_justAhead_35, ey_ok, nx_iload_n_1] <;> rfl
theorem qX7_justAhead_36 : ey FX7 ini rt fin K0 K (decode cX7_justAhead 36) 36 L (st) h cs ss = (K 40 L st h cs ss) := by
  rw [dX7_justAhead_36, ey_ok, nx_goto_29]
  exact and_l (by unfold jok; decide)
theorem qX7_justAhead_39 : ey FX7 ini rt fin K0 K (decode cX7_justAhead 39) 39 L (st) h cs ss = (lhas L 2 ∧ isI (lgt L 2) ∧ K 40 L (lgt L 2 :: st) h cs ss) := by
  rw [dX7_justAhead_39, ey_ok, nx_iload_n_1] <;> rfl
theorem qX7_justAhead_40 : ey FX7 ini rt fin K0 K (decode cX7_justAhead 40) 40 L (.int x :: r) h cs ss = (2 < L.length ∧ K 41 (L.set 2 (some (.int x))) r h cs ss) := by
  rw [dX7_justAhead_40, ey_ok, nx_istore_n_5] <;> rfl
theorem qX7_justAhead_41 : ey FX7 ini rt fin K0 K (decode cX7_justAhead 41) 41 L (st) h cs ss = (lhas L 3 ∧ isI (lgt L 3) ∧ K 44 (L.set 3 (some (inc (lgt L 3) 1))) st h cs ss) := by
  rw [dX7_justAhead_41, ey_ok, nx_iinc_10] <;> rfl
theorem qX7_justAhead_44 : ey FX7 ini rt fin K0 K (decode cX7_justAhead 44) 44 L (st) h cs ss = (K 4 L st h cs ss) := by
  rw [dX7_justAhead_44, ey_ok, nx_goto_29]
  exact and_l (by unfold jok; decide)
theorem qX7_justAhead_47 : ey FX7 ini rt fin K0 K (decode cX7_justAhead 47) 47 L (st) h cs ss = (lhas L 2 ∧ isI (lgt L 2) ∧ K 48 L (lgt L 2 :: st) h cs ss) := by
  rw [dX7_justAhead_47, ey_ok, nx_iload_n_1] <;> rfl
theorem qX7_justAhead_48 : ey FX7 ini rt fin K0 K (decode cX7_justAhead 48) 48 L ([.int x]) h cs ss = (rokI rt x ∧ fin (some (.int x)) h cs ss) := by
  rw [dX7_justAhead_48, ey_ok, nx_ireturn_68]
theorem qX7_rest_0 : ey FX7 ini rt fin K0 K (decode cX7_rest 0) 0 L (st) h cs ss = (lhas L 0 ∧ isRf (lgt L 0) ∧ K 1 L (lgt L 0 :: st) h cs ss) := by
  rw [dX7_rest_0, ey_ok, nx_aload_n_3] <;> rfl
theorem qX7_rest_1 : ey FX7 ini rt fin K0 K (decode cX7_rest 1) 1 L (st) h cs ss = (lhas L 0 ∧ isRf (lgt L 0) ∧ K 2 L (lgt L 0 :: st) h cs ss) := by
  rw [dX7_rest_1, ey_ok, nx_aload_n_3] <;> rfl
theorem qX7_rest_2 : ey FX7 ini rt fin K0 K (decode cX7_rest 2) 2 L (st) h cs ss = (lhas L 1 ∧ isI (lgt L 1) ∧ K 3 L (lgt L 1 :: st) h cs ss) := by
  rw [dX7_rest_2, ey_ok, nx_iload_n_1] <;> rfl
theorem qX7_rest_3 : ey FX7 ini rt fin K0 K (decode cX7_rest 3) 3 L (st) h cs ss = (K0 3 L st h cs ss) := by
  rw [dX7_rest_3, ey_ok, nx_invokevirtual_72]
theorem qX7_rest_6 : ey FX7 ini rt fin K0 K (decode cX7_rest 6) 6 L (st) h cs ss = (K0 6 L st h cs ss) := by
  rw [dX7_rest_6, ey_ok, nx_invokevirtual_72]
theorem qX7_rest_9 : ey FX7 ini rt fin K0 K (decode cX7_rest 9) 9 L (.int x :: r) h cs ss = (if ¬ x = 0 then K 14 L r h cs ss else K 12 L r h cs ss) := by
  rw [dX7_rest_9, ey_ok, nx_ifond_31]
  exact and_l (by unfold jok; decide)
theorem qX7_rest_12 : ey FX7 ini rt fin K0 K (decode cX7_rest 12) 12 L (st) h cs ss = (K 13 L (.int 0 :: st) h cs ss) := by
  rw [dX7_rest_12, ey_ok, nx_iconst_11] <;> rfl
theorem qX7_rest_13 : ey FX7 ini rt fin K0 K (decode cX7_rest 13) 13 L ([.int x]) h cs ss = (rokI rt x ∧ fin (some (.int x)) h cs ss) := by
  rw [dX7_rest_13, ey_ok, nx_ireturn_68]
theorem qX7_rest_14 : ey FX7 ini rt fin K0 K (decode cX7_rest 14) 14 L (st) h cs ss = (lhas L 0 ∧ isRf (lgt L 0) ∧ K 15 L (lgt L 0 :: st) h cs ss) := by
  rw [dX7_rest_14, ey_ok, nx_aload_n_3] <;> rfl
theorem qX7_rest_15 : ey FX7 ini rt fin K0 K (decode cX7_rest 15) 15 L (.ref a :: r) h cs ss = (h.1 a = some (.inl 7) ∧ K 18 L (h.2 a 7 :: r) h cs ss) := by
  rw [dX7_rest_15, ey_ok, nx_getfield_54]
  exact and_l rfl
theorem qX7_rest_18 : ey FX7 ini rt fin K0 K (decode cX7_rest 18) 18 L (st) h cs ss = (lhas L 1 ∧ isI (lgt L 1) ∧ K 19 L (lgt L 1 :: st) h cs ss) := by
  rw [dX7_rest_18, ey_ok, nx_iload_n_1] <;> rfl
theorem qX7_rest_19 : ey FX7 ini rt fin K0 K (decode cX7_rest 19) 19 L (.int i :: .ref a :: r) h cs ss = (isA (h.1 a) (fun k m => k = 0 ∧ vp_in i m) ∧ K 20 L (h.2 a i.toNatClampNeg :: r) h cs ss) := by
  rw [dX7_rest_19, ey_ok, nx_iaload_57]
theorem qX7_rest_20 : ey FX7 ini rt fin K0 K (decode cX7_rest 20) 20 L (st) h cs ss = (K 21 L (.int (-1) :: st) h cs ss) := by
  rw [dX7_rest_20, ey_ok, nx_iconst_11] <;> rfl
theorem qX7_rest_21 : ey FX7 ini rt fin K0 K (decode cX7_rest 21) 21 L (.int y :: .int x :: r) h cs ss = (if ¬ x = y then K 28 L r h cs ss else K 24 L r h cs ss) := by
  rw [dX7_rest_21, ey_ok, nx_if_icmp_37]
  exact and_l (by unfold jok; decide)
theorem qX7_rest_24 : ey FX7 ini rt fin K0 K (decode cX7_rest 24) 24 L (st) h cs ss = (K 25 L (.int (-1) :: st) h cs ss) := by
  rw [dX7_rest_24, ey_ok, nx_iconst_11] <;> rfl
theorem qX7_rest_25 : ey FX7 ini rt fin K0 K (decode cX7_rest 25) 25 L (st) h cs ss = (K 33 L st h cs ss) := by
  rw [dX7_rest_25, ey_ok, nx_goto_29]
  exact and_l (by unfold jok; decide)
theorem qX7_rest_28 : ey FX7 ini rt fin K0 K (decode cX7_rest 28) 28 L (st) h cs ss = (lhas L 0 ∧ isRf (lgt L 0) ∧ K 29 L (lgt L 0 :: st) h cs ss) := by
  rw [dX7_rest_28, ey_ok, nx_aload_n_3] <;> rfl
theorem qX7_rest_29 : ey FX7 ini rt fin K0 K (decode cX7_rest 29) 29 L (st) h cs ss = (lhas L 1 ∧ isI (lgt L 1) ∧ K 30 L (lgt L 1 :: st) h cs ss) := by
  rw [dX7_rest_29, ey_ok, nx_iload_n_1] <;> rfl
theorem qX7_rest_30 : ey FX7 ini rt fin K0 K (decode cX7_rest 30) 30 L (st) h cs ss = (K0 30 L st h cs ss) := by
  rw [dX7_rest_30, ey_ok, nx_invokevirtual_72]
theorem qX7_rest_33 : ey FX7 ini rt fin K0 K (decode cX7_rest 33) 33 L (.int x :: r) h cs ss = (2 < L.length ∧ K 34 (L.set 2 (some (.int x))) r h cs ss) := by
  rw [dX7_rest_33, ey_ok, nx_istore_n_5] <;> rfl
theorem qX7_rest_34 : ey FX7 ini rt fin K0 K (decode cX7_rest 34) 34 L (st) h cs ss = (lhas L 2 ∧ isI (lgt L 2) ∧ K 35 L (lgt L 2 :: st) h cs ss) := by
  rw [dX7_rest_34, ey_ok, nx_iload_n_1] <;> rfl
theorem qX7_rest_35 : ey FX7 ini rt fin K0 K (decode cX7_rest 35) 35 L (st) h cs ss = (K 36 L (.int (-1) :: st) h cs ss) := by
  rw [dX7_rest_35, ey_ok, nx_iconst_11] <;> rfl
theorem qX7_rest_36 : ey FX7 ini rt fin K0 K (decode cX7_rest 36) 36 L (.int y :: .int x :: r) h cs ss = (if ¬ x = y then K 45 L r h cs ss else K 39 L r h cs ss) := by
  rw [dX7_rest_36, ey_ok, nx_if_icmp_37]
  exact and_l (by unfold jok; decide)
theorem qX7_rest_39 : ey FX7 ini rt fin K0 K (decode cX7_rest 39) 39 L (st) h cs ss = (K 42 L (.int 10000 :: st) h cs ss) := by
  rw [dX7_rest_39, ey_ok, nx_sipush_13] <;> rfl
theorem qX7_rest_42 : ey FX7 ini rt fin K0 K (decode cX7_rest 42) 42 L (st) h cs ss = (K 58 L st h cs ss) := by
  rw [dX7_rest_42, ey_ok, nx_goto_29]
  exact and_l (by unfold jok; decide)
theorem qX7_rest_45 : ey FX7 ini rt fin K0 K (decode cX7_rest 45) 45 L (st) h cs ss = (lhas L 0 ∧ isRf (lgt L 0) ∧ K 46 L (lgt L 0 :: st) h cs ss) := by
  rw [dX7_rest_45, ey_ok, nx_aload_n_3] <;> rfl
theorem qX7_rest_46 : ey FX7 ini rt fin K0 K (decode cX7_rest 46) 46 L (.ref a :: r) h cs ss = (h.1 a = some (.inl 7) ∧ K 49 L (h.2 a 8 :: r) h cs ss) := by
  rw [dX7_rest_46, ey_ok, nx_getfield_54]
  exact and_l rfl
theorem qX7_rest_49 : ey FX7 ini rt fin K0 K (decode cX7_rest 49) 49 L (st) h cs ss = (lhas L 1 ∧ isI (lgt L 1) ∧ K 50 L (lgt L 1 :: st) h cs ss) := by
  rw [dX7_rest_49, ey_ok, nx_iload_n_1] <;> rfl
theorem qX7_rest_50 : ey FX7 ini rt fin K0 K (decode cX7_rest 50) 50 L (.int i :: .ref a :: r) h cs ss = (isA (h.1 a) (fun k m => k = 0 ∧ vp_in i m) ∧ K 51 L (h.2 a i.toNatClampNeg :: r) h cs ss) := by
  rw [dX7_rest_50, ey_ok, nx_iaload_57]
theorem qX7_rest_51 : ey FX7 ini rt fin K0 K (decode cX7_rest 51) 51 L (st) h cs ss = (lhas L 0 ∧ isRf (lgt L 0) ∧ K 52 L (lgt L 0 :: st) h cs ss) := by
  rw [dX7_rest_51, ey_ok, nx_aload_n_3] <;> rfl
theorem qX7_rest_52 : ey FX7 ini rt fin K0 K (decode cX7_rest 52) 52 L (.ref a :: r) h cs ss = (h.1 a = some (.inl 7) ∧ K 55 L (h.2 a 9 :: r) h cs ss) := by
  rw [dX7_rest_52, ey_ok, nx_getfield_54]
  exact and_l rfl
theorem qX7_rest_55 : ey FX7 ini rt fin K0 K (decode cX7_rest 55) 55 L (st) h cs ss = (lhas L 2 ∧ isI (lgt L 2) ∧ K 56 L (lgt L 2 :: st) h cs ss) := by
  rw [dX7_rest_55, ey_ok, nx_iload_n_1] <;> rfl
theorem qX7_rest_56 : ey FX7 ini rt fin K0 K (decode cX7_rest 56) 56 L (.int i :: .ref a :: r) h cs ss = (isA (h.1 a) (fun k m => k = 0 ∧ vp_in i m) ∧ K 57 L (h.2 a i.toNatClampNeg :: r) h cs ss) := by
  rw [dX7_rest_56, ey_ok, nx_iaload_57]
theorem qX7_rest_57 : ey FX7 ini rt fin K0 K (decode cX7_rest 57) 57 L (.int y :: .int x :: r) h cs ss = (K 58 L (.int (x - y) :: r) h cs ss) := by
  rw [dX7_rest_57, ey_ok, nx_isub_17]
theorem qX7_rest_58 : ey FX7 ini rt fin K0 K (decode cX7_rest 58) 58 L ([.int x]) h cs ss = (rokI rt x ∧ fin (some (.int x)) h cs ss) := by
  rw [dX7_rest_58, ey_ok, nx_ireturn_68]
theorem qX7_put_0 : ey FX7 ini rt fin K0 K (decode cX7_put 0) 0 L (st) h cs ss = (lhas L 1 ∧ isI (lgt L 1) ∧ K 1 L (lgt L 1 :: st) h cs ss) := by
  rw [dX7_put_0, ey_ok, nx_iload_n_1] <;> rfl
theorem qX7_put_1 : ey FX7 ini rt fin K0 K (decode cX7_put 1) 1 L (st) h cs ss = (K 3 L (.int 65 :: st) h cs ss) := by
  rw [dX7_put_1, ey_ok, nx_bipush_12] <;> rfl
theorem qX7_put_3 : ey FX7 ini rt fin K0 K (decode cX7_put 3) 3 L (.int y :: .int x :: r) h cs ss = (if x < y then K 12 L r h cs ss else K 6 L r h cs ss) := by
  rw [dX7_put_3, ey_ok, nx_if_icmp_38]
  exact and_l (by unfold jok; decide)
theorem qX7_put_6 : ey FX7 ini rt fin K0 K (decode cX7_put 6) 6 L (st) h cs ss = (lhas L 1 ∧ isI (lgt L 1) ∧ K 7 L (lgt L 1 :: st) h cs ss) := by
  rw [dX7_put_6, ey_ok, nx_iload_n_1] <;> rfl
theorem qX7_put_7 : ey FX7 ini rt fin K0 K (decode cX7_put 7) 7 L (st) h cs ss = (K 9 L (.int 90 :: st) h cs ss) := by
  rw [dX7_put_7, ey_ok, nx_bipush_12] <;> rfl
theorem qX7_put_9 : ey FX7 ini rt fin K0 K (decode cX7_put 9) 9 L (.int y :: .int x :: r) h cs ss = (if x ≤ y then K 30 L r h cs ss else K 12 L r h cs ss) := by
  rw [dX7_put_9, ey_ok, nx_if_icmp_41]
  exact and_l (by unfold jok; decide)
theorem qX7_put_12 : ey FX7 ini rt fin K0 K (decode cX7_put 12) 12 L (st) h cs ss = (lhas L 1 ∧ isI (lgt L 1) ∧ K 13 L (lgt L 1 :: st) h cs ss) := by
  rw [dX7_put_12, ey_ok, nx_iload_n_1] <;> rfl
theorem qX7_put_13 : ey FX7 ini rt fin K0 K (decode cX7_put 13) 13 L (st) h cs ss = (K 15 L (.int 48 :: st) h cs ss) := by
  rw [dX7_put_13, ey_ok, nx_bipush_12] <;> rfl
theorem qX7_put_15 : ey FX7 ini rt fin K0 K (decode cX7_put 15) 15 L (.int y :: .int x :: r) h cs ss = (if x < y then K 24 L r h cs ss else K 18 L r h cs ss) := by
  rw [dX7_put_15, ey_ok, nx_if_icmp_38]
  exact and_l (by unfold jok; decide)
theorem qX7_put_18 : ey FX7 ini rt fin K0 K (decode cX7_put 18) 18 L (st) h cs ss = (lhas L 1 ∧ isI (lgt L 1) ∧ K 19 L (lgt L 1 :: st) h cs ss) := by
  rw [dX7_put_18, ey_ok, nx_iload_n_1] <;> rfl
theorem qX7_put_19 : ey FX7 ini rt fin K0 K (decode cX7_put 19) 19 L (st) h cs ss = (K 21 L (.int 57 :: st) h cs ss) := by
  rw [dX7_put_19, ey_ok, nx_bipush_12] <;> rfl
theorem qX7_put_21 : ey FX7 ini rt fin K0 K (decode cX7_put 21) 21 L (.int y :: .int x :: r) h cs ss = (if x ≤ y then K 30 L r h cs ss else K 24 L r h cs ss) := by
  rw [dX7_put_21, ey_ok, nx_if_icmp_41]
  exact and_l (by unfold jok; decide)
theorem qX7_put_24 : ey FX7 ini rt fin K0 K (decode cX7_put 24) 24 L (st) h cs ss = (lhas L 1 ∧ isI (lgt L 1) ∧ K 25 L (lgt L 1 :: st) h cs ss) := by
  rw [dX7_put_24, ey_ok, nx_iload_n_1] <;> rfl
theorem qX7_put_25 : ey FX7 ini rt fin K0 K (decode cX7_put 25) 25 L (st) h cs ss = (K 27 L (.int 32 :: st) h cs ss) := by
  rw [dX7_put_25, ey_ok, nx_bipush_12] <;> rfl
theorem qX7_put_27 : ey FX7 ini rt fin K0 K (decode cX7_put 27) 27 L (.int y :: .int x :: r) h cs ss = (if ¬ x = y then K 34 L r h cs ss else K 30 L r h cs ss) := by
  rw [dX7_put_27, ey_ok, nx_if_icmp_37]
  exact and_l (by unfold jok; decide)
theorem qX7_put_30 : ey FX7 ini rt fin K0 K (decode cX7_put 30) 30 L (st) h cs ss = (K 31 L (.int 1 :: st) h cs ss) := by
  rw [dX7_put_30, ey_ok, nx_iconst_11] <;> rfl
theorem qX7_put_31 : ey FX7 ini rt fin K0 K (decode cX7_put 31) 31 L (st) h cs ss = (K 35 L st h cs ss) := by
  rw [dX7_put_31, ey_ok, nx_goto_29]
  exact and_l (by unfold jok; decide)
theorem qX7_put_34 : ey FX7 ini rt fin K0 K (decode cX7_put 34) 34 L (st) h cs ss = (K 35 L (.int 0 :: st) h cs ss) := by
  rw [dX7_put_34, ey_ok, nx_iconst_11] <;> rfl
theorem qX7_put_35 : ey FX7 ini rt fin K0 K (decode cX7_put 35) 35 L (.int x :: r) h cs ss = (2 < L.length ∧ K 36 (L.set 2 (some (.int x))) r h cs ss) := by
  rw [dX7_put_35, ey_ok, nx_istore_n_5] <;> rfl
theorem qX7_put_36 : ey FX7 ini rt fin K0 K (decode cX7_put 36) 36 L (st) h cs ss = (lhas L 0 ∧ isRf (lgt L 0) ∧ K 37 L (lgt L 0 :: st) h cs ss) := by
  rw [dX7_put_36, ey_ok, nx_aload_n_3] <;> rfl
theorem qX7_put_37 : ey FX7 ini rt fin K0 K (decode cX7_put 37) 37 L (st) h cs ss = (lhas L 2 ∧ isI (lgt L 2) ∧ K 38 L (lgt L 2 :: st) h cs ss) := by
  rw [dX7_put_37, ey_ok, nx_iload_n_1] <;> rfl
theorem qX7_put_38 : ey FX7 ini rt fin K0 K (decode cX7_put 38) 38 L (st) h cs ss = (lhas L 0 ∧ isRf (lgt L 0) ∧ K 39 L (lgt L 0 :: st) h cs ss) := by
  rw [dX7_put_38, ey_ok, nx_aload_n_3] <;> rfl
theorem qX7_put_39 : ey FX7 ini rt fin K0 K (decode cX7_put 39) 39 L (.ref a :: r) h cs ss = (h.1 a = some (.inl 7) ∧ K 42 L (h.2 a 10 :: r) h cs ss) := by
  rw [dX7_put_39, ey_ok, nx_getfield_54]
  exact and_l rfl
theorem qX7_put_42 : ey FX7 ini rt fin K0 K (decode cX7_put 42) 42 L (st) h cs ss = (K 44 L (.int 40 :: st) h cs ss) := by
  rw [dX7_put_42, ey_ok, nx_bipush_12] <;> rfl
theorem qX7_put_44 : ey FX7 ini rt fin K0 K (decode cX7_put 44) 44 L (.int y :: .int x :: r) h cs ss = (if y ≤ x then K 51 L r h cs ss else K 47 L r h cs ss) := by
  rw [dX7_put_44, ey_ok, nx_if_icmp_39]
  exact and_l (by unfold jok; decide)
theorem qX7_put_47 : ey FX7 ini rt fin K0 K (decode cX7_put 47) 47 L (st) h cs ss = (K 48 L (.int 1 :: st) h cs ss) := by
  rw [dX7_put_47, ey_ok, nx_iconst_11] <;> rfl
theorem qX7_put_48 : ey FX7 ini rt fin K0 K (decode cX7_put 48) 48 L (st) h cs ss = (K 52 L st h cs ss) := by
  rw [dX7_put_48, ey_ok, nx_goto_29]
  exact and_l (by unfold jok; decide)
theorem qX7_put_51 : ey FX7 ini rt fin K0 K (decode cX7_put 51) 51 L (st) h cs ss = (K 52 L (.int 0 :: st) h cs ss) := by
  rw [dX7_put_51, ey_ok, nx_iconst_11] <;> rfl
theorem qX7_put_52 : ey FX7 ini rt fin K0 K (decode cX7_put 52) 52 L (st) h cs ss = (K0 52 L st h cs ss) := by
  rw [dX7_put_52, ey_ok, nx_invokevirtual_72]
theorem qX7_put_55 : ey FX7 ini rt fin K0 K (decode cX7_put 55) 55 L (.int x :: r) h cs ss = (if ¬ x = 0 then K 60 L r h cs ss else K 58 L r h cs ss) := by
  rw [dX7_put_55, ey_ok, nx_ifond_31]
  exact and_l (by unfold jok; decide)
theorem qX7_put_58 : ey FX7 ini rt fin K0 K (decode cX7_put 58) 58 L (st) h cs ss = (K 59 L (.int 0 :: st) h cs ss) := by
  rw [dX7_put_58, ey_ok, nx_iconst_11] <;> rfl
theorem qX7_put_59 : ey FX7 ini rt fin K0 K (decode cX7_put 59) 59 L ([.int x]) h cs ss = (rokI rt x ∧ fin (some (.int x)) h cs ss) := by
  rw [dX7_put_59, ey_ok, nx_ireturn_68]
theorem qX7_put_60 : ey FX7 ini rt fin K0 K (decode cX7_put 60) 60 L (st) h cs ss = (lhas L 0 ∧ isRf (lgt L 0) ∧ K 61 L (lgt L 0 :: st) h cs ss) := by
  rw [dX7_put_60, ey_ok, nx_aload_n_3] <;> rfl
theorem qX7_put_61 : ey FX7 ini rt fin K0 K (decode cX7_put 61) 61 L (.ref a :: r) h cs ss = (h.1 a = some (.inl 7) ∧ K 64 L (h.2 a 11 :: r) h cs ss) := by
  rw [dX7_put_61, ey_ok, nx_getfield_54]
  exact and_l rfl
theorem qX7_put_64 : ey FX7 ini rt fin K0 K (decode cX7_put 64) 64 L (st) h cs ss = (lhas L 0 ∧ isRf (lgt L 0) ∧ K 65 L (lgt L 0 :: st) h cs ss) := by
  rw [dX7_put_64, ey_ok, nx_aload_n_3] <;> rfl
theorem qX7_put_65 : ey FX7 ini rt fin K0 K (decode cX7_put 65) 65 L (.ref a :: r) h cs ss = (h.1 a = some (.inl 7) ∧ K 68 L (h.2 a 10 :: r) h cs ss) := by
  rw [dX7_put_65, ey_ok, nx_getfield_54]
  exact and_l rfl
theorem qX7_put_68 : ey FX7 ini rt fin K0 K (decode cX7_put 68) 68 L (st) h cs ss = (lhas L 1 ∧ isI (lgt L 1) ∧ K 69 L (lgt L 1 :: st) h cs ss) := by
  rw [dX7_put_68, ey_ok, nx_iload_n_1] <;> rfl
theorem qX7_put_69 : ey FX7 ini rt fin K0 K (decode cX7_put 69) 69 L (.int x :: .int i :: .ref a :: r) h cs ss = (isA (h.1 a) (fun k m => k = 2 ∧ vp_in i m) ∧ K 70 L r (h.1, hup h.2 a i.toNatClampNeg (narrow .char (.int x))) cs ss) := by
  rw [dX7_put_69, ey_ok, nx_castore_64]
theorem qX7_put_70 : ey FX7 ini rt fin K0 K (decode cX7_put 70) 70 L (st) h cs ss = (lhas L 0 ∧ isRf (lgt L 0) ∧ K 71 L (lgt L 0 :: st) h cs ss) := by
  rw [dX7_put_70, ey_ok, nx_aload_n_3] <;> rfl
theorem qX7_put_71 : ey FX7 ini rt fin K0 K (decode cX7_put 71) 71 L (v :: r) h cs ss = (v.category = 1 ∧ K 72 L (v :: v :: r) h cs ss) := by
  rw [dX7_put_71, ey_ok, nx_dup_27]
theorem qX7_put_72 : ey FX7 ini rt fin K0 K (decode cX7_put 72) 72 L (.ref a :: r) h cs ss = (h.1 a = some (.inl 7) ∧ K 75 L (h.2 a 10 :: r) h cs ss) := by
  rw [dX7_put_72, ey_ok, nx_getfield_54]
  exact and_l rfl
theorem qX7_put_75 : ey FX7 ini rt fin K0 K (decode cX7_put 75) 75 L (st) h cs ss = (K 76 L (.int 1 :: st) h cs ss) := by
  rw [dX7_put_75, ey_ok, nx_iconst_11] <;> rfl
theorem qX7_put_76 : ey FX7 ini rt fin K0 K (decode cX7_put 76) 76 L (.int y :: .int x :: r) h cs ss = (K 77 L (.int (x + y) :: r) h cs ss) := by
  rw [dX7_put_76, ey_ok, nx_iadd_16]
theorem qX7_put_77 : ey FX7 ini rt fin K0 K (decode cX7_put 77) 77 L (v :: .ref a :: r) h cs ss = (h.1 a = some (.inl 7) ∧ okv (.int) v ∧ K 80 L r (h.1, hup h.2 a 10 v) cs ss) := by
  rw [dX7_put_77, ey_ok, nx_putfield_55]
  exact (and_l rfl).trans (and_m (fun z => nomatch z))
theorem qX7_put_80 : ey FX7 ini rt fin K0 K (decode cX7_put 80) 80 L (st) h cs ss = (lhas L 0 ∧ isRf (lgt L 0) ∧ K 81 L (lgt L 0 :: st) h cs ss) := by
  rw [dX7_put_80, ey_ok, nx_aload_n_3] <;> rfl
theorem qX7_put_81 : ey FX7 ini rt fin K0 K (decode cX7_put 81) 81 L (.ref a :: r) h cs ss = (h.1 a = some (.inl 7) ∧ K 84 L (h.2 a 10 :: r) h cs ss) := by
  rw [dX7_put_81, ey_ok, nx_getfield_54]
  exact and_l rfl
theorem qX7_put_84 : ey FX7 ini rt fin K0 K (decode cX7_put 84) 84 L ([.int x]) h cs ss = (rokI rt x ∧ fin (some (.int x)) h cs ss) := by
  rw [dX7_put_84, ey_ok, nx_ireturn_68]
theorem qX7_empty_0 : ey FX7 ini rt fin K0 K (decode cX7_empty 0) 0 L (st) h cs ss = (lhas L 0 ∧ isRf (lgt L 0) ∧ K 1 L (lgt L 0 :: st) h cs ss) := by
  rw [dX7_empty_0, ey_ok, nx_aload_n_3] <;> rfl
theorem qX7_empty_1 : ey FX7 ini rt fin K0 K (decode cX7_empty 1) 1 L (st) h cs ss = (K 2 L (.int 0 :: st) h cs ss) := by
  rw [dX7_empty_1, ey_ok, nx_iconst_11] <;> rfl
theorem qX7_empty_2 : ey FX7 ini rt fin K0 K (decode cX7_empty 2) 2 L (v :: .ref a :: r) h cs ss = (h.1 a = some (.inl 7) ∧ okv (.int) v ∧ K 5 L r (h.1, hup h.2 a 34 v) cs ss) := by
  rw [dX7_empty_2, ey_ok, nx_putfield_55]
  exact (and_l rfl).trans (and_m (fun z => nomatch z))
theorem qX7_empty_5 : ey FX7 ini rt fin K0 K (decode cX7_empty 5) 5 L (st) h cs ss = (lhas L 0 ∧ isRf (lgt L 0) ∧ K 6 L (lgt L 0 :: st) h cs ss) := by
  rw [dX7_empty_5, ey_ok, nx_aload_n_3] <;> rfl
theorem qX7_empty_6 : ey FX7 ini rt fin K0 K (decode cX7_empty 6) 6 L (.ref a :: r) h cs ss = (h.1 a = some (.inl 7) ∧ K 9 L (h.2 a 10 :: r) h cs ss) := by
  rw [dX7_empty_6, ey_ok, nx_getfield_54]
  exact and_l rfl
theorem qX7_empty_9 : ey FX7 ini rt fin K0 K (decode cX7_empty 9) 9 L (.int x :: r) h cs ss = (1 < L.length ∧ K 10 (L.set 1 (some (.int x))) r h cs ss) := by
  rw [dX7_empty_9, ey_ok, nx_istore_n_5] <;> rfl
theorem qX7_empty_10 : ey FX7 ini rt fin K0 K (decode cX7_empty 10) 10 L (st) h cs ss = (lhas L 0 ∧ isRf (lgt L 0) ∧ K 11 L (lgt L 0 :: st) h cs ss) := by
  rw [dX7_empty_10, ey_ok, nx_aload_n_3] <;> rfl
theorem qX7_empty_11 : ey FX7 ini rt fin K0 K (decode cX7_empty 11) 11 L (st) h cs ss = (K 12 L (.int 0 :: st) h cs ss) := by
  rw [dX7_empty_11, ey_ok, nx_iconst_11] <;> rfl
theorem qX7_empty_12 : ey FX7 ini rt fin K0 K (decode cX7_empty 12) 12 L (v :: .ref a :: r) h cs ss = (h.1 a = some (.inl 7) ∧ okv (.int) v ∧ K 15 L r (h.1, hup h.2 a 10 v) cs ss) := by
  rw [dX7_empty_12, ey_ok, nx_putfield_55]
  exact (and_l rfl).trans (and_m (fun z => nomatch z))
theorem qX7_empty_15 : ey FX7 ini rt fin K0 K (decode cX7_empty 15) 15 L (st) h cs ss = (lhas L 1 ∧ isI (lgt L 1) ∧ K 16 L (lgt L 1 :: st) h cs ss) := by
  rw [dX7_empty_15, ey_ok, nx_iload_n_1] <;> rfl
theorem qX7_empty_16 : ey FX7 ini rt fin K0 K (decode cX7_empty 16) 16 L ([.int x]) h cs ss = (rokI rt x ∧ fin (some (.int x)) h cs ss) := by
  rw [dX7_empty_16, ey_ok, nx_ireturn_68]
theorem qX7_isThree_0 : ey FX7 ini rt fin K0 K (decode cX7_isThree 0) 0 L (st) h cs ss = (lhas L 2 ∧ isI (lgt L 2) ∧ K 1 L (lgt L 2 :: st) h cs ss) := by
  rw [dX7_isThree_0, ey_ok, nx_iload_n_1] <;> rfl
theorem qX7_isThree_1 : ey FX7 ini rt fin K0 K (decode cX7_isThree 1) 1 L (st) h cs ss = (lhas L 1 ∧ isI (lgt L 1) ∧ K 2 L (lgt L 1 :: st) h cs ss) := by
  rw [dX7_isThree_1, ey_ok, nx_iload_n_1] <;> rfl
theorem qX7_isThree_2 : ey FX7 ini rt fin K0 K (decode cX7_isThree 2) 2 L (.int y :: .int x :: r) h cs ss = (K 3 L (.int (x - y) :: r) h cs ss) := by
  rw [dX7_isThree_2, ey_ok, nx_isub_17]
theorem qX7_isThree_3 : ey FX7 ini rt fin K0 K (decode cX7_isThree 3) 3 L (st) h cs ss = (K 4 L (.int 3 :: st) h cs ss) := by
  rw [dX7_isThree_3, ey_ok, nx_iconst_11] <;> rfl
theorem qX7_isThree_4 : ey FX7 ini rt fin K0 K (decode cX7_isThree 4) 4 L (.int y :: .int x :: r) h cs ss = (if ¬ x = y then K 47 L r h cs ss else K 7 L r h cs ss) := by
  rw [dX7_isThree_4, ey_ok, nx_if_icmp_37]
  exact and_l (by unfold jok; decide)
theorem qX7_isThree_7 : ey FX7 ini rt fin K0 K (decode cX7_isThree 7) 7 L (st) h cs ss = (lhas L 0 ∧ isRf (lgt L 0) ∧ K 8 L (lgt L 0 :: st) h cs ss) := by
  rw [dX7_isThree_7, ey_ok, nx_aload_n_3] <;> rfl
theorem qX7_isThree_8 : ey FX7 ini rt fin K0 K (decode cX7_isThree 8) 8 L (.ref a :: r) h cs ss = (h.1 a = some (.inl 7) ∧ K 11 L (h.2 a 11 :: r) h cs ss) := by
  rw [dX7_isThree_8, ey_ok, nx_getfield_54]
  exact and_l rfl
theorem qX7_isThree_11 : ey FX7 ini rt fin K0 K (decode cX7_isThree 11) 11 L (st) h cs ss = (lhas L 1 ∧ isI (lgt L 1) ∧ K 12 L (lgt L 1 :: st) h cs ss) := by
  rw [dX7_isThree_11, ey_ok, nx_iload_n_1] <;> rfl
theorem qX7_isThree_12 : ey FX7 ini rt fin K0 K (decode cX7_isThree 12) 12 L (.int i :: .ref a :: r) h cs ss = (isA (h.1 a) (fun k m => k = 2 ∧ vp_in i m) ∧ K 13 L (h.2 a i.toNatClampNeg :: r) h cs ss) := by
  rw [dX7_isThree_12, ey_ok, nx_caload_59]
theorem qX7_isThree_13 : ey FX7 ini rt fin K0 K (decode cX7_isThree 13) 13 L (st) h cs ss = (lhas L 3 ∧ isI (lgt L 3) ∧ K 14 L (lgt L 3 :: st) h cs ss) := by
  rw [dX7_isThree_13, ey_ok, nx_iload_n_1] <;> rfl
theorem qX7_isThree_14 : ey FX7 ini rt fin K0 K (decode cX7_isThree 14) 14 L (.int y :: .int x :: r) h cs ss = (if ¬ x = y then K 47 L r h cs ss else K 17 L r h cs ss) := by
  rw [dX7_isThree_14, ey_ok, nx_if_icmp_37]
  exact and_l (by unfold jok; decide)
theorem qX7_isThree_17 : ey FX7 ini rt fin K0 K (decode cX7_isThree 17) 17 L (st) h cs ss = (lhas L 0 ∧ isRf (lgt L 0) ∧ K 18 L (lgt L 0 :: st) h cs ss) := by
  rw [dX7_isThree_17, ey_ok, nx_aload_n_3] <;> rfl
theorem qX7_isThree_18 : ey FX7 ini rt fin K0 K (decode cX7_isThree 18) 18 L (.ref a :: r) h cs ss = (h.1 a = some (.inl 7) ∧ K 21 L (h.2 a 11 :: r) h cs ss) := by
  rw [dX7_isThree_18, ey_ok, nx_getfield_54]
  exact and_l rfl
theorem qX7_isThree_21 : ey FX7 ini rt fin K0 K (decode cX7_isThree 21) 21 L (st) h cs ss = (lhas L 1 ∧ isI (lgt L 1) ∧ K 22 L (lgt L 1 :: st) h cs ss) := by
  rw [dX7_isThree_21, ey_ok, nx_iload_n_1] <;> rfl
theorem qX7_isThree_22 : ey FX7 ini rt fin K0 K (decode cX7_isThree 22) 22 L (st) h cs ss = (K 23 L (.int 1 :: st) h cs ss) := by
  rw [dX7_isThree_22, ey_ok, nx_iconst_11] <;> rfl
theorem qX7_isThree_23 : ey FX7 ini rt fin K0 K (decode cX7_isThree 23) 23 L (.int y :: .int x :: r) h cs ss = (K 24 L (.int (x + y) :: r) h cs ss) := by
  rw [dX7_isThree_23, ey_ok, nx_iadd_16]
theorem qX7_isThree_24 : ey FX7 ini rt fin K0 K (decode cX7_isThree 24) 24 L (.int i :: .ref a :: r) h cs ss = (isA (h.1 a) (fun k m => k = 2 ∧ vp_in i m) ∧ K 25 L (h.2 a i.toNatClampNeg :: r) h cs ss) := by
  rw [dX7_isThree_24, ey_ok, nx_caload_59]
theorem qX7_isThree_25 : ey FX7 ini rt fin K0 K (decode cX7_isThree 25) 25 L (st) h cs ss = (lhas L 4 ∧ isI (lgt L 4) ∧ K 27 L (lgt L 4 :: st) h cs ss) := by
  rw [dX7_isThree_25, ey_ok, nx_iload_0] <;> rfl
theorem qX7_isThree_27 : ey FX7 ini rt fin K0 K (decode cX7_isThree 27) 27 L (.int y :: .int x :: r) h cs ss = (if ¬ x = y then K 47 L r h cs ss else K 30 L r h cs ss) := by
  rw [dX7_isThree_27, ey_ok, nx_if_icmp_37]
  exact and_l (by unfold jok; decide)
theorem qX7_isThree_30 : ey FX7 ini rt fin K0 K (decode cX7_isThree 30) 30 L (st) h cs ss = (lhas L 0 ∧ isRf (lgt L 0) ∧ K 31 L (lgt L 0 :: st) h cs ss) := by
  rw [dX7_isThree_30, ey_ok, nx_aload_n_3] <;> rfl
theorem qX7_isThree_31 : ey FX7 ini rt fin K0 K (decode cX7_isThree 31) 31 L (.ref a :: r) h cs ss = (h.1 a = some (.inl 7) ∧ K 34 L (h.2 a 11 :: r) h cs ss) := by
  rw [dX7_isThree_31, ey_ok, nx_getfield_54]
  exact and_l rfl
theorem qX7_isThree_34 : ey FX7 ini rt fin K0 K (decode cX7_isThree 34) 34 L (st) h cs ss = (lhas L 1 ∧ isI (lgt L 1) ∧ K 35 L (lgt L 1 :: st) h cs ss) := by
  rw [dX7_isThree_34, ey_ok, nx_iload_n_1] <;> rfl
theorem qX7_isThree_35 : ey FX7 ini rt fin K0 K (decode cX7_isThree 35) 35 L (st) h cs ss = (K 36 L (.int 2 :: st) h cs ss) := by
  rw [dX7_isThree_35, ey_ok, nx_iconst_11] <;> rfl
theorem qX7_isThree_36 : ey FX7 ini rt fin K0 K (decode cX7_isThree 36) 36 L (.int y :: .int x :: r) h cs ss = (K 37 L (.int (x + y) :: r) h cs ss) := by
  rw [dX7_isThree_36, ey_ok, nx_iadd_16]
theorem qX7_isThree_37 : ey FX7 ini rt fin K0 K (decode cX7_isThree 37) 37 L (.int i :: .ref a :: r) h cs ss = (isA (h.1 a) (fun k m => k = 2 ∧ vp_in i m) ∧ K 38 L (h.2 a i.toNatClampNeg :: r) h cs ss) := by
  rw [dX7_isThree_37, ey_ok, nx_caload_59]
theorem qX7_isThree_38 : ey FX7 ini rt fin K0 K (decode cX7_isThree 38) 38 L (st) h cs ss = (lhas L 5 ∧ isI (lgt L 5) ∧ K 40 L (lgt L 5 :: st) h cs ss) := by
  rw [dX7_isThree_38, ey_ok, nx_iload_0] <;> rfl
theorem qX7_isThree_40 : ey FX7 ini rt fin K0 K (decode cX7_isThree 40) 40 L (.int y :: .int x :: r) h cs ss = (if ¬ x = y then K 47 L r h cs ss else K 43 L r h cs ss) := by
  rw [dX7_isThree_40, ey_ok, nx_if_icmp_37]
  exact and_l (by unfold jok; decide)
theorem qX7_isThree_43 : ey FX7 ini rt fin K0 K (decode cX7_isThree 43) 43 L (st) h cs ss = (K 44 L (.int 1 :: st) h cs ss) := by
  rw [dX7_isThree_43, ey_ok, nx_iconst_11] <;> rfl
theorem qX7_isThree_44 : ey FX7 ini rt fin K0 K (decode cX7_isThree 44) 44 L (st) h cs ss = (K 48 L st h cs ss) := by
  rw [dX7_isThree_44, ey_ok, nx_goto_29]
  exact and_l (by unfold jok; decide)
theorem qX7_isThree_47 : ey FX7 ini rt fin K0 K (decode cX7_isThree 47) 47 L (st) h cs ss = (K 48 L (.int 0 :: st) h cs ss) := by
  rw [dX7_isThree_47, ey_ok, nx_iconst_11] <;> rfl
theorem qX7_isThree_48 : ey FX7 ini rt fin K0 K (decode cX7_isThree 48) 48 L ([.int x]) h cs ss = (rokI rt x ∧ fin (some (.int x)) h cs ss) := by
  rw [dX7_isThree_48, ey_ok, nx_ireturn_68]
theorem qX7_isFour_0 : ey FX7 ini rt fin K0 K (decode cX7_isFour 0) 0 L (st) h cs ss = (lhas L 2 ∧ isI (lgt L 2) ∧ K 1 L (lgt L 2 :: st) h cs ss) := by
  rw [dX7_isFour_0, ey_ok, nx_iload_n_1] <;> rfl
theorem qX7_isFour_1 : ey FX7 ini rt fin K0 K (decode cX7_isFour 1) 1 L (st) h cs ss = (lhas L 1 ∧ isI (lgt L 1) ∧ K 2 L (lgt L 1 :: st) h cs ss) := by
  rw [dX7_isFour_1, ey_ok, nx_iload_n_1] <;> rfl
theorem qX7_isFour_2 : ey FX7 ini rt fin K0 K (decode cX7_isFour 2) 2 L (.int y :: .int x :: r) h cs ss = (K 3 L (.int (x - y) :: r) h cs ss) := by
  rw [dX7_isFour_2, ey_ok, nx_isub_17]
theorem qX7_isFour_3 : ey FX7 ini rt fin K0 K (decode cX7_isFour 3) 3 L (st) h cs ss = (K 4 L (.int 4 :: st) h cs ss) := by
  rw [dX7_isFour_3, ey_ok, nx_iconst_11] <;> rfl
theorem qX7_isFour_4 : ey FX7 ini rt fin K0 K (decode cX7_isFour 4) 4 L (.int y :: .int x :: r) h cs ss = (if ¬ x = y then K 60 L r h cs ss else K 7 L r h cs ss) := by
  rw [dX7_isFour_4, ey_ok, nx_if_icmp_37]
  exact and_l (by unfold jok; decide)
theorem qX7_isFour_7 : ey FX7 ini rt fin K0 K (decode cX7_isFour 7) 7 L (st) h cs ss = (lhas L 0 ∧ isRf (lgt L 0) ∧ K 8 L (lgt L 0 :: st) h cs ss) := by
  rw [dX7_isFour_7, ey_ok, nx_aload_n_3] <;> rfl
theorem qX7_isFour_8 : ey FX7 ini rt fin K0 K (decode cX7_isFour 8) 8 L (.ref a :: r) h cs ss = (h.1 a = some (.inl 7) ∧ K 11 L (h.2 a 11 :: r) h cs ss) := by
  rw [dX7_isFour_8, ey_ok, nx_getfield_54]
  exact and_l rfl
theorem qX7_isFour_11 : ey FX7 ini rt fin K0 K (decode cX7_isFour 11) 11 L (st) h cs ss = (lhas L 1 ∧ isI (lgt L 1) ∧ K 12 L (lgt L 1 :: st) h cs ss) := by
  rw [dX7_isFour_11, ey_ok, nx_iload_n_1] <;> rfl
theorem qX7_isFour_12 : ey FX7 ini rt fin K0 K (decode cX7_isFour 12) 12 L (.int i :: .ref a :: r) h cs ss = (isA (h.1 a) (fun k m => k = 2 ∧ vp_in i m) ∧ K 13 L (h.2 a i.toNatClampNeg :: r) h cs ss) := by
  rw [dX7_isFour_12, ey_ok, nx_caload_59]
theorem qX7_isFour_13 : ey FX7 ini rt fin K0 K (decode cX7_isFour 13) 13 L (st) h cs ss = (lhas L 3 ∧ isI (lgt L 3) ∧ K 14 L (lgt L 3 :: st) h cs ss) := by
  rw [dX7_isFour_13, ey_ok, nx_iload_n_1] <;> rfl
theorem qX7_isFour_14 : ey FX7 ini rt fin K0 K (decode cX7_isFour 14) 14 L (.int y :: .int x :: r) h cs ss = (if ¬ x = y then K 60 L r h cs ss else K 17 L r h cs ss) := by
  rw [dX7_isFour_14, ey_ok, nx_if_icmp_37]
  exact and_l (by unfold jok; decide)
theorem qX7_isFour_17 : ey FX7 ini rt fin K0 K (decode cX7_isFour 17) 17 L (st) h cs ss = (lhas L 0 ∧ isRf (lgt L 0) ∧ K 18 L (lgt L 0 :: st) h cs ss) := by
  rw [dX7_isFour_17, ey_ok, nx_aload_n_3] <;> rfl
theorem qX7_isFour_18 : ey FX7 ini rt fin K0 K (decode cX7_isFour 18) 18 L (.ref a :: r) h cs ss = (h.1 a = some (.inl 7) ∧ K 21 L (h.2 a 11 :: r) h cs ss) := by
  rw [dX7_isFour_18, ey_ok, nx_getfield_54]
  exact and_l rfl
theorem qX7_isFour_21 : ey FX7 ini rt fin K0 K (decode cX7_isFour 21) 21 L (st) h cs ss = (lhas L 1 ∧ isI (lgt L 1) ∧ K 22 L (lgt L 1 :: st) h cs ss) := by
  rw [dX7_isFour_21, ey_ok, nx_iload_n_1] <;> rfl
theorem qX7_isFour_22 : ey FX7 ini rt fin K0 K (decode cX7_isFour 22) 22 L (st) h cs ss = (K 23 L (.int 1 :: st) h cs ss) := by
  rw [dX7_isFour_22, ey_ok, nx_iconst_11] <;> rfl
theorem qX7_isFour_23 : ey FX7 ini rt fin K0 K (decode cX7_isFour 23) 23 L (.int y :: .int x :: r) h cs ss = (K 24 L (.int (x + y) :: r) h cs ss) := by
  rw [dX7_isFour_23, ey_ok, nx_iadd_16]
theorem qX7_isFour_24 : ey FX7 ini rt fin K0 K (decode cX7_isFour 24) 24 L (.int i :: .ref a :: r) h cs ss = (isA (h.1 a) (fun k m => k = 2 ∧ vp_in i m) ∧ K 25 L (h.2 a i.toNatClampNeg :: r) h cs ss) := by
  rw [dX7_isFour_24, ey_ok, nx_caload_59]
theorem qX7_isFour_25 : ey FX7 ini rt fin K0 K (decode cX7_isFour 25) 25 L (st) h cs ss = (lhas L 4 ∧ isI (lgt L 4) ∧ K 27 L (lgt L 4 :: st) h cs ss) := by
  rw [dX7_isFour_25, ey_ok, nx_iload_0] <;> rfl
theorem qX7_isFour_27 : ey FX7 ini rt fin K0 K (decode cX7_isFour 27) 27 L (.int y :: .int x :: r) h cs ss = (if ¬ x = y then K 60 L r h cs ss else K 30 L r h cs ss) := by
  rw [dX7_isFour_27, ey_ok, nx_if_icmp_37]
  exact and_l (by unfold jok; decide)
theorem qX7_isFour_30 : ey FX7 ini rt fin K0 K (decode cX7_isFour 30) 30 L (st) h cs ss = (lhas L 0 ∧ isRf (lgt L 0) ∧ K 31 L (lgt L 0 :: st) h cs ss) := by
  rw [dX7_isFour_30, ey_ok, nx_aload_n_3] <;> rfl
theorem qX7_isFour_31 : ey FX7 ini rt fin K0 K (decode cX7_isFour 31) 31 L (.ref a :: r) h cs ss = (h.1 a = some (.inl 7) ∧ K 34 L (h.2 a 11 :: r) h cs ss) := by
  rw [dX7_isFour_31, ey_ok, nx_getfield_54]
  exact and_l rfl
theorem qX7_isFour_34 : ey FX7 ini rt fin K0 K (decode cX7_isFour 34) 34 L (st) h cs ss = (lhas L 1 ∧ isI (lgt L 1) ∧ K 35 L (lgt L 1 :: st) h cs ss) := by
  rw [dX7_isFour_34, ey_ok, nx_iload_n_1] <;> rfl
theorem qX7_isFour_35 : ey FX7 ini rt fin K0 K (decode cX7_isFour 35) 35 L (st) h cs ss = (K 36 L (.int 2 :: st) h cs ss) := by
  rw [dX7_isFour_35, ey_ok, nx_iconst_11] <;> rfl
theorem qX7_isFour_36 : ey FX7 ini rt fin K0 K (decode cX7_isFour 36) 36 L (.int y :: .int x :: r) h cs ss = (K 37 L (.int (x + y) :: r) h cs ss) := by
  rw [dX7_isFour_36, ey_ok, nx_iadd_16]
theorem qX7_isFour_37 : ey FX7 ini rt fin K0 K (decode cX7_isFour 37) 37 L (.int i :: .ref a :: r) h cs ss = (isA (h.1 a) (fun k m => k = 2 ∧ vp_in i m) ∧ K 38 L (h.2 a i.toNatClampNeg :: r) h cs ss) := by
  rw [dX7_isFour_37, ey_ok, nx_caload_59]
theorem qX7_isFour_38 : ey FX7 ini rt fin K0 K (decode cX7_isFour 38) 38 L (st) h cs ss = (lhas L 5 ∧ isI (lgt L 5) ∧ K 40 L (lgt L 5 :: st) h cs ss) := by
  rw [dX7_isFour_38, ey_ok, nx_iload_0] <;> rfl
theorem qX7_isFour_40 : ey FX7 ini rt fin K0 K (decode cX7_isFour 40) 40 L (.int y :: .int x :: r) h cs ss = (if ¬ x = y then K 60 L r h cs ss else K 43 L r h cs ss) := by
  rw [dX7_isFour_40, ey_ok, nx_if_icmp_37]
  exact and_l (by unfold jok; decide)
theorem qX7_isFour_43 : ey FX7 ini rt fin K0 K (decode cX7_isFour 43) 43 L (st) h cs ss = (lhas L 0 ∧ isRf (lgt L 0) ∧ K 44 L (lgt L 0 :: st) h cs ss) := by
  rw [dX7_isFour_43, ey_ok, nx_aload_n_3] <;> rfl
theorem qX7_isFour_44 : ey FX7 ini rt fin K0 K (decode cX7_isFour 44) 44 L (.ref a :: r) h cs ss = (h.1 a = some (.inl 7) ∧ K 47 L (h.2 a 11 :: r) h cs ss) := by
  rw [dX7_isFour_44, ey_ok, nx_getfield_54]
  exact and_l rfl
theorem qX7_isFour_47 : ey FX7 ini rt fin K0 K (decode cX7_isFour 47) 47 L (st) h cs ss = (lhas L 1 ∧ isI (lgt L 1) ∧ K 48 L (lgt L 1 :: st) h cs ss) := by
  rw [dX7_isFour_47, ey_ok, nx_iload_n_1] <;> rfl
theorem qX7_isFour_48 : ey FX7 ini rt fin K0 K (decode cX7_isFour 48) 48 L (st) h cs ss = (K 49 L (.int 3 :: st) h cs ss) := by
  rw [dX7_isFour_48, ey_ok, nx_iconst_11] <;> rfl
theorem qX7_isFour_49 : ey FX7 ini rt fin K0 K (decode cX7_isFour 49) 49 L (.int y :: .int x :: r) h cs ss = (K 50 L (.int (x + y) :: r) h cs ss) := by
  rw [dX7_isFour_49, ey_ok, nx_iadd_16]
theorem qX7_isFour_50 : ey FX7 ini rt fin K0 K (decode cX7_isFour 50) 50 L (.int i :: .ref a :: r) h cs ss = (isA (h.1 a) (fun k m => k = 2 ∧ vp_in i m) ∧ K 51 L (h.2 a i.toNatClampNeg :: r) h cs ss) := by
  rw [dX7_isFour_50, ey_ok, nx_caload_59]
theorem qX7_isFour_51 : ey FX7 ini rt fin K0 K (decode cX7_isFour 51) 51 L (st) h cs ss = (lhas L 6 ∧ isI (lgt L 6) ∧ K 53 L (lgt L 6 :: st) h cs ss) := by
  rw [dX7_isFour_51, ey_ok, nx_iload_0] <;> rfl
theorem qX7_isFour_53 : ey FX7 ini rt fin K0 K (decode cX7_isFour 53) 53 L (.int y :: .int x :: r) h cs ss = (if ¬ x = y then K 60 L r h cs ss else K 56 L r h cs ss) := by
  rw [dX7_isFour_53, ey_ok, nx_if_icmp_37]
  exact and_l (by unfold jok; decide)
theorem qX7_isFour_56 : ey FX7 ini rt fin K0 K (decode cX7_isFour 56) 56 L (st) h cs ss = (K 57 L (.int 1 :: st) h cs ss) := by
  rw [dX7_isFour_56, ey_ok, nx_iconst_11] <;> rfl
theorem qX7_isFour_57 : ey FX7 ini rt fin K0 K (decode cX7_isFour 57) 57 L (st) h cs ss = (K 61 L st h cs ss) := by
  rw [dX7_isFour_57, ey_ok, nx_goto_29]
  exact and_l (by unfold jok; decide)
theorem qX7_isFour_60 : ey FX7 ini rt fin K0 K (decode cX7_isFour 60) 60 L (st) h cs ss = (K 61 L (.int 0 :: st) h cs ss) := by
  rw [dX7_isFour_60, ey_ok, nx_iconst_11] <;> rfl
theorem qX7_isFour_61 : ey FX7 ini rt fin K0 K (decode cX7_isFour 61) 61 L ([.int x]) h cs ss = (rokI rt x ∧ fin (some (.int x)) h cs ss) := by
  rw [dX7_isFour_61, ey_ok, nx_ireturn_68]
theorem qX7_isSkill_0 : ey FX7 ini rt fin K0 K (decode cX7_isSkill 0) 0 L (st) h cs ss = (lhas L 2 ∧ isI (lgt L 2) ∧ K 1 L (lgt L 2 :: st) h cs ss) := by
  rw [dX7_isSkill_0, ey_ok, nx_iload_n_1] <;> rfl
theorem qX7_isSkill_1 : ey FX7 ini rt fin K0 K (decode cX7_isSkill 1) 1 L (st) h cs ss = (lhas L 1 ∧ isI (lgt L 1) ∧ K 2 L (lgt L 1 :: st) h cs ss) := by
  rw [dX7_isSkill_1, ey_ok, nx_iload_n_1] <;> rfl
theorem qX7_isSkill_2 : ey FX7 ini rt fin K0 K (decode cX7_isSkill 2) 2 L (.int y :: .int x :: r) h cs ss = (K 3 L (.int (x - y) :: r) h cs ss) := by
  rw [dX7_isSkill_2, ey_ok, nx_isub_17]
theorem qX7_isSkill_3 : ey FX7 ini rt fin K0 K (decode cX7_isSkill 3) 3 L (st) h cs ss = (K 4 L (.int 5 :: st) h cs ss) := by
  rw [dX7_isSkill_3, ey_ok, nx_iconst_11] <;> rfl
theorem qX7_isSkill_4 : ey FX7 ini rt fin K0 K (decode cX7_isSkill 4) 4 L (.int y :: .int x :: r) h cs ss = (if ¬ x = y then K 74 L r h cs ss else K 7 L r h cs ss) := by
  rw [dX7_isSkill_4, ey_ok, nx_if_icmp_37]
  exact and_l (by unfold jok; decide)
theorem qX7_isSkill_7 : ey FX7 ini rt fin K0 K (decode cX7_isSkill 7) 7 L (st) h cs ss = (lhas L 0 ∧ isRf (lgt L 0) ∧ K 8 L (lgt L 0 :: st) h cs ss) := by
  rw [dX7_isSkill_7, ey_ok, nx_aload_n_3] <;> rfl
theorem qX7_isSkill_8 : ey FX7 ini rt fin K0 K (decode cX7_isSkill 8) 8 L (.ref a :: r) h cs ss = (h.1 a = some (.inl 7) ∧ K 11 L (h.2 a 11 :: r) h cs ss) := by
  rw [dX7_isSkill_8, ey_ok, nx_getfield_54]
  exact and_l rfl
theorem qX7_isSkill_11 : ey FX7 ini rt fin K0 K (decode cX7_isSkill 11) 11 L (st) h cs ss = (lhas L 1 ∧ isI (lgt L 1) ∧ K 12 L (lgt L 1 :: st) h cs ss) := by
  rw [dX7_isSkill_11, ey_ok, nx_iload_n_1] <;> rfl
theorem qX7_isSkill_12 : ey FX7 ini rt fin K0 K (decode cX7_isSkill 12) 12 L (.int i :: .ref a :: r) h cs ss = (isA (h.1 a) (fun k m => k = 2 ∧ vp_in i m) ∧ K 13 L (h.2 a i.toNatClampNeg :: r) h cs ss) := by
  rw [dX7_isSkill_12, ey_ok, nx_caload_59]
theorem qX7_isSkill_13 : ey FX7 ini rt fin K0 K (decode cX7_isSkill 13) 13 L (st) h cs ss = (K 15 L (.int 83 :: st) h cs ss) := by
  rw [dX7_isSkill_13, ey_ok, nx_bipush_12] <;> rfl
theorem qX7_isSkill_15 : ey FX7 ini rt fin K0 K (decode cX7_isSkill 15) 15 L (.int y :: .int x :: r) h cs ss = (if ¬ x = y then K 74 L r h cs ss else K 18 L r h cs ss) := by
  rw [dX7_isSkill_15, ey_ok, nx_if_icmp_37]
  exact and_l (by unfold jok; decide)
theorem qX7_isSkill_18 : ey FX7 ini rt fin K0 K (decode cX7_isSkill 18) 18 L (st) h cs ss = (lhas L 0 ∧ isRf (lgt L 0) ∧ K 19 L (lgt L 0 :: st) h cs ss) := by
  rw [dX7_isSkill_18, ey_ok, nx_aload_n_3] <;> rfl
theorem qX7_isSkill_19 : ey FX7 ini rt fin K0 K (decode cX7_isSkill 19) 19 L (.ref a :: r) h cs ss = (h.1 a = some (.inl 7) ∧ K 22 L (h.2 a 11 :: r) h cs ss) := by
  rw [dX7_isSkill_19, ey_ok, nx_getfield_54]
  exact and_l rfl
theorem qX7_isSkill_22 : ey FX7 ini rt fin K0 K (decode cX7_isSkill 22) 22 L (st) h cs ss = (lhas L 1 ∧ isI (lgt L 1) ∧ K 23 L (lgt L 1 :: st) h cs ss) := by
  rw [dX7_isSkill_22, ey_ok, nx_iload_n_1] <;> rfl
theorem qX7_isSkill_23 : ey FX7 ini rt fin K0 K (decode cX7_isSkill 23) 23 L (st) h cs ss = (K 24 L (.int 1 :: st) h cs ss) := by
  rw [dX7_isSkill_23, ey_ok, nx_iconst_11] <;> rfl
theorem qX7_isSkill_24 : ey FX7 ini rt fin K0 K (decode cX7_isSkill 24) 24 L (.int y :: .int x :: r) h cs ss = (K 25 L (.int (x + y) :: r) h cs ss) := by
  rw [dX7_isSkill_24, ey_ok, nx_iadd_16]
theorem qX7_isSkill_25 : ey FX7 ini rt fin K0 K (decode cX7_isSkill 25) 25 L (.int i :: .ref a :: r) h cs ss = (isA (h.1 a) (fun k m => k = 2 ∧ vp_in i m) ∧ K 26 L (h.2 a i.toNatClampNeg :: r) h cs ss) := by
  rw [dX7_isSkill_25, ey_ok, nx_caload_59]
theorem qX7_isSkill_26 : ey FX7 ini rt fin K0 K (decode cX7_isSkill 26) 26 L (st) h cs ss = (K 28 L (.int 75 :: st) h cs ss) := by
  rw [dX7_isSkill_26, ey_ok, nx_bipush_12] <;> rfl
theorem qX7_isSkill_28 : ey FX7 ini rt fin K0 K (decode cX7_isSkill 28) 28 L (.int y :: .int x :: r) h cs ss = (if ¬ x = y then K 74 L r h cs ss else K 31 L r h cs ss) := by
  rw [dX7_isSkill_28, ey_ok, nx_if_icmp_37]
  exact and_l (by unfold jok; decide)
theorem qX7_isSkill_31 : ey FX7 ini rt fin K0 K (decode cX7_isSkill 31) 31 L (st) h cs ss = (lhas L 0 ∧ isRf (lgt L 0) ∧ K 32 L (lgt L 0 :: st) h cs ss) := by
  rw [dX7_isSkill_31, ey_ok, nx_aload_n_3] <;> rfl
theorem qX7_isSkill_32 : ey FX7 ini rt fin K0 K (decode cX7_isSkill 32) 32 L (.ref a :: r) h cs ss = (h.1 a = some (.inl 7) ∧ K 35 L (h.2 a 11 :: r) h cs ss) := by
  rw [dX7_isSkill_32, ey_ok, nx_getfield_54]
  exact and_l rfl
theorem qX7_isSkill_35 : ey FX7 ini rt fin K0 K (decode cX7_isSkill 35) 35 L (st) h cs ss = (lhas L 1 ∧ isI (lgt L 1) ∧ K 36 L (lgt L 1 :: st) h cs ss) := by
  rw [dX7_isSkill_35, ey_ok, nx_iload_n_1] <;> rfl
theorem qX7_isSkill_36 : ey FX7 ini rt fin K0 K (decode cX7_isSkill 36) 36 L (st) h cs ss = (K 37 L (.int 2 :: st) h cs ss) := by
  rw [dX7_isSkill_36, ey_ok, nx_iconst_11] <;> rfl
theorem qX7_isSkill_37 : ey FX7 ini rt fin K0 K (decode cX7_isSkill 37) 37 L (.int y :: .int x :: r) h cs ss = (K 38 L (.int (x + y) :: r) h cs ss) := by
  rw [dX7_isSkill_37, ey_ok, nx_iadd_16]
theorem qX7_isSkill_38 : ey FX7 ini rt fin K0 K (decode cX7_isSkill 38) 38 L (.int i :: .ref a :: r) h cs ss = (isA (h.1 a) (fun k m => k = 2 ∧ vp_in i m) ∧ K 39 L (h.2 a i.toNatClampNeg :: r) h cs ss) := by
  rw [dX7_isSkill_38, ey_ok, nx_caload_59]
theorem qX7_isSkill_39 : ey FX7 ini rt fin K0 K (decode cX7_isSkill 39) 39 L (st) h cs ss = (K 41 L (.int 73 :: st) h cs ss) := by
  rw [dX7_isSkill_39, ey_ok, nx_bipush_12] <;> rfl
theorem qX7_isSkill_41 : ey FX7 ini rt fin K0 K (decode cX7_isSkill 41) 41 L (.int y :: .int x :: r) h cs ss = (if ¬ x = y then K 74 L r h cs ss else K 44 L r h cs ss) := by
  rw [dX7_isSkill_41, ey_ok, nx_if_icmp_37]
  exact and_l (by unfold jok; decide)
theorem qX7_isSkill_44 : ey FX7 ini rt fin K0 K (decode cX7_isSkill 44) 44 L (st) h cs ss = (lhas L 0 ∧ isRf (lgt L 0) ∧ K 45 L (lgt L 0 :: st) h cs ss) := by
  rw [dX7_isSkill_44, ey_ok, nx_aload_n_3] <;> rfl
theorem qX7_isSkill_45 : ey FX7 ini rt fin K0 K (decode cX7_isSkill 45) 45 L (.ref a :: r) h cs ss = (h.1 a = some (.inl 7) ∧ K 48 L (h.2 a 11 :: r) h cs ss) := by
  rw [dX7_isSkill_45, ey_ok, nx_getfield_54]
  exact and_l rfl
theorem qX7_isSkill_48 : ey FX7 ini rt fin K0 K (decode cX7_isSkill 48) 48 L (st) h cs ss = (lhas L 1 ∧ isI (lgt L 1) ∧ K 49 L (lgt L 1 :: st) h cs ss) := by
  rw [dX7_isSkill_48, ey_ok, nx_iload_n_1] <;> rfl
theorem qX7_isSkill_49 : ey FX7 ini rt fin K0 K (decode cX7_isSkill 49) 49 L (st) h cs ss = (K 50 L (.int 3 :: st) h cs ss) := by
  rw [dX7_isSkill_49, ey_ok, nx_iconst_11] <;> rfl
theorem qX7_isSkill_50 : ey FX7 ini rt fin K0 K (decode cX7_isSkill 50) 50 L (.int y :: .int x :: r) h cs ss = (K 51 L (.int (x + y) :: r) h cs ss) := by
  rw [dX7_isSkill_50, ey_ok, nx_iadd_16]
theorem qX7_isSkill_51 : ey FX7 ini rt fin K0 K (decode cX7_isSkill 51) 51 L (.int i :: .ref a :: r) h cs ss = (isA (h.1 a) (fun k m => k = 2 ∧ vp_in i m) ∧ K 52 L (h.2 a i.toNatClampNeg :: r) h cs ss) := by
  rw [dX7_isSkill_51, ey_ok, nx_caload_59]
theorem qX7_isSkill_52 : ey FX7 ini rt fin K0 K (decode cX7_isSkill 52) 52 L (st) h cs ss = (K 54 L (.int 76 :: st) h cs ss) := by
  rw [dX7_isSkill_52, ey_ok, nx_bipush_12] <;> rfl
theorem qX7_isSkill_54 : ey FX7 ini rt fin K0 K (decode cX7_isSkill 54) 54 L (.int y :: .int x :: r) h cs ss = (if ¬ x = y then K 74 L r h cs ss else K 57 L r h cs ss) := by
  rw [dX7_isSkill_54, ey_ok, nx_if_icmp_37]
  exact and_l (by unfold jok; decide)
theorem qX7_isSkill_57 : ey FX7 ini rt fin K0 K (decode cX7_isSkill 57) 57 L (st) h cs ss = (lhas L 0 ∧ isRf (lgt L 0) ∧ K 58 L (lgt L 0 :: st) h cs ss) := by
  rw [dX7_isSkill_57, ey_ok, nx_aload_n_3] <;> rfl
theorem qX7_isSkill_58 : ey FX7 ini rt fin K0 K (decode cX7_isSkill 58) 58 L (.ref a :: r) h cs ss = (h.1 a = some (.inl 7) ∧ K 61 L (h.2 a 11 :: r) h cs ss) := by
  rw [dX7_isSkill_58, ey_ok, nx_getfield_54]
  exact and_l rfl
theorem qX7_isSkill_61 : ey FX7 ini rt fin K0 K (decode cX7_isSkill 61) 61 L (st) h cs ss = (lhas L 1 ∧ isI (lgt L 1) ∧ K 62 L (lgt L 1 :: st) h cs ss) := by
  rw [dX7_isSkill_61, ey_ok, nx_iload_n_1] <;> rfl
theorem qX7_isSkill_62 : ey FX7 ini rt fin K0 K (decode cX7_isSkill 62) 62 L (st) h cs ss = (K 63 L (.int 4 :: st) h cs ss) := by
  rw [dX7_isSkill_62, ey_ok, nx_iconst_11] <;> rfl
theorem qX7_isSkill_63 : ey FX7 ini rt fin K0 K (decode cX7_isSkill 63) 63 L (.int y :: .int x :: r) h cs ss = (K 64 L (.int (x + y) :: r) h cs ss) := by
  rw [dX7_isSkill_63, ey_ok, nx_iadd_16]
theorem qX7_isSkill_64 : ey FX7 ini rt fin K0 K (decode cX7_isSkill 64) 64 L (.int i :: .ref a :: r) h cs ss = (isA (h.1 a) (fun k m => k = 2 ∧ vp_in i m) ∧ K 65 L (h.2 a i.toNatClampNeg :: r) h cs ss) := by
  rw [dX7_isSkill_64, ey_ok, nx_caload_59]
theorem qX7_isSkill_65 : ey FX7 ini rt fin K0 K (decode cX7_isSkill 65) 65 L (st) h cs ss = (K 67 L (.int 76 :: st) h cs ss) := by
  rw [dX7_isSkill_65, ey_ok, nx_bipush_12] <;> rfl
theorem qX7_isSkill_67 : ey FX7 ini rt fin K0 K (decode cX7_isSkill 67) 67 L (.int y :: .int x :: r) h cs ss = (if ¬ x = y then K 74 L r h cs ss else K 70 L r h cs ss) := by
  rw [dX7_isSkill_67, ey_ok, nx_if_icmp_37]
  exact and_l (by unfold jok; decide)
theorem qX7_isSkill_70 : ey FX7 ini rt fin K0 K (decode cX7_isSkill 70) 70 L (st) h cs ss = (K 71 L (.int 1 :: st) h cs ss) := by
  rw [dX7_isSkill_70, ey_ok, nx_iconst_11] <;> rfl
theorem qX7_isSkill_71 : ey FX7 ini rt fin K0 K (decode cX7_isSkill 71) 71 L (st) h cs ss = (K 75 L st h cs ss) := by
  rw [dX7_isSkill_71, ey_ok, nx_goto_29]
  exact and_l (by unfold jok; decide)
theorem qX7_isSkill_74 : ey FX7 ini rt fin K0 K (decode cX7_isSkill 74) 74 L (st) h cs ss = (K 75 L (.int 0 :: st) h cs ss) := by
  rw [dX7_isSkill_74, ey_ok, nx_iconst_11] <;> rfl
theorem qX7_isSkill_75 : ey FX7 ini rt fin K0 K (decode cX7_isSkill 75) 75 L ([.int x]) h cs ss = (rokI rt x ∧ fin (some (.int x)) h cs ss) := by
  rw [dX7_isSkill_75, ey_ok, nx_ireturn_68]
theorem qX7_numberOf_0 : ey FX7 ini rt fin K0 K (decode cX7_numberOf 0) 0 L (st) h cs ss = (lhas L 2 ∧ isI (lgt L 2) ∧ K 1 L (lgt L 2 :: st) h cs ss) := by
  rw [dX7_numberOf_0, ey_ok, nx_iload_n_1] <;> rfl
theorem qX7_numberOf_1 : ey FX7 ini rt fin K0 K (decode cX7_numberOf 1) 1 L (st) h cs ss = (lhas L 1 ∧ isI (lgt L 1) ∧ K 2 L (lgt L 1 :: st) h cs ss) := by
  rw [dX7_numberOf_1, ey_ok, nx_iload_n_1] <;> rfl
theorem qX7_numberOf_2 : ey FX7 ini rt fin K0 K (decode cX7_numberOf 2) 2 L (.int y :: .int x :: r) h cs ss = (K 3 L (.int (x - y) :: r) h cs ss) := by
  rw [dX7_numberOf_2, ey_ok, nx_isub_17]
theorem qX7_numberOf_3 : ey FX7 ini rt fin K0 K (decode cX7_numberOf 3) 3 L (st) h cs ss = (lhas L 3 ∧ isI (lgt L 3) ∧ K 4 L (lgt L 3 :: st) h cs ss) := by
  rw [dX7_numberOf_3, ey_ok, nx_iload_n_1] <;> rfl
theorem qX7_numberOf_4 : ey FX7 ini rt fin K0 K (decode cX7_numberOf 4) 4 L (.int y :: .int x :: r) h cs ss = (if x ≤ y then K 9 L r h cs ss else K 7 L r h cs ss) := by
  rw [dX7_numberOf_4, ey_ok, nx_if_icmp_41]
  exact and_l (by unfold jok; decide)
theorem qX7_numberOf_7 : ey FX7 ini rt fin K0 K (decode cX7_numberOf 7) 7 L (st) h cs ss = (K 8 L (.int (-1) :: st) h cs ss) := by
  rw [dX7_numberOf_7, ey_ok, nx_iconst_11] <;> rfl
theorem qX7_numberOf_8 : ey FX7 ini rt fin K0 K (decode cX7_numberOf 8) 8 L ([.int x]) h cs ss = (rokI rt x ∧ fin (some (.int x)) h cs ss) := by
  rw [dX7_numberOf_8, ey_ok, nx_ireturn_68]
theorem qX7_numberOf_9 : ey FX7 ini rt fin K0 K (decode cX7_numberOf 9) 9 L (st) h cs ss = (K 10 L (.int 0 :: st) h cs ss) := by
  rw [dX7_numberOf_9, ey_ok, nx_iconst_11] <;> rfl
theorem qX7_numberOf_10 : ey FX7 ini rt fin K0 K (decode cX7_numberOf 10) 10 L (.int x :: r) h cs ss = (4 < L.length ∧ K 12 (L.set 4 (some (.int x))) r h cs ss) := by
  rw [dX7_numberOf_10, ey_ok, nx_istore_4] <;> rfl
theorem qX7_numberOf_12 : ey FX7 ini rt fin K0 K (decode cX7_numberOf 12) 12 L (st) h cs ss = (lhas L 1 ∧ isI (lgt L 1) ∧ K 13 L (lgt L 1 :: st) h cs ss) := by
  rw [dX7_numberOf_12, ey_ok, nx_iload_n_1] <;> rfl
theorem qX7_numberOf_13 : ey FX7 ini rt fin K0 K (decode cX7_numberOf 13) 13 L (.int x :: r) h cs ss = (5 < L.length ∧ K 15 (L.set 5 (some (.int x))) r h cs ss) := by
  rw [dX7_numberOf_13, ey_ok, nx_istore_4] <;> rfl
theorem qX7_numberOf_15 : ey FX7 ini rt fin K0 K (decode cX7_numberOf 15) 15 L (st) h cs ss = (lhas L 5 ∧ isI (lgt L 5) ∧ K 17 L (lgt L 5 :: st) h cs ss) := by
  rw [dX7_numberOf_15, ey_ok, nx_iload_0] <;> rfl
theorem qX7_numberOf_17 : ey FX7 ini rt fin K0 K (decode cX7_numberOf 17) 17 L (st) h cs ss = (lhas L 2 ∧ isI (lgt L 2) ∧ K 18 L (lgt L 2 :: st) h cs ss) := by
  rw [dX7_numberOf_17, ey_ok, nx_iload_n_1] <;> rfl
theorem qX7_numberOf_18 : ey FX7 ini rt fin K0 K (decode cX7_numberOf 18) 18 L (.int y :: .int x :: r) h cs ss = (if y ≤ x then K 71 L r h cs ss else K 21 L r h cs ss) := by
  rw [dX7_numberOf_18, ey_ok, nx_if_icmp_39]
  exact and_l (by unfold jok; decide)
theorem qX7_numberOf_21 : ey FX7 ini rt fin K0 K (decode cX7_numberOf 21) 21 L (st) h cs ss = (lhas L 0 ∧ isRf (lgt L 0) ∧ K 22 L (lgt L 0 :: st) h cs ss) := by
  rw [dX7_numberOf_21, ey_ok, nx_aload_n_3] <;> rfl
theorem qX7_numberOf_22 : ey FX7 ini rt fin K0 K (decode cX7_numberOf 22) 22 L (.ref a :: r) h cs ss = (h.1 a = some (.inl 7) ∧ K 25 L (h.2 a 11 :: r) h cs ss) := by
  rw [dX7_numberOf_22, ey_ok, nx_getfield_54]
  exact and_l rfl
theorem qX7_numberOf_25 : ey FX7 ini rt fin K0 K (decode cX7_numberOf 25) 25 L (st) h cs ss = (lhas L 5 ∧ isI (lgt L 5) ∧ K 27 L (lgt L 5 :: st) h cs ss) := by
  rw [dX7_numberOf_25, ey_ok, nx_iload_0] <;> rfl
theorem qX7_numberOf_27 : ey FX7 ini rt fin K0 K (decode cX7_numberOf 27) 27 L (.int i :: .ref a :: r) h cs ss = (isA (h.1 a) (fun k m => k = 2 ∧ vp_in i m) ∧ K 28 L (h.2 a i.toNatClampNeg :: r) h cs ss) := by
  rw [dX7_numberOf_27, ey_ok, nx_caload_59]
theorem qX7_numberOf_28 : ey FX7 ini rt fin K0 K (decode cX7_numberOf 28) 28 L (st) h cs ss = (K 30 L (.int 48 :: st) h cs ss) := by
  rw [dX7_numberOf_28, ey_ok, nx_bipush_12] <;> rfl
theorem qX7_numberOf_30 : ey FX7 ini rt fin K0 K (decode cX7_numberOf 30) 30 L (.int y :: .int x :: r) h cs ss = (if x < y then K 45 L r h cs ss else K 33 L r h cs ss) := by
  rw [dX7_numberOf_30, ey_ok, nx_if_icmp_38]
  exact and_l (by unfold jok; decide)
theorem qX7_numberOf_33 : ey FX7 ini rt fin K0 K (decode cX7_numberOf 33) 33 L (st) h cs ss = (lhas L 0 ∧ isRf (lgt L 0) ∧ K 34 L (lgt L 0 :: st) h cs ss) := by
  rw [dX7_numberOf_33, ey_ok, nx_aload_n_3] <;> rfl
theorem qX7_numberOf_34 : ey FX7 ini rt fin K0 K (decode cX7_numberOf 34) 34 L (.ref a :: r) h cs ss = (h.1 a = some (.inl 7) ∧ K 37 L (h.2 a 11 :: r) h cs ss) := by
  rw [dX7_numberOf_34, ey_ok, nx_getfield_54]
  exact and_l rfl
theorem qX7_numberOf_37 : ey FX7 ini rt fin K0 K (decode cX7_numberOf 37) 37 L (st) h cs ss = (lhas L 5 ∧ isI (lgt L 5) ∧ K 39 L (lgt L 5 :: st) h cs ss) := by
  rw [dX7_numberOf_37, ey_ok, nx_iload_0] <;> rfl
theorem qX7_numberOf_39 : ey FX7 ini rt fin K0 K (decode cX7_numberOf 39) 39 L (.int i :: .ref a :: r) h cs ss = (isA (h.1 a) (fun k m => k = 2 ∧ vp_in i m) ∧ K 40 L (h.2 a i.toNatClampNeg :: r) h cs ss) := by
  rw [dX7_numberOf_39, ey_ok, nx_caload_59]
theorem qX7_numberOf_40 : ey FX7 ini rt fin K0 K (decode cX7_numberOf 40) 40 L (st) h cs ss = (K 42 L (.int 57 :: st) h cs ss) := by
  rw [dX7_numberOf_40, ey_ok, nx_bipush_12] <;> rfl
theorem qX7_numberOf_42 : ey FX7 ini rt fin K0 K (decode cX7_numberOf 42) 42 L (.int y :: .int x :: r) h cs ss = (if x ≤ y then K 47 L r h cs ss else K 45 L r h cs ss) := by
  rw [dX7_numberOf_42, ey_ok, nx_if_icmp_41]
  exact and_l (by unfold jok; decide)
theorem qX7_numberOf_45 : ey FX7 ini rt fin K0 K (decode cX7_numberOf 45) 45 L (st) h cs ss = (K 46 L (.int (-1) :: st) h cs ss) := by
  rw [dX7_numberOf_45, ey_ok, nx_iconst_11] <;> rfl
theorem qX7_numberOf_46 : ey FX7 ini rt fin K0 K (decode cX7_numberOf 46) 46 L ([.int x]) h cs ss = (rokI rt x ∧ fin (some (.int x)) h cs ss) := by
  rw [dX7_numberOf_46, ey_ok, nx_ireturn_68]
theorem qX7_numberOf_47 : ey FX7 ini rt fin K0 K (decode cX7_numberOf 47) 47 L (st) h cs ss = (K 49 L (.int 10 :: st) h cs ss) := by
  rw [dX7_numberOf_47, ey_ok, nx_bipush_12] <;> rfl
theorem qX7_numberOf_49 : ey FX7 ini rt fin K0 K (decode cX7_numberOf 49) 49 L (st) h cs ss = (lhas L 4 ∧ isI (lgt L 4) ∧ K 51 L (lgt L 4 :: st) h cs ss) := by
  rw [dX7_numberOf_49, ey_ok, nx_iload_0] <;> rfl
theorem qX7_numberOf_51 : ey FX7 ini rt fin K0 K (decode cX7_numberOf 51) 51 L (.int y :: .int x :: r) h cs ss = (K 52 L (.int (x * y) :: r) h cs ss) := by
  rw [dX7_numberOf_51, ey_ok, nx_imul_18]
theorem qX7_numberOf_52 : ey FX7 ini rt fin K0 K (decode cX7_numberOf 52) 52 L (st) h cs ss = (lhas L 0 ∧ isRf (lgt L 0) ∧ K 53 L (lgt L 0 :: st) h cs ss) := by
  rw [dX7_numberOf_52, ey_ok, nx_aload_n_3] <;> rfl
theorem qX7_numberOf_53 : ey FX7 ini rt fin K0 K (decode cX7_numberOf 53) 53 L (.ref a :: r) h cs ss = (h.1 a = some (.inl 7) ∧ K 56 L (h.2 a 11 :: r) h cs ss) := by
  rw [dX7_numberOf_53, ey_ok, nx_getfield_54]
  exact and_l rfl
theorem qX7_numberOf_56 : ey FX7 ini rt fin K0 K (decode cX7_numberOf 56) 56 L (st) h cs ss = (lhas L 5 ∧ isI (lgt L 5) ∧ K 58 L (lgt L 5 :: st) h cs ss) := by
  rw [dX7_numberOf_56, ey_ok, nx_iload_0] <;> rfl
theorem qX7_numberOf_58 : ey FX7 ini rt fin K0 K (decode cX7_numberOf 58) 58 L (.int i :: .ref a :: r) h cs ss = (isA (h.1 a) (fun k m => k = 2 ∧ vp_in i m) ∧ K 59 L (h.2 a i.toNatClampNeg :: r) h cs ss) := by
  rw [dX7_numberOf_58, ey_ok, nx_caload_59]
theorem qX7_numberOf_59 : ey FX7 ini rt fin K0 K (decode cX7_numberOf 59) 59 L (.int y :: .int x :: r) h cs ss = (K 60 L (.int (x + y) :: r) h cs ss) := by
  rw [dX7_numberOf_59, ey_ok, nx_iadd_16]
theorem qX7_numberOf_60 : ey FX7 ini rt fin K0 K (decode cX7_numberOf 60) 60 L (st) h cs ss = (K 62 L (.int 48 :: st) h cs ss) := by
  rw [dX7_numberOf_60, ey_ok, nx_bipush_12] <;> rfl
theorem qX7_numberOf_62 : ey FX7 ini rt fin K0 K (decode cX7_numberOf 62) 62 L (.int y :: .int x :: r) h cs ss = (K 63 L (.int (x - y) :: r) h cs ss) := by
  rw [dX7_numberOf_62, ey_ok, nx_isub_17]
theorem qX7_numberOf_63 : ey FX7 ini rt fin K0 K (decode cX7_numberOf 63) 63 L (.int x :: r) h cs ss = (4 < L.length ∧ K 65 (L.set 4 (some (.int x))) r h cs ss) := by
  rw [dX7_numberOf_63, ey_ok, nx_istore_4] <;> rfl
theorem qX7_numberOf_65 : ey FX7 ini rt fin K0 K (decode cX7_numberOf 65) 65 L (st) h cs ss = (lhas L 5 ∧ isI (lgt L 5) ∧ K 68 (L.set 5 (some (inc (lgt L 5) 1))) st h cs ss) := by
  rw [dX7_numberOf_65, ey_ok, nx_iinc_10] <;> rfl
theorem qX7_numberOf_68 : ey FX7 ini rt fin K0 K (decode cX7_numberOf 68) 68 L (st) h cs ss = (K 15 L st h cs ss) := by
  rw [dX7_numberOf_68, ey_ok, nx_goto_29]
  exact and_l (by unfold jok; decide)
theorem qX7_numberOf_71 : ey FX7 ini rt fin K0 K (decode cX7_numberOf 71) 71 L (st) h cs ss = (lhas L 4 ∧ isI (lgt L 4) ∧ K 73 L (lgt L 4 :: st) h cs ss) := by
  rw [dX7_numberOf_71, ey_ok, nx_iload_0] <;> rfl
theorem qX7_numberOf_73 : ey FX7 ini rt fin K0 K (decode cX7_numberOf 73) 73 L ([.int x]) h cs ss = (rokI rt x ∧ fin (some (.int x)) h cs ss) := by
  rw [dX7_numberOf_73, ey_ok, nx_ireturn_68]
theorem qX7_word_0 : ey FX7 ini rt fin K0 K (decode cX7_word 0) 0 L (st) h cs ss = (lhas L 1 ∧ isI (lgt L 1) ∧ K 1 L (lgt L 1 :: st) h cs ss) := by
  rw [dX7_word_0, ey_ok, nx_iload_n_1] <;> rfl
theorem qX7_word_1 : ey FX7 ini rt fin K0 K (decode cX7_word 1) 1 L (.int x :: r) h cs ss = (if ¬ x = 0 then K 105 L r h cs ss else K 4 L r h cs ss) := by
  rw [dX7_word_1, ey_ok, nx_ifond_31]
  exact and_l (by unfold jok; decide)
theorem qX7_word_4 : ey FX7 ini rt fin K0 K (decode cX7_word 4) 4 L (st) h cs ss = (lhas L 0 ∧ isRf (lgt L 0) ∧ K 5 L (lgt L 0 :: st) h cs ss) := by
  rw [dX7_word_4, ey_ok, nx_aload_n_3] <;> rfl
theorem qX7_word_5 : ey FX7 ini rt fin K0 K (decode cX7_word 5) 5 L (st) h cs ss = (lhas L 0 ∧ isRf (lgt L 0) ∧ K 6 L (lgt L 0 :: st) h cs ss) := by
  rw [dX7_word_5, ey_ok, nx_aload_n_3] <;> rfl
theorem qX7_word_6 : ey FX7 ini rt fin K0 K (decode cX7_word 6) 6 L (st) h cs ss = (lhas L 2 ∧ isI (lgt L 2) ∧ K 7 L (lgt L 2 :: st) h cs ss) := by
  rw [dX7_word_6, ey_ok, nx_iload_n_1] <;> rfl
theorem qX7_word_7 : ey FX7 ini rt fin K0 K (decode cX7_word 7) 7 L (st) h cs ss = (lhas L 3 ∧ isI (lgt L 3) ∧ K 8 L (lgt L 3 :: st) h cs ss) := by
  rw [dX7_word_7, ey_ok, nx_iload_n_1] <;> rfl
theorem qX7_word_8 : ey FX7 ini rt fin K0 K (decode cX7_word 8) 8 L (st) h cs ss = (K 10 L (.int 82 :: st) h cs ss) := by
  rw [dX7_word_8, ey_ok, nx_bipush_12] <;> rfl
theorem qX7_word_10 : ey FX7 ini rt fin K0 K (decode cX7_word 10) 10 L (st) h cs ss = (K 12 L (.int 69 :: st) h cs ss) := by
  rw [dX7_word_10, ey_ok, nx_bipush_12] <;> rfl
theorem qX7_word_12 : ey FX7 ini rt fin K0 K (decode cX7_word 12) 12 L (st) h cs ss = (K 14 L (.int 83 :: st) h cs ss) := by
  rw [dX7_word_12, ey_ok, nx_bipush_12] <;> rfl
theorem qX7_word_14 : ey FX7 ini rt fin K0 K (decode cX7_word 14) 14 L (st) h cs ss = (K 16 L (.int 84 :: st) h cs ss) := by
  rw [dX7_word_14, ey_ok, nx_bipush_12] <;> rfl
theorem qX7_word_16 : ey FX7 ini rt fin K0 K (decode cX7_word 16) 16 L (st) h cs ss = (K0 16 L st h cs ss) := by
  rw [dX7_word_16, ey_ok, nx_invokevirtual_72]
theorem qX7_word_19 : ey FX7 ini rt fin K0 K (decode cX7_word 19) 19 L (.int x :: r) h cs ss = (if x = 0 then K 26 L r h cs ss else K 22 L r h cs ss) := by
  rw [dX7_word_19, ey_ok, nx_ifond_30]
  exact and_l (by unfold jok; decide)
theorem qX7_word_22 : ey FX7 ini rt fin K0 K (decode cX7_word 22) 22 L (st) h cs ss = (K 23 L (.int 0 :: st) h cs ss) := by
  rw [dX7_word_22, ey_ok, nx_iconst_11] <;> rfl
theorem qX7_word_23 : ey FX7 ini rt fin K0 K (decode cX7_word 23) 23 L (st) h cs ss = (K 88 L st h cs ss) := by
  rw [dX7_word_23, ey_ok, nx_goto_29]
  exact and_l (by unfold jok; decide)
theorem qX7_word_26 : ey FX7 ini rt fin K0 K (decode cX7_word 26) 26 L (st) h cs ss = (lhas L 0 ∧ isRf (lgt L 0) ∧ K 27 L (lgt L 0 :: st) h cs ss) := by
  rw [dX7_word_26, ey_ok, nx_aload_n_3] <;> rfl
theorem qX7_word_27 : ey FX7 ini rt fin K0 K (decode cX7_word 27) 27 L (st) h cs ss = (lhas L 2 ∧ isI (lgt L 2) ∧ K 28 L (lgt L 2 :: st) h cs ss) := by
  rw [dX7_word_27, ey_ok, nx_iload_n_1] <;> rfl
theorem qX7_word_28 : ey FX7 ini rt fin K0 K (decode cX7_word 28) 28 L (st) h cs ss = (lhas L 3 ∧ isI (lgt L 3) ∧ K 29 L (lgt L 3 :: st) h cs ss) := by
  rw [dX7_word_28, ey_ok, nx_iload_n_1] <;> rfl
theorem qX7_word_29 : ey FX7 ini rt fin K0 K (decode cX7_word 29) 29 L (st) h cs ss = (K 31 L (.int 87 :: st) h cs ss) := by
  rw [dX7_word_29, ey_ok, nx_bipush_12] <;> rfl
theorem qX7_word_31 : ey FX7 ini rt fin K0 K (decode cX7_word 31) 31 L (st) h cs ss = (K 33 L (.int 69 :: st) h cs ss) := by
  rw [dX7_word_31, ey_ok, nx_bipush_12] <;> rfl
theorem qX7_word_33 : ey FX7 ini rt fin K0 K (decode cX7_word 33) 33 L (st) h cs ss = (K 35 L (.int 69 :: st) h cs ss) := by
  rw [dX7_word_33, ey_ok, nx_bipush_12] <;> rfl
theorem qX7_word_35 : ey FX7 ini rt fin K0 K (decode cX7_word 35) 35 L (st) h cs ss = (K 37 L (.int 75 :: st) h cs ss) := by
  rw [dX7_word_35, ey_ok, nx_bipush_12] <;> rfl
theorem qX7_word_37 : ey FX7 ini rt fin K0 K (decode cX7_word 37) 37 L (st) h cs ss = (K0 37 L st h cs ss) := by
  rw [dX7_word_37, ey_ok, nx_invokevirtual_72]
theorem qX7_word_40 : ey FX7 ini rt fin K0 K (decode cX7_word 40) 40 L (.int x :: r) h cs ss = (if x = 0 then K 47 L r h cs ss else K 43 L r h cs ss) := by
  rw [dX7_word_40, ey_ok, nx_ifond_30]
  exact and_l (by unfold jok; decide)
theorem qX7_word_43 : ey FX7 ini rt fin K0 K (decode cX7_word 43) 43 L (st) h cs ss = (K 44 L (.int 1 :: st) h cs ss) := by
  rw [dX7_word_43, ey_ok, nx_iconst_11] <;> rfl
theorem qX7_word_44 : ey FX7 ini rt fin K0 K (decode cX7_word 44) 44 L (st) h cs ss = (K 88 L st h cs ss) := by
  rw [dX7_word_44, ey_ok, nx_goto_29]
  exact and_l (by unfold jok; decide)
theorem qX7_word_47 : ey FX7 ini rt fin K0 K (decode cX7_word 47) 47 L (st) h cs ss = (lhas L 0 ∧ isRf (lgt L 0) ∧ K 48 L (lgt L 0 :: st) h cs ss) := by
  rw [dX7_word_47, ey_ok, nx_aload_n_3] <;> rfl
theorem qX7_word_48 : ey FX7 ini rt fin K0 K (decode cX7_word 48) 48 L (st) h cs ss = (lhas L 2 ∧ isI (lgt L 2) ∧ K 49 L (lgt L 2 :: st) h cs ss) := by
  rw [dX7_word_48, ey_ok, nx_iload_n_1] <;> rfl
theorem qX7_word_49 : ey FX7 ini rt fin K0 K (decode cX7_word 49) 49 L (st) h cs ss = (lhas L 3 ∧ isI (lgt L 3) ∧ K 50 L (lgt L 3 :: st) h cs ss) := by
  rw [dX7_word_49, ey_ok, nx_iload_n_1] <;> rfl
theorem qX7_word_50 : ey FX7 ini rt fin K0 K (decode cX7_word 50) 50 L (st) h cs ss = (K 52 L (.int 82 :: st) h cs ss) := by
  rw [dX7_word_50, ey_ok, nx_bipush_12] <;> rfl
theorem qX7_word_52 : ey FX7 ini rt fin K0 K (decode cX7_word 52) 52 L (st) h cs ss = (K 54 L (.int 79 :: st) h cs ss) := by
  rw [dX7_word_52, ey_ok, nx_bipush_12] <;> rfl
theorem qX7_word_54 : ey FX7 ini rt fin K0 K (decode cX7_word 54) 54 L (st) h cs ss = (K 56 L (.int 87 :: st) h cs ss) := by
  rw [dX7_word_54, ey_ok, nx_bipush_12] <;> rfl
theorem qX7_word_56 : ey FX7 ini rt fin K0 K (decode cX7_word 56) 56 L (st) h cs ss = (K0 56 L st h cs ss) := by
  rw [dX7_word_56, ey_ok, nx_invokevirtual_72]
theorem qX7_word_59 : ey FX7 ini rt fin K0 K (decode cX7_word 59) 59 L (.int x :: r) h cs ss = (if x = 0 then K 66 L r h cs ss else K 62 L r h cs ss) := by
  rw [dX7_word_59, ey_ok, nx_ifond_30]
  exact and_l (by unfold jok; decide)
theorem qX7_word_62 : ey FX7 ini rt fin K0 K (decode cX7_word 62) 62 L (st) h cs ss = (K 63 L (.int 2 :: st) h cs ss) := by
  rw [dX7_word_62, ey_ok, nx_iconst_11] <;> rfl
theorem qX7_word_63 : ey FX7 ini rt fin K0 K (decode cX7_word 63) 63 L (st) h cs ss = (K 88 L st h cs ss) := by
  rw [dX7_word_63, ey_ok, nx_goto_29]
  exact and_l (by unfold jok; decide)
theorem qX7_word_66 : ey FX7 ini rt fin K0 K (decode cX7_word 66) 66 L (st) h cs ss = (lhas L 0 ∧ isRf (lgt L 0) ∧ K 67 L (lgt L 0 :: st) h cs ss) := by
  rw [dX7_word_66, ey_ok, nx_aload_n_3] <;> rfl
theorem qX7_word_67 : ey FX7 ini rt fin K0 K (decode cX7_word 67) 67 L (st) h cs ss = (lhas L 2 ∧ isI (lgt L 2) ∧ K 68 L (lgt L 2 :: st) h cs ss) := by
  rw [dX7_word_67, ey_ok, nx_iload_n_1] <;> rfl
theorem qX7_word_68 : ey FX7 ini rt fin K0 K (decode cX7_word 68) 68 L (st) h cs ss = (lhas L 3 ∧ isI (lgt L 3) ∧ K 69 L (lgt L 3 :: st) h cs ss) := by
  rw [dX7_word_68, ey_ok, nx_iload_n_1] <;> rfl
theorem qX7_word_69 : ey FX7 ini rt fin K0 K (decode cX7_word 69) 69 L (st) h cs ss = (K 71 L (.int 76 :: st) h cs ss) := by
  rw [dX7_word_69, ey_ok, nx_bipush_12] <;> rfl
theorem qX7_word_71 : ey FX7 ini rt fin K0 K (decode cX7_word 71) 71 L (st) h cs ss = (K 73 L (.int 79 :: st) h cs ss) := by
  rw [dX7_word_71, ey_ok, nx_bipush_12] <;> rfl
theorem qX7_word_73 : ey FX7 ini rt fin K0 K (decode cX7_word 73) 73 L (st) h cs ss = (K 75 L (.int 78 :: st) h cs ss) := by
  rw [dX7_word_73, ey_ok, nx_bipush_12] <;> rfl
theorem qX7_word_75 : ey FX7 ini rt fin K0 K (decode cX7_word 75) 75 L (st) h cs ss = (K 77 L (.int 71 :: st) h cs ss) := by
  rw [dX7_word_75, ey_ok, nx_bipush_12] <;> rfl
theorem qX7_word_77 : ey FX7 ini rt fin K0 K (decode cX7_word 77) 77 L (st) h cs ss = (K0 77 L st h cs ss) := by
  rw [dX7_word_77, ey_ok, nx_invokevirtual_72]
theorem qX7_word_80 : ey FX7 ini rt fin K0 K (decode cX7_word 80) 80 L (.int x :: r) h cs ss = (if x = 0 then K 87 L r h cs ss else K 83 L r h cs ss) := by
  rw [dX7_word_80, ey_ok, nx_ifond_30]
  exact and_l (by unfold jok; decide)
theorem qX7_word_83 : ey FX7 ini rt fin K0 K (decode cX7_word 83) 83 L (st) h cs ss = (K 84 L (.int 3 :: st) h cs ss) := by
  rw [dX7_word_83, ey_ok, nx_iconst_11] <;> rfl
theorem qX7_word_84 : ey FX7 ini rt fin K0 K (decode cX7_word 84) 84 L (st) h cs ss = (K 88 L st h cs ss) := by
  rw [dX7_word_84, ey_ok, nx_goto_29]
  exact and_l (by unfold jok; decide)
theorem qX7_word_87 : ey FX7 ini rt fin K0 K (decode cX7_word 87) 87 L (st) h cs ss = (K 88 L (.int (-1) :: st) h cs ss) := by
  rw [dX7_word_87, ey_ok, nx_iconst_11] <;> rfl
theorem qX7_word_88 : ey FX7 ini rt fin K0 K (decode cX7_word 88) 88 L (v :: .ref a :: r) h cs ss = (h.1 a = some (.inl 7) ∧ okv (.int) v ∧ K 91 L r (h.1, hup h.2 a 12 v) cs ss) := by
  rw [dX7_word_88, ey_ok, nx_putfield_55]
  exact (and_l rfl).trans (and_m (fun z => nomatch z))
theorem qX7_word_91 : ey FX7 ini rt fin K0 K (decode cX7_word 91) 91 L (st) h cs ss = (lhas L 0 ∧ isRf (lgt L 0) ∧ K 92 L (lgt L 0 :: st) h cs ss) := by
  rw [dX7_word_91, ey_ok, nx_aload_n_3] <;> rfl
theorem qX7_word_92 : ey FX7 ini rt fin K0 K (decode cX7_word 92) 92 L (.ref a :: r) h cs ss = (h.1 a = some (.inl 7) ∧ K 95 L (h.2 a 12 :: r) h cs ss) := by
  rw [dX7_word_92, ey_ok, nx_getfield_54]
  exact and_l rfl
theorem qX7_word_95 : ey FX7 ini rt fin K0 K (decode cX7_word 95) 95 L (st) h cs ss = (K 96 L (.int (-1) :: st) h cs ss) := by
  rw [dX7_word_95, ey_ok, nx_iconst_11] <;> rfl
theorem qX7_word_96 : ey FX7 ini rt fin K0 K (decode cX7_word 96) 96 L (.int y :: .int x :: r) h cs ss = (if ¬ x = y then K 103 L r h cs ss else K 99 L r h cs ss) := by
  rw [dX7_word_96, ey_ok, nx_if_icmp_37]
  exact and_l (by unfold jok; decide)
theorem qX7_word_99 : ey FX7 ini rt fin K0 K (decode cX7_word 99) 99 L (st) h cs ss = (K 100 L (.int (-1) :: st) h cs ss) := by
  rw [dX7_word_99, ey_ok, nx_iconst_11] <;> rfl
theorem qX7_word_100 : ey FX7 ini rt fin K0 K (decode cX7_word 100) 100 L (st) h cs ss = (K 104 L st h cs ss) := by
  rw [dX7_word_100, ey_ok, nx_goto_29]
  exact and_l (by unfold jok; decide)
theorem qX7_word_103 : ey FX7 ini rt fin K0 K (decode cX7_word 103) 103 L (st) h cs ss = (K 104 L (.int 1 :: st) h cs ss) := by
  rw [dX7_word_103, ey_ok, nx_iconst_11] <;> rfl
theorem qX7_word_104 : ey FX7 ini rt fin K0 K (decode cX7_word 104) 104 L ([.int x]) h cs ss = (rokI rt x ∧ fin (some (.int x)) h cs ss) := by
  rw [dX7_word_104, ey_ok, nx_ireturn_68]
theorem qX7_word_105 : ey FX7 ini rt fin K0 K (decode cX7_word 105) 105 L (st) h cs ss = (lhas L 1 ∧ isI (lgt L 1) ∧ K 106 L (lgt L 1 :: st) h cs ss) := by
  rw [dX7_word_105, ey_ok, nx_iload_n_1] <;> rfl
theorem qX7_word_106 : ey FX7 ini rt fin K0 K (decode cX7_word 106) 106 L (st) h cs ss = (K 107 L (.int 1 :: st) h cs ss) := by
  rw [dX7_word_106, ey_ok, nx_iconst_11] <;> rfl
theorem qX7_word_107 : ey FX7 ini rt fin K0 K (decode cX7_word 107) 107 L (.int y :: .int x :: r) h cs ss = (if ¬ x = y then K 141 L r h cs ss else K 110 L r h cs ss) := by
  rw [dX7_word_107, ey_ok, nx_if_icmp_37]
  exact and_l (by unfold jok; decide)
theorem qX7_word_110 : ey FX7 ini rt fin K0 K (decode cX7_word 110) 110 L (st) h cs ss = (lhas L 0 ∧ isRf (lgt L 0) ∧ K 111 L (lgt L 0 :: st) h cs ss) := by
  rw [dX7_word_110, ey_ok, nx_aload_n_3] <;> rfl
theorem qX7_word_111 : ey FX7 ini rt fin K0 K (decode cX7_word 111) 111 L (st) h cs ss = (lhas L 0 ∧ isRf (lgt L 0) ∧ K 112 L (lgt L 0 :: st) h cs ss) := by
  rw [dX7_word_111, ey_ok, nx_aload_n_3] <;> rfl
theorem qX7_word_112 : ey FX7 ini rt fin K0 K (decode cX7_word 112) 112 L (st) h cs ss = (lhas L 2 ∧ isI (lgt L 2) ∧ K 113 L (lgt L 2 :: st) h cs ss) := by
  rw [dX7_word_112, ey_ok, nx_iload_n_1] <;> rfl
theorem qX7_word_113 : ey FX7 ini rt fin K0 K (decode cX7_word 113) 113 L (st) h cs ss = (lhas L 3 ∧ isI (lgt L 3) ∧ K 114 L (lgt L 3 :: st) h cs ss) := by
  rw [dX7_word_113, ey_ok, nx_iload_n_1] <;> rfl
theorem qX7_word_114 : ey FX7 ini rt fin K0 K (decode cX7_word 114) 114 L (st) h cs ss = (K 115 L (.int 3 :: st) h cs ss) := by
  rw [dX7_word_114, ey_ok, nx_iconst_11] <;> rfl
theorem qX7_word_115 : ey FX7 ini rt fin K0 K (decode cX7_word 115) 115 L (st) h cs ss = (K0 115 L st h cs ss) := by
  rw [dX7_word_115, ey_ok, nx_invokevirtual_72]
theorem qX7_word_118 : ey FX7 ini rt fin K0 K (decode cX7_word 118) 118 L (v :: .ref a :: r) h cs ss = (h.1 a = some (.inl 7) ∧ okv (.int) v ∧ K 121 L r (h.1, hup h.2 a 13 v) cs ss) := by
  rw [dX7_word_118, ey_ok, nx_putfield_55]
  exact (and_l rfl).trans (and_m (fun z => nomatch z))
theorem qX7_word_121 : ey FX7 ini rt fin K0 K (decode cX7_word 121) 121 L (st) h cs ss = (lhas L 0 ∧ isRf (lgt L 0) ∧ K 122 L (lgt L 0 :: st) h cs ss) := by
  rw [dX7_word_121, ey_ok, nx_aload_n_3] <;> rfl
theorem qX7_word_122 : ey FX7 ini rt fin K0 K (decode cX7_word 122) 122 L (.ref a :: r) h cs ss = (h.1 a = some (.inl 7) ∧ K 125 L (h.2 a 13 :: r) h cs ss) := by
  rw [dX7_word_122, ey_ok, nx_getfield_54]
  exact and_l rfl
theorem qX7_word_125 : ey FX7 ini rt fin K0 K (decode cX7_word 125) 125 L (st) h cs ss = (K 126 L (.int 1 :: st) h cs ss) := by
  rw [dX7_word_125, ey_ok, nx_iconst_11] <;> rfl
theorem qX7_word_126 : ey FX7 ini rt fin K0 K (decode cX7_word 126) 126 L (st) h cs ss = (K 129 L (.int 200 :: st) h cs ss) := by
  rw [dX7_word_126, ey_ok, nx_sipush_13] <;> rfl
theorem qX7_word_129 : ey FX7 ini rt fin K0 K (decode cX7_word 129) 129 L (st) h cs ss = (K0 129 L st h cs ss) := by
  rw [dX7_word_129, ey_ok, nx_invokestatic_73]
theorem qX7_word_132 : ey FX7 ini rt fin K0 K (decode cX7_word 132) 132 L (.int x :: r) h cs ss = (if x = 0 then K 139 L r h cs ss else K 135 L r h cs ss) := by
  rw [dX7_word_132, ey_ok, nx_ifond_30]
  exact and_l (by unfold jok; decide)
theorem qX7_word_135 : ey FX7 ini rt fin K0 K (decode cX7_word 135) 135 L (st) h cs ss = (K 136 L (.int 2 :: st) h cs ss) := by
  rw [dX7_word_135, ey_ok, nx_iconst_11] <;> rfl
theorem qX7_word_136 : ey FX7 ini rt fin K0 K (decode cX7_word 136) 136 L (st) h cs ss = (K 140 L st h cs ss) := by
  rw [dX7_word_136, ey_ok, nx_goto_29]
  exact and_l (by unfold jok; decide)
theorem qX7_word_139 : ey FX7 ini rt fin K0 K (decode cX7_word 139) 139 L (st) h cs ss = (K 140 L (.int (-1) :: st) h cs ss) := by
  rw [dX7_word_139, ey_ok, nx_iconst_11] <;> rfl
theorem qX7_word_140 : ey FX7 ini rt fin K0 K (decode cX7_word 140) 140 L ([.int x]) h cs ss = (rokI rt x ∧ fin (some (.int x)) h cs ss) := by
  rw [dX7_word_140, ey_ok, nx_ireturn_68]
theorem qX7_word_141 : ey FX7 ini rt fin K0 K (decode cX7_word 141) 141 L (st) h cs ss = (lhas L 1 ∧ isI (lgt L 1) ∧ K 142 L (lgt L 1 :: st) h cs ss) := by
  rw [dX7_word_141, ey_ok, nx_iload_n_1] <;> rfl
theorem qX7_word_142 : ey FX7 ini rt fin K0 K (decode cX7_word 142) 142 L (st) h cs ss = (K 143 L (.int 2 :: st) h cs ss) := by
  rw [dX7_word_142, ey_ok, nx_iconst_11] <;> rfl
theorem qX7_word_143 : ey FX7 ini rt fin K0 K (decode cX7_word 143) 143 L (.int y :: .int x :: r) h cs ss = (if ¬ x = y then K 157 L r h cs ss else K 146 L r h cs ss) := by
  rw [dX7_word_143, ey_ok, nx_if_icmp_37]
  exact and_l (by unfold jok; decide)
theorem qX7_word_146 : ey FX7 ini rt fin K0 K (decode cX7_word 146) 146 L (st) h cs ss = (lhas L 0 ∧ isRf (lgt L 0) ∧ K 147 L (lgt L 0 :: st) h cs ss) := by
  rw [dX7_word_146, ey_ok, nx_aload_n_3] <;> rfl
theorem qX7_word_147 : ey FX7 ini rt fin K0 K (decode cX7_word 147) 147 L (st) h cs ss = (lhas L 2 ∧ isI (lgt L 2) ∧ K 148 L (lgt L 2 :: st) h cs ss) := by
  rw [dX7_word_147, ey_ok, nx_iload_n_1] <;> rfl
theorem qX7_word_148 : ey FX7 ini rt fin K0 K (decode cX7_word 148) 148 L (st) h cs ss = (lhas L 3 ∧ isI (lgt L 3) ∧ K 149 L (lgt L 3 :: st) h cs ss) := by
  rw [dX7_word_148, ey_ok, nx_iload_n_1] <;> rfl
theorem qX7_word_149 : ey FX7 ini rt fin K0 K (decode cX7_word 149) 149 L (st) h cs ss = (K0 149 L st h cs ss) := by
  rw [dX7_word_149, ey_ok, nx_invokevirtual_72]
theorem qX7_word_152 : ey FX7 ini rt fin K0 K (decode cX7_word 152) 152 L (.int x :: r) h cs ss = (if x = 0 then K 157 L r h cs ss else K 155 L r h cs ss) := by
  rw [dX7_word_152, ey_ok, nx_ifond_30]
  exact and_l (by unfold jok; decide)
theorem qX7_word_155 : ey FX7 ini rt fin K0 K (decode cX7_word 155) 155 L (st) h cs ss = (K 156 L (.int 3 :: st) h cs ss) := by
  rw [dX7_word_155, ey_ok, nx_iconst_11] <;> rfl
theorem qX7_word_156 : ey FX7 ini rt fin K0 K (decode cX7_word 156) 156 L ([.int x]) h cs ss = (rokI rt x ∧ fin (some (.int x)) h cs ss) := by
  rw [dX7_word_156, ey_ok, nx_ireturn_68]
theorem qX7_word_157 : ey FX7 ini rt fin K0 K (decode cX7_word 157) 157 L (st) h cs ss = (lhas L 1 ∧ isI (lgt L 1) ∧ K 158 L (lgt L 1 :: st) h cs ss) := by
  rw [dX7_word_157, ey_ok, nx_iload_n_1] <;> rfl
theorem qX7_word_158 : ey FX7 ini rt fin K0 K (decode cX7_word 158) 158 L (st) h cs ss = (K 159 L (.int 2 :: st) h cs ss) := by
  rw [dX7_word_158, ey_ok, nx_iconst_11] <;> rfl
theorem qX7_word_159 : ey FX7 ini rt fin K0 K (decode cX7_word 159) 159 L (.int y :: .int x :: r) h cs ss = (if x = y then K 167 L r h cs ss else K 162 L r h cs ss) := by
  rw [dX7_word_159, ey_ok, nx_if_icmp_36]
  exact and_l (by unfold jok; decide)
theorem qX7_word_162 : ey FX7 ini rt fin K0 K (decode cX7_word 162) 162 L (st) h cs ss = (lhas L 1 ∧ isI (lgt L 1) ∧ K 163 L (lgt L 1 :: st) h cs ss) := by
  rw [dX7_word_162, ey_ok, nx_iload_n_1] <;> rfl
theorem qX7_word_163 : ey FX7 ini rt fin K0 K (decode cX7_word 163) 163 L (st) h cs ss = (K 164 L (.int 4 :: st) h cs ss) := by
  rw [dX7_word_163, ey_ok, nx_iconst_11] <;> rfl
theorem qX7_word_164 : ey FX7 ini rt fin K0 K (decode cX7_word 164) 164 L (.int y :: .int x :: r) h cs ss = (if ¬ x = y then K 188 L r h cs ss else K 167 L r h cs ss) := by
  rw [dX7_word_164, ey_ok, nx_if_icmp_37]
  exact and_l (by unfold jok; decide)
theorem qX7_word_167 : ey FX7 ini rt fin K0 K (decode cX7_word 167) 167 L (st) h cs ss = (lhas L 0 ∧ isRf (lgt L 0) ∧ K 168 L (lgt L 0 :: st) h cs ss) := by
  rw [dX7_word_167, ey_ok, nx_aload_n_3] <;> rfl
theorem qX7_word_168 : ey FX7 ini rt fin K0 K (decode cX7_word 168) 168 L (st) h cs ss = (lhas L 2 ∧ isI (lgt L 2) ∧ K 169 L (lgt L 2 :: st) h cs ss) := by
  rw [dX7_word_168, ey_ok, nx_iload_n_1] <;> rfl
theorem qX7_word_169 : ey FX7 ini rt fin K0 K (decode cX7_word 169) 169 L (st) h cs ss = (lhas L 3 ∧ isI (lgt L 3) ∧ K 170 L (lgt L 3 :: st) h cs ss) := by
  rw [dX7_word_169, ey_ok, nx_iload_n_1] <;> rfl
theorem qX7_word_170 : ey FX7 ini rt fin K0 K (decode cX7_word 170) 170 L (st) h cs ss = (K 172 L (.int 80 :: st) h cs ss) := by
  rw [dX7_word_170, ey_ok, nx_bipush_12] <;> rfl
theorem qX7_word_172 : ey FX7 ini rt fin K0 K (decode cX7_word 172) 172 L (st) h cs ss = (K 174 L (.int 65 :: st) h cs ss) := by
  rw [dX7_word_172, ey_ok, nx_bipush_12] <;> rfl
theorem qX7_word_174 : ey FX7 ini rt fin K0 K (decode cX7_word 174) 174 L (st) h cs ss = (K 176 L (.int 89 :: st) h cs ss) := by
  rw [dX7_word_174, ey_ok, nx_bipush_12] <;> rfl
theorem qX7_word_176 : ey FX7 ini rt fin K0 K (decode cX7_word 176) 176 L (st) h cs ss = (K0 176 L st h cs ss) := by
  rw [dX7_word_176, ey_ok, nx_invokevirtual_72]
theorem qX7_word_179 : ey FX7 ini rt fin K0 K (decode cX7_word 179) 179 L (.int x :: r) h cs ss = (if x = 0 then K 186 L r h cs ss else K 182 L r h cs ss) := by
  rw [dX7_word_179, ey_ok, nx_ifond_30]
  exact and_l (by unfold jok; decide)
theorem qX7_word_182 : ey FX7 ini rt fin K0 K (decode cX7_word 182) 182 L (st) h cs ss = (K 183 L (.int 5 :: st) h cs ss) := by
  rw [dX7_word_182, ey_ok, nx_iconst_11] <;> rfl
theorem qX7_word_183 : ey FX7 ini rt fin K0 K (decode cX7_word 183) 183 L (st) h cs ss = (K 187 L st h cs ss) := by
  rw [dX7_word_183, ey_ok, nx_goto_29]
  exact and_l (by unfold jok; decide)
theorem qX7_word_186 : ey FX7 ini rt fin K0 K (decode cX7_word 186) 186 L (st) h cs ss = (K 187 L (.int (-1) :: st) h cs ss) := by
  rw [dX7_word_186, ey_ok, nx_iconst_11] <;> rfl
theorem qX7_word_187 : ey FX7 ini rt fin K0 K (decode cX7_word 187) 187 L ([.int x]) h cs ss = (rokI rt x ∧ fin (some (.int x)) h cs ss) := by
  rw [dX7_word_187, ey_ok, nx_ireturn_68]
theorem qX7_word_188 : ey FX7 ini rt fin K0 K (decode cX7_word 188) 188 L (st) h cs ss = (lhas L 1 ∧ isI (lgt L 1) ∧ K 189 L (lgt L 1 :: st) h cs ss) := by
  rw [dX7_word_188, ey_ok, nx_iload_n_1] <;> rfl
theorem qX7_word_189 : ey FX7 ini rt fin K0 K (decode cX7_word 189) 189 L (st) h cs ss = (K 190 L (.int 3 :: st) h cs ss) := by
  rw [dX7_word_189, ey_ok, nx_iconst_11] <;> rfl
theorem qX7_word_190 : ey FX7 ini rt fin K0 K (decode cX7_word 190) 190 L (.int y :: .int x :: r) h cs ss = (if ¬ x = y then K 222 L r h cs ss else K 193 L r h cs ss) := by
  rw [dX7_word_190, ey_ok, nx_if_icmp_37]
  exact and_l (by unfold jok; decide)
theorem qX7_word_193 : ey FX7 ini rt fin K0 K (decode cX7_word 193) 193 L (st) h cs ss = (lhas L 0 ∧ isRf (lgt L 0) ∧ K 194 L (lgt L 0 :: st) h cs ss) := by
  rw [dX7_word_193, ey_ok, nx_aload_n_3] <;> rfl
theorem qX7_word_194 : ey FX7 ini rt fin K0 K (decode cX7_word 194) 194 L (st) h cs ss = (lhas L 0 ∧ isRf (lgt L 0) ∧ K 195 L (lgt L 0 :: st) h cs ss) := by
  rw [dX7_word_194, ey_ok, nx_aload_n_3] <;> rfl
theorem qX7_word_195 : ey FX7 ini rt fin K0 K (decode cX7_word 195) 195 L (st) h cs ss = (lhas L 2 ∧ isI (lgt L 2) ∧ K 196 L (lgt L 2 :: st) h cs ss) := by
  rw [dX7_word_195, ey_ok, nx_iload_n_1] <;> rfl
theorem qX7_word_196 : ey FX7 ini rt fin K0 K (decode cX7_word 196) 196 L (st) h cs ss = (lhas L 3 ∧ isI (lgt L 3) ∧ K 197 L (lgt L 3 :: st) h cs ss) := by
  rw [dX7_word_196, ey_ok, nx_iload_n_1] <;> rfl
theorem qX7_word_197 : ey FX7 ini rt fin K0 K (decode cX7_word 197) 197 L (st) h cs ss = (K 198 L (.int 1 :: st) h cs ss) := by
  rw [dX7_word_197, ey_ok, nx_iconst_11] <;> rfl
theorem qX7_word_198 : ey FX7 ini rt fin K0 K (decode cX7_word 198) 198 L (st) h cs ss = (K0 198 L st h cs ss) := by
  rw [dX7_word_198, ey_ok, nx_invokevirtual_72]
theorem qX7_word_201 : ey FX7 ini rt fin K0 K (decode cX7_word 201) 201 L (v :: .ref a :: r) h cs ss = (h.1 a = some (.inl 7) ∧ okv (.int) v ∧ K 204 L r (h.1, hup h.2 a 14 v) cs ss) := by
  rw [dX7_word_201, ey_ok, nx_putfield_55]
  exact (and_l rfl).trans (and_m (fun z => nomatch z))
theorem qX7_word_204 : ey FX7 ini rt fin K0 K (decode cX7_word 204) 204 L (st) h cs ss = (lhas L 0 ∧ isRf (lgt L 0) ∧ K 205 L (lgt L 0 :: st) h cs ss) := by
  rw [dX7_word_204, ey_ok, nx_aload_n_3] <;> rfl
theorem qX7_word_205 : ey FX7 ini rt fin K0 K (decode cX7_word 205) 205 L (.ref a :: r) h cs ss = (h.1 a = some (.inl 7) ∧ K 208 L (h.2 a 14 :: r) h cs ss) := by
  rw [dX7_word_205, ey_ok, nx_getfield_54]
  exact and_l rfl
theorem qX7_word_208 : ey FX7 ini rt fin K0 K (decode cX7_word 208) 208 L (st) h cs ss = (K 209 L (.int 0 :: st) h cs ss) := by
  rw [dX7_word_208, ey_ok, nx_iconst_11] <;> rfl
theorem qX7_word_209 : ey FX7 ini rt fin K0 K (decode cX7_word 209) 209 L (st) h cs ss = (K 210 L (.int 3 :: st) h cs ss) := by
  rw [dX7_word_209, ey_ok, nx_iconst_11] <;> rfl
theorem qX7_word_210 : ey FX7 ini rt fin K0 K (decode cX7_word 210) 210 L (st) h cs ss = (K0 210 L st h cs ss) := by
  rw [dX7_word_210, ey_ok, nx_invokestatic_73]
theorem qX7_word_213 : ey FX7 ini rt fin K0 K (decode cX7_word 213) 213 L (.int x :: r) h cs ss = (if x = 0 then K 220 L r h cs ss else K 216 L r h cs ss) := by
  rw [dX7_word_213, ey_ok, nx_ifond_30]
  exact and_l (by unfold jok; decide)
theorem qX7_word_216 : ey FX7 ini rt fin K0 K (decode cX7_word 216) 216 L (st) h cs ss = (K 217 L (.int 4 :: st) h cs ss) := by
  rw [dX7_word_216, ey_ok, nx_iconst_11] <;> rfl
theorem qX7_word_217 : ey FX7 ini rt fin K0 K (decode cX7_word 217) 217 L (st) h cs ss = (K 221 L st h cs ss) := by
  rw [dX7_word_217, ey_ok, nx_goto_29]
  exact and_l (by unfold jok; decide)
theorem qX7_word_220 : ey FX7 ini rt fin K0 K (decode cX7_word 220) 220 L (st) h cs ss = (K 221 L (.int (-1) :: st) h cs ss) := by
  rw [dX7_word_220, ey_ok, nx_iconst_11] <;> rfl
theorem qX7_word_221 : ey FX7 ini rt fin K0 K (decode cX7_word 221) 221 L ([.int x]) h cs ss = (rokI rt x ∧ fin (some (.int x)) h cs ss) := by
  rw [dX7_word_221, ey_ok, nx_ireturn_68]
theorem qX7_word_222 : ey FX7 ini rt fin K0 K (decode cX7_word 222) 222 L (st) h cs ss = (lhas L 1 ∧ isI (lgt L 1) ∧ K 223 L (lgt L 1 :: st) h cs ss) := by
  rw [dX7_word_222, ey_ok, nx_iload_n_1] <;> rfl
theorem qX7_word_223 : ey FX7 ini rt fin K0 K (decode cX7_word 223) 223 L (st) h cs ss = (K 224 L (.int 5 :: st) h cs ss) := by
  rw [dX7_word_223, ey_ok, nx_iconst_11] <;> rfl
theorem qX7_word_224 : ey FX7 ini rt fin K0 K (decode cX7_word 224) 224 L (.int y :: .int x :: r) h cs ss = (if ¬ x = y then K 259 L r h cs ss else K 227 L r h cs ss) := by
  rw [dX7_word_224, ey_ok, nx_if_icmp_37]
  exact and_l (by unfold jok; decide)
theorem qX7_word_227 : ey FX7 ini rt fin K0 K (decode cX7_word 227) 227 L (st) h cs ss = (lhas L 0 ∧ isRf (lgt L 0) ∧ K 228 L (lgt L 0 :: st) h cs ss) := by
  rw [dX7_word_227, ey_ok, nx_aload_n_3] <;> rfl
theorem qX7_word_228 : ey FX7 ini rt fin K0 K (decode cX7_word 228) 228 L (st) h cs ss = (lhas L 0 ∧ isRf (lgt L 0) ∧ K 229 L (lgt L 0 :: st) h cs ss) := by
  rw [dX7_word_228, ey_ok, nx_aload_n_3] <;> rfl
theorem qX7_word_229 : ey FX7 ini rt fin K0 K (decode cX7_word 229) 229 L (st) h cs ss = (lhas L 2 ∧ isI (lgt L 2) ∧ K 230 L (lgt L 2 :: st) h cs ss) := by
  rw [dX7_word_229, ey_ok, nx_iload_n_1] <;> rfl
theorem qX7_word_230 : ey FX7 ini rt fin K0 K (decode cX7_word 230) 230 L (st) h cs ss = (lhas L 3 ∧ isI (lgt L 3) ∧ K 231 L (lgt L 3 :: st) h cs ss) := by
  rw [dX7_word_230, ey_ok, nx_iload_n_1] <;> rfl
theorem qX7_word_231 : ey FX7 ini rt fin K0 K (decode cX7_word 231) 231 L (st) h cs ss = (K 232 L (.int 3 :: st) h cs ss) := by
  rw [dX7_word_231, ey_ok, nx_iconst_11] <;> rfl
theorem qX7_word_232 : ey FX7 ini rt fin K0 K (decode cX7_word 232) 232 L (st) h cs ss = (K0 232 L st h cs ss) := by
  rw [dX7_word_232, ey_ok, nx_invokevirtual_72]
theorem qX7_word_235 : ey FX7 ini rt fin K0 K (decode cX7_word 235) 235 L (v :: .ref a :: r) h cs ss = (h.1 a = some (.inl 7) ∧ okv (.int) v ∧ K 238 L r (h.1, hup h.2 a 15 v) cs ss) := by
  rw [dX7_word_235, ey_ok, nx_putfield_55]
  exact (and_l rfl).trans (and_m (fun z => nomatch z))
theorem qX7_word_238 : ey FX7 ini rt fin K0 K (decode cX7_word 238) 238 L (st) h cs ss = (lhas L 0 ∧ isRf (lgt L 0) ∧ K 239 L (lgt L 0 :: st) h cs ss) := by
  rw [dX7_word_238, ey_ok, nx_aload_n_3] <;> rfl
theorem qX7_word_239 : ey FX7 ini rt fin K0 K (decode cX7_word 239) 239 L (.ref a :: r) h cs ss = (h.1 a = some (.inl 7) ∧ K 242 L (h.2 a 15 :: r) h cs ss) := by
  rw [dX7_word_239, ey_ok, nx_getfield_54]
  exact and_l rfl
theorem qX7_word_242 : ey FX7 ini rt fin K0 K (decode cX7_word 242) 242 L (st) h cs ss = (K 243 L (.int 0 :: st) h cs ss) := by
  rw [dX7_word_242, ey_ok, nx_iconst_11] <;> rfl
theorem qX7_word_243 : ey FX7 ini rt fin K0 K (decode cX7_word 243) 243 L (st) h cs ss = (K 246 L (.int 200 :: st) h cs ss) := by
  rw [dX7_word_243, ey_ok, nx_sipush_13] <;> rfl
theorem qX7_word_246 : ey FX7 ini rt fin K0 K (decode cX7_word 246) 246 L (st) h cs ss = (K0 246 L st h cs ss) := by
  rw [dX7_word_246, ey_ok, nx_invokestatic_73]
theorem qX7_word_249 : ey FX7 ini rt fin K0 K (decode cX7_word 249) 249 L (.int x :: r) h cs ss = (if x = 0 then K 257 L r h cs ss else K 252 L r h cs ss) := by
  rw [dX7_word_249, ey_ok, nx_ifond_30]
  exact and_l (by unfold jok; decide)
theorem qX7_word_252 : ey FX7 ini rt fin K0 K (decode cX7_word 252) 252 L (st) h cs ss = (K 254 L (.int 6 :: st) h cs ss) := by
  rw [dX7_word_252, ey_ok, nx_bipush_12] <;> rfl
theorem qX7_word_254 : ey FX7 ini rt fin K0 K (decode cX7_word 254) 254 L (st) h cs ss = (K 258 L st h cs ss) := by
  rw [dX7_word_254, ey_ok, nx_goto_29]
  exact and_l (by unfold jok; decide)
theorem qX7_word_257 : ey FX7 ini rt fin K0 K (decode cX7_word 257) 257 L (st) h cs ss = (K 258 L (.int (-1) :: st) h cs ss) := by
  rw [dX7_word_257, ey_ok, nx_iconst_11] <;> rfl
theorem qX7_word_258 : ey FX7 ini rt fin K0 K (decode cX7_word 258) 258 L ([.int x]) h cs ss = (rokI rt x ∧ fin (some (.int x)) h cs ss) := by
  rw [dX7_word_258, ey_ok, nx_ireturn_68]
theorem qX7_word_259 : ey FX7 ini rt fin K0 K (decode cX7_word 259) 259 L (st) h cs ss = (K 260 L (.int (-1) :: st) h cs ss) := by
  rw [dX7_word_259, ey_ok, nx_iconst_11] <;> rfl
theorem qX7_word_260 : ey FX7 ini rt fin K0 K (decode cX7_word 260) 260 L ([.int x]) h cs ss = (rokI rt x ∧ fin (some (.int x)) h cs ss) := by
  rw [dX7_word_260, ey_ok, nx_ireturn_68]
theorem qX7_wrong_0 : ey FX7 ini rt fin K0 K (decode cX7_wrong 0) 0 L (st) h cs ss = (lhas L 0 ∧ isRf (lgt L 0) ∧ K 1 L (lgt L 0 :: st) h cs ss) := by
  rw [dX7_wrong_0, ey_ok, nx_aload_n_3] <;> rfl
theorem qX7_wrong_1 : ey FX7 ini rt fin K0 K (decode cX7_wrong 1) 1 L (st) h cs ss = (K 2 L (.int (-1) :: st) h cs ss) := by
  rw [dX7_wrong_1, ey_ok, nx_iconst_11] <;> rfl
theorem qX7_wrong_2 : ey FX7 ini rt fin K0 K (decode cX7_wrong 2) 2 L (v :: .ref a :: r) h cs ss = (h.1 a = some (.inl 7) ∧ okv (.int) v ∧ K 5 L r (h.1, hup h.2 a 14 v) cs ss) := by
  rw [dX7_wrong_2, ey_ok, nx_putfield_55]
  exact (and_l rfl).trans (and_m (fun z => nomatch z))
theorem qX7_wrong_5 : ey FX7 ini rt fin K0 K (decode cX7_wrong 5) 5 L (st) h cs ss = (K 6 L (.int 0 :: st) h cs ss) := by
  rw [dX7_wrong_5, ey_ok, nx_iconst_11] <;> rfl
theorem qX7_wrong_6 : ey FX7 ini rt fin K0 K (decode cX7_wrong 6) 6 L (.int x :: r) h cs ss = (1 < L.length ∧ K 7 (L.set 1 (some (.int x))) r h cs ss) := by
  rw [dX7_wrong_6, ey_ok, nx_istore_n_5] <;> rfl
theorem qX7_wrong_7 : ey FX7 ini rt fin K0 K (decode cX7_wrong 7) 7 L (st) h cs ss = (K 8 L (.int 0 :: st) h cs ss) := by
  rw [dX7_wrong_7, ey_ok, nx_iconst_11] <;> rfl
theorem qX7_wrong_8 : ey FX7 ini rt fin K0 K (decode cX7_wrong 8) 8 L (.int x :: r) h cs ss = (2 < L.length ∧ K 9 (L.set 2 (some (.int x))) r h cs ss) := by
  rw [dX7_wrong_8, ey_ok, nx_istore_n_5] <;> rfl
theorem qX7_wrong_9 : ey FX7 ini rt fin K0 K (decode cX7_wrong 9) 9 L (st) h cs ss = (lhas L 2 ∧ isI (lgt L 2) ∧ K 10 L (lgt L 2 :: st) h cs ss) := by
  rw [dX7_wrong_9, ey_ok, nx_iload_n_1] <;> rfl
theorem qX7_wrong_10 : ey FX7 ini rt fin K0 K (decode cX7_wrong 10) 10 L (st) h cs ss = (lhas L 0 ∧ isRf (lgt L 0) ∧ K 11 L (lgt L 0 :: st) h cs ss) := by
  rw [dX7_wrong_10, ey_ok, nx_aload_n_3] <;> rfl
theorem qX7_wrong_11 : ey FX7 ini rt fin K0 K (decode cX7_wrong 11) 11 L (.ref a :: r) h cs ss = (h.1 a = some (.inl 7) ∧ K 14 L (h.2 a 10 :: r) h cs ss) := by
  rw [dX7_wrong_11, ey_ok, nx_getfield_54]
  exact and_l rfl
theorem qX7_wrong_14 : ey FX7 ini rt fin K0 K (decode cX7_wrong 14) 14 L (.int y :: .int x :: r) h cs ss = (if y ≤ x then K 81 L r h cs ss else K 17 L r h cs ss) := by
  rw [dX7_wrong_14, ey_ok, nx_if_icmp_39]
  exact and_l (by unfold jok; decide)
theorem qX7_wrong_17 : ey FX7 ini rt fin K0 K (decode cX7_wrong 17) 17 L (st) h cs ss = (lhas L 0 ∧ isRf (lgt L 0) ∧ K 18 L (lgt L 0 :: st) h cs ss) := by
  rw [dX7_wrong_17, ey_ok, nx_aload_n_3] <;> rfl
theorem qX7_wrong_18 : ey FX7 ini rt fin K0 K (decode cX7_wrong 18) 18 L (.ref a :: r) h cs ss = (h.1 a = some (.inl 7) ∧ K 21 L (h.2 a 11 :: r) h cs ss) := by
  rw [dX7_wrong_18, ey_ok, nx_getfield_54]
  exact and_l rfl
theorem qX7_wrong_21 : ey FX7 ini rt fin K0 K (decode cX7_wrong 21) 21 L (st) h cs ss = (lhas L 2 ∧ isI (lgt L 2) ∧ K 22 L (lgt L 2 :: st) h cs ss) := by
  rw [dX7_wrong_21, ey_ok, nx_iload_n_1] <;> rfl
theorem qX7_wrong_22 : ey FX7 ini rt fin K0 K (decode cX7_wrong 22) 22 L (.int i :: .ref a :: r) h cs ss = (isA (h.1 a) (fun k m => k = 2 ∧ vp_in i m) ∧ K 23 L (h.2 a i.toNatClampNeg :: r) h cs ss) := by
  rw [dX7_wrong_22, ey_ok, nx_caload_59]
theorem qX7_wrong_23 : ey FX7 ini rt fin K0 K (decode cX7_wrong 23) 23 L (st) h cs ss = (K 25 L (.int 32 :: st) h cs ss) := by
  rw [dX7_wrong_23, ey_ok, nx_bipush_12] <;> rfl
theorem qX7_wrong_25 : ey FX7 ini rt fin K0 K (decode cX7_wrong 25) 25 L (.int y :: .int x :: r) h cs ss = (if ¬ x = y then K 34 L r h cs ss else K 28 L r h cs ss) := by
  rw [dX7_wrong_25, ey_ok, nx_if_icmp_37]
  exact and_l (by unfold jok; decide)
theorem qX7_wrong_28 : ey FX7 ini rt fin K0 K (decode cX7_wrong 28) 28 L (st) h cs ss = (lhas L 2 ∧ isI (lgt L 2) ∧ K 31 (L.set 2 (some (inc (lgt L 2) 1))) st h cs ss) := by
  rw [dX7_wrong_28, ey_ok, nx_iinc_10] <;> rfl
theorem qX7_wrong_31 : ey FX7 ini rt fin K0 K (decode cX7_wrong 31) 31 L (st) h cs ss = (K 9 L st h cs ss) := by
  rw [dX7_wrong_31, ey_ok, nx_goto_29]
  exact and_l (by unfold jok; decide)
theorem qX7_wrong_34 : ey FX7 ini rt fin K0 K (decode cX7_wrong 34) 34 L (st) h cs ss = (lhas L 2 ∧ isI (lgt L 2) ∧ K 35 L (lgt L 2 :: st) h cs ss) := by
  rw [dX7_wrong_34, ey_ok, nx_iload_n_1] <;> rfl
theorem qX7_wrong_35 : ey FX7 ini rt fin K0 K (decode cX7_wrong 35) 35 L (.int x :: r) h cs ss = (3 < L.length ∧ K 36 (L.set 3 (some (.int x))) r h cs ss) := by
  rw [dX7_wrong_35, ey_ok, nx_istore_n_5] <;> rfl
theorem qX7_wrong_36 : ey FX7 ini rt fin K0 K (decode cX7_wrong 36) 36 L (st) h cs ss = (lhas L 3 ∧ isI (lgt L 3) ∧ K 37 L (lgt L 3 :: st) h cs ss) := by
  rw [dX7_wrong_36, ey_ok, nx_iload_n_1] <;> rfl
theorem qX7_wrong_37 : ey FX7 ini rt fin K0 K (decode cX7_wrong 37) 37 L (st) h cs ss = (lhas L 0 ∧ isRf (lgt L 0) ∧ K 38 L (lgt L 0 :: st) h cs ss) := by
  rw [dX7_wrong_37, ey_ok, nx_aload_n_3] <;> rfl
theorem qX7_wrong_38 : ey FX7 ini rt fin K0 K (decode cX7_wrong 38) 38 L (.ref a :: r) h cs ss = (h.1 a = some (.inl 7) ∧ K 41 L (h.2 a 10 :: r) h cs ss) := by
  rw [dX7_wrong_38, ey_ok, nx_getfield_54]
  exact and_l rfl
theorem qX7_wrong_41 : ey FX7 ini rt fin K0 K (decode cX7_wrong 41) 41 L (.int y :: .int x :: r) h cs ss = (if y ≤ x then K 61 L r h cs ss else K 44 L r h cs ss) := by
  rw [dX7_wrong_41, ey_ok, nx_if_icmp_39]
  exact and_l (by unfold jok; decide)
theorem qX7_wrong_44 : ey FX7 ini rt fin K0 K (decode cX7_wrong 44) 44 L (st) h cs ss = (lhas L 0 ∧ isRf (lgt L 0) ∧ K 45 L (lgt L 0 :: st) h cs ss) := by
  rw [dX7_wrong_44, ey_ok, nx_aload_n_3] <;> rfl
theorem qX7_wrong_45 : ey FX7 ini rt fin K0 K (decode cX7_wrong 45) 45 L (.ref a :: r) h cs ss = (h.1 a = some (.inl 7) ∧ K 48 L (h.2 a 11 :: r) h cs ss) := by
  rw [dX7_wrong_45, ey_ok, nx_getfield_54]
  exact and_l rfl
theorem qX7_wrong_48 : ey FX7 ini rt fin K0 K (decode cX7_wrong 48) 48 L (st) h cs ss = (lhas L 3 ∧ isI (lgt L 3) ∧ K 49 L (lgt L 3 :: st) h cs ss) := by
  rw [dX7_wrong_48, ey_ok, nx_iload_n_1] <;> rfl
theorem qX7_wrong_49 : ey FX7 ini rt fin K0 K (decode cX7_wrong 49) 49 L (.int i :: .ref a :: r) h cs ss = (isA (h.1 a) (fun k m => k = 2 ∧ vp_in i m) ∧ K 50 L (h.2 a i.toNatClampNeg :: r) h cs ss) := by
  rw [dX7_wrong_49, ey_ok, nx_caload_59]
theorem qX7_wrong_50 : ey FX7 ini rt fin K0 K (decode cX7_wrong 50) 50 L (st) h cs ss = (K 52 L (.int 32 :: st) h cs ss) := by
  rw [dX7_wrong_50, ey_ok, nx_bipush_12] <;> rfl
theorem qX7_wrong_52 : ey FX7 ini rt fin K0 K (decode cX7_wrong 52) 52 L (.int y :: .int x :: r) h cs ss = (if x = y then K 61 L r h cs ss else K 55 L r h cs ss) := by
  rw [dX7_wrong_52, ey_ok, nx_if_icmp_36]
  exact and_l (by unfold jok; decide)
theorem qX7_wrong_55 : ey FX7 ini rt fin K0 K (decode cX7_wrong 55) 55 L (st) h cs ss = (lhas L 3 ∧ isI (lgt L 3) ∧ K 58 (L.set 3 (some (inc (lgt L 3) 1))) st h cs ss) := by
  rw [dX7_wrong_55, ey_ok, nx_iinc_10] <;> rfl
theorem qX7_wrong_58 : ey FX7 ini rt fin K0 K (decode cX7_wrong 58) 58 L (st) h cs ss = (K 36 L st h cs ss) := by
  rw [dX7_wrong_58, ey_ok, nx_goto_29]
  exact and_l (by unfold jok; decide)
theorem qX7_wrong_61 : ey FX7 ini rt fin K0 K (decode cX7_wrong 61) 61 L (st) h cs ss = (lhas L 0 ∧ isRf (lgt L 0) ∧ K 62 L (lgt L 0 :: st) h cs ss) := by
  rw [dX7_wrong_61, ey_ok, nx_aload_n_3] <;> rfl
theorem qX7_wrong_62 : ey FX7 ini rt fin K0 K (decode cX7_wrong 62) 62 L (st) h cs ss = (lhas L 1 ∧ isI (lgt L 1) ∧ K 63 L (lgt L 1 :: st) h cs ss) := by
  rw [dX7_wrong_62, ey_ok, nx_iload_n_1] <;> rfl
theorem qX7_wrong_63 : ey FX7 ini rt fin K0 K (decode cX7_wrong 63) 63 L (st) h cs ss = (lhas L 2 ∧ isI (lgt L 2) ∧ K 64 L (lgt L 2 :: st) h cs ss) := by
  rw [dX7_wrong_63, ey_ok, nx_iload_n_1] <;> rfl
theorem qX7_wrong_64 : ey FX7 ini rt fin K0 K (decode cX7_wrong 64) 64 L (st) h cs ss = (lhas L 3 ∧ isI (lgt L 3) ∧ K 65 L (lgt L 3 :: st) h cs ss) := by
  rw [dX7_wrong_64, ey_ok, nx_iload_n_1] <;> rfl
theorem qX7_wrong_65 : ey FX7 ini rt fin K0 K (decode cX7_wrong 65) 65 L (st) h cs ss = (K0 65 L st h cs ss) := by
  rw [dX7_wrong_65, ey_ok, nx_invokevirtual_72]
theorem qX7_wrong_68 : ey FX7 ini rt fin K0 K (decode cX7_wrong 68) 68 L (.int x :: r) h cs ss = (1 < L.length ∧ K 69 (L.set 1 (some (.int x))) r h cs ss) := by
  rw [dX7_wrong_68, ey_ok, nx_istore_n_5] <;> rfl
theorem qX7_wrong_69 : ey FX7 ini rt fin K0 K (decode cX7_wrong 69) 69 L (st) h cs ss = (lhas L 1 ∧ isI (lgt L 1) ∧ K 70 L (lgt L 1 :: st) h cs ss) := by
  rw [dX7_wrong_69, ey_ok, nx_iload_n_1] <;> rfl
theorem qX7_wrong_70 : ey FX7 ini rt fin K0 K (decode cX7_wrong 70) 70 L (st) h cs ss = (K 71 L (.int (-1) :: st) h cs ss) := by
  rw [dX7_wrong_70, ey_ok, nx_iconst_11] <;> rfl
theorem qX7_wrong_71 : ey FX7 ini rt fin K0 K (decode cX7_wrong 71) 71 L (.int y :: .int x :: r) h cs ss = (if ¬ x = y then K 76 L r h cs ss else K 74 L r h cs ss) := by
  rw [dX7_wrong_71, ey_ok, nx_if_icmp_37]
  exact and_l (by unfold jok; decide)
theorem qX7_wrong_74 : ey FX7 ini rt fin K0 K (decode cX7_wrong 74) 74 L (st) h cs ss = (lhas L 2 ∧ isI (lgt L 2) ∧ K 75 L (lgt L 2 :: st) h cs ss) := by
  rw [dX7_wrong_74, ey_ok, nx_iload_n_1] <;> rfl
theorem qX7_wrong_75 : ey FX7 ini rt fin K0 K (decode cX7_wrong 75) 75 L ([.int x]) h cs ss = (rokI rt x ∧ fin (some (.int x)) h cs ss) := by
  rw [dX7_wrong_75, ey_ok, nx_ireturn_68]
theorem qX7_wrong_76 : ey FX7 ini rt fin K0 K (decode cX7_wrong 76) 76 L (st) h cs ss = (lhas L 3 ∧ isI (lgt L 3) ∧ K 77 L (lgt L 3 :: st) h cs ss) := by
  rw [dX7_wrong_76, ey_ok, nx_iload_n_1] <;> rfl
theorem qX7_wrong_77 : ey FX7 ini rt fin K0 K (decode cX7_wrong 77) 77 L (.int x :: r) h cs ss = (2 < L.length ∧ K 78 (L.set 2 (some (.int x))) r h cs ss) := by
  rw [dX7_wrong_77, ey_ok, nx_istore_n_5] <;> rfl
theorem qX7_wrong_78 : ey FX7 ini rt fin K0 K (decode cX7_wrong 78) 78 L (st) h cs ss = (K 9 L st h cs ss) := by
  rw [dX7_wrong_78, ey_ok, nx_goto_29]
  exact and_l (by unfold jok; decide)
theorem qX7_wrong_81 : ey FX7 ini rt fin K0 K (decode cX7_wrong 81) 81 L (st) h cs ss = (lhas L 1 ∧ isI (lgt L 1) ∧ K 82 L (lgt L 1 :: st) h cs ss) := by
  rw [dX7_wrong_81, ey_ok, nx_iload_n_1] <;> rfl
theorem qX7_wrong_82 : ey FX7 ini rt fin K0 K (decode cX7_wrong 82) 82 L (st) h cs ss = (K 84 L (.int 6 :: st) h cs ss) := by
  rw [dX7_wrong_82, ey_ok, nx_bipush_12] <;> rfl
theorem qX7_wrong_84 : ey FX7 ini rt fin K0 K (decode cX7_wrong 84) 84 L (.int y :: .int x :: r) h cs ss = (if ¬ x = y then K 91 L r h cs ss else K 87 L r h cs ss) := by
  rw [dX7_wrong_84, ey_ok, nx_if_icmp_37]
  exact and_l (by unfold jok; decide)
theorem qX7_wrong_87 : ey FX7 ini rt fin K0 K (decode cX7_wrong 87) 87 L (st) h cs ss = (K 88 L (.int (-1) :: st) h cs ss) := by
  rw [dX7_wrong_87, ey_ok, nx_iconst_11] <;> rfl
theorem qX7_wrong_88 : ey FX7 ini rt fin K0 K (decode cX7_wrong 88) 88 L (st) h cs ss = (K 95 L st h cs ss) := by
  rw [dX7_wrong_88, ey_ok, nx_goto_29]
  exact and_l (by unfold jok; decide)
theorem qX7_wrong_91 : ey FX7 ini rt fin K0 K (decode cX7_wrong 91) 91 L (st) h cs ss = (lhas L 0 ∧ isRf (lgt L 0) ∧ K 92 L (lgt L 0 :: st) h cs ss) := by
  rw [dX7_wrong_91, ey_ok, nx_aload_n_3] <;> rfl
theorem qX7_wrong_92 : ey FX7 ini rt fin K0 K (decode cX7_wrong 92) 92 L (.ref a :: r) h cs ss = (h.1 a = some (.inl 7) ∧ K 95 L (h.2 a 10 :: r) h cs ss) := by
  rw [dX7_wrong_92, ey_ok, nx_getfield_54]
  exact and_l rfl
theorem qX7_wrong_95 : ey FX7 ini rt fin K0 K (decode cX7_wrong 95) 95 L ([.int x]) h cs ss = (rokI rt x ∧ fin (some (.int x)) h cs ss) := by
  rw [dX7_wrong_95, ey_ok, nx_ireturn_68]
theorem qX7_wrongAt_0 : ey FX7 ini rt fin K0 K (decode cX7_wrongAt 0) 0 L (st) h cs ss = (lhas L 0 ∧ isRf (lgt L 0) ∧ K 1 L (lgt L 0 :: st) h cs ss) := by
  rw [dX7_wrongAt_0, ey_ok, nx_aload_n_3] <;> rfl
theorem qX7_wrongAt_1 : ey FX7 ini rt fin K0 K (decode cX7_wrongAt 1) 1 L (st) h cs ss = (K 2 L (.int 0 :: st) h cs ss) := by
  rw [dX7_wrongAt_1, ey_ok, nx_iconst_11] <;> rfl
theorem qX7_wrongAt_2 : ey FX7 ini rt fin K0 K (decode cX7_wrongAt 2) 2 L (v :: .ref a :: r) h cs ss = (h.1 a = some (.inl 7) ∧ okv (.int) v ∧ K 5 L r (h.1, hup h.2 a 34 v) cs ss) := by
  rw [dX7_wrongAt_2, ey_ok, nx_putfield_55]
  exact (and_l rfl).trans (and_m (fun z => nomatch z))
theorem qX7_wrongAt_5 : ey FX7 ini rt fin K0 K (decode cX7_wrongAt 5) 5 L (st) h cs ss = (lhas L 0 ∧ isRf (lgt L 0) ∧ K 6 L (lgt L 0 :: st) h cs ss) := by
  rw [dX7_wrongAt_5, ey_ok, nx_aload_n_3] <;> rfl
theorem qX7_wrongAt_6 : ey FX7 ini rt fin K0 K (decode cX7_wrongAt 6) 6 L (st) h cs ss = (K0 6 L st h cs ss) := by
  rw [dX7_wrongAt_6, ey_ok, nx_invokevirtual_72]
theorem qX7_wrongAt_9 : ey FX7 ini rt fin K0 K (decode cX7_wrongAt 9) 9 L ([.int x]) h cs ss = (rokI rt x ∧ fin (some (.int x)) h cs ss) := by
  rw [dX7_wrongAt_9, ey_ok, nx_ireturn_68]
theorem qX7_read_0 : ey FX7 ini rt fin K0 K (decode cX7_read 0) 0 L (st) h cs ss = (lhas L 0 ∧ isRf (lgt L 0) ∧ K 1 L (lgt L 0 :: st) h cs ss) := by
  rw [dX7_read_0, ey_ok, nx_aload_n_3] <;> rfl
theorem qX7_read_1 : ey FX7 ini rt fin K0 K (decode cX7_read 1) 1 L (st) h cs ss = (lhas L 0 ∧ isRf (lgt L 0) ∧ K 2 L (lgt L 0 :: st) h cs ss) := by
  rw [dX7_read_1, ey_ok, nx_aload_n_3] <;> rfl
theorem qX7_read_2 : ey FX7 ini rt fin K0 K (decode cX7_read 2) 2 L (st) h cs ss = (K0 2 L st h cs ss) := by
  rw [dX7_read_2, ey_ok, nx_invokevirtual_72]
theorem qX7_read_5 : ey FX7 ini rt fin K0 K (decode cX7_read 5) 5 L (st) h cs ss = (K 6 L (.int (-1) :: st) h cs ss) := by
  rw [dX7_read_5, ey_ok, nx_iconst_11] <;> rfl
theorem qX7_read_6 : ey FX7 ini rt fin K0 K (decode cX7_read 6) 6 L (.int y :: .int x :: r) h cs ss = (if ¬ x = y then K 13 L r h cs ss else K 9 L r h cs ss) := by
  rw [dX7_read_6, ey_ok, nx_if_icmp_37]
  exact and_l (by unfold jok; decide)
theorem qX7_read_9 : ey FX7 ini rt fin K0 K (decode cX7_read 9) 9 L (st) h cs ss = (K 10 L (.int 1 :: st) h cs ss) := by
  rw [dX7_read_9, ey_ok, nx_iconst_11] <;> rfl
theorem qX7_read_10 : ey FX7 ini rt fin K0 K (decode cX7_read 10) 10 L (st) h cs ss = (K 14 L st h cs ss) := by
  rw [dX7_read_10, ey_ok, nx_goto_29]
  exact and_l (by unfold jok; decide)
theorem qX7_read_13 : ey FX7 ini rt fin K0 K (decode cX7_read 13) 13 L (st) h cs ss = (K 14 L (.int 0 :: st) h cs ss) := by
  rw [dX7_read_13, ey_ok, nx_iconst_11] <;> rfl
theorem qX7_read_14 : ey FX7 ini rt fin K0 K (decode cX7_read 14) 14 L (st) h cs ss = (lhas L 0 ∧ isRf (lgt L 0) ∧ K 15 L (lgt L 0 :: st) h cs ss) := by
  rw [dX7_read_14, ey_ok, nx_aload_n_3] <;> rfl
theorem qX7_read_15 : ey FX7 ini rt fin K0 K (decode cX7_read 15) 15 L (.ref a :: r) h cs ss = (h.1 a = some (.inl 7) ∧ K 18 L (h.2 a 16 :: r) h cs ss) := by
  rw [dX7_read_15, ey_ok, nx_getfield_54]
  exact and_l rfl
theorem qX7_read_18 : ey FX7 ini rt fin K0 K (decode cX7_read 18) 18 L (st) h cs ss = (K 20 L (.int 12 :: st) h cs ss) := by
  rw [dX7_read_18, ey_ok, nx_bipush_12] <;> rfl
theorem qX7_read_20 : ey FX7 ini rt fin K0 K (decode cX7_read 20) 20 L (.int y :: .int x :: r) h cs ss = (if y ≤ x then K 27 L r h cs ss else K 23 L r h cs ss) := by
  rw [dX7_read_20, ey_ok, nx_if_icmp_39]
  exact and_l (by unfold jok; decide)
theorem qX7_read_23 : ey FX7 ini rt fin K0 K (decode cX7_read 23) 23 L (st) h cs ss = (K 24 L (.int 1 :: st) h cs ss) := by
  rw [dX7_read_23, ey_ok, nx_iconst_11] <;> rfl
theorem qX7_read_24 : ey FX7 ini rt fin K0 K (decode cX7_read 24) 24 L (st) h cs ss = (K 28 L st h cs ss) := by
  rw [dX7_read_24, ey_ok, nx_goto_29]
  exact and_l (by unfold jok; decide)
theorem qX7_read_27 : ey FX7 ini rt fin K0 K (decode cX7_read 27) 27 L (st) h cs ss = (K 28 L (.int 0 :: st) h cs ss) := by
  rw [dX7_read_27, ey_ok, nx_iconst_11] <;> rfl
theorem qX7_read_28 : ey FX7 ini rt fin K0 K (decode cX7_read 28) 28 L (st) h cs ss = (K0 28 L st h cs ss) := by
  rw [dX7_read_28, ey_ok, nx_invokevirtual_72]
theorem qX7_read_31 : ey FX7 ini rt fin K0 K (decode cX7_read 31) 31 L (.int x :: r) h cs ss = (if ¬ x = 0 then K 36 L r h cs ss else K 34 L r h cs ss) := by
  rw [dX7_read_31, ey_ok, nx_ifond_31]
  exact and_l (by unfold jok; decide)
theorem qX7_read_34 : ey FX7 ini rt fin K0 K (decode cX7_read 34) 34 L (st) h cs ss = (K 35 L (.int 0 :: st) h cs ss) := by
  rw [dX7_read_34, ey_ok, nx_iconst_11] <;> rfl
theorem qX7_read_35 : ey FX7 ini rt fin K0 K (decode cX7_read 35) 35 L ([.int x]) h cs ss = (rokI rt x ∧ fin (some (.int x)) h cs ss) := by
  rw [dX7_read_35, ey_ok, nx_ireturn_68]
theorem qX7_read_36 : ey FX7 ini rt fin K0 K (decode cX7_read 36) 36 L (st) h cs ss = (lhas L 0 ∧ isRf (lgt L 0) ∧ K 37 L (lgt L 0 :: st) h cs ss) := by
  rw [dX7_read_36, ey_ok, nx_aload_n_3] <;> rfl
theorem qX7_read_37 : ey FX7 ini rt fin K0 K (decode cX7_read 37) 37 L (.ref a :: r) h cs ss = (h.1 a = some (.inl 7) ∧ K 40 L (h.2 a 17 :: r) h cs ss) := by
  rw [dX7_read_37, ey_ok, nx_getfield_54]
  exact and_l rfl
theorem qX7_read_40 : ey FX7 ini rt fin K0 K (decode cX7_read 40) 40 L (st) h cs ss = (lhas L 0 ∧ isRf (lgt L 0) ∧ K 41 L (lgt L 0 :: st) h cs ss) := by
  rw [dX7_read_40, ey_ok, nx_aload_n_3] <;> rfl
theorem qX7_read_41 : ey FX7 ini rt fin K0 K (decode cX7_read 41) 41 L (.ref a :: r) h cs ss = (h.1 a = some (.inl 7) ∧ K 44 L (h.2 a 16 :: r) h cs ss) := by
  rw [dX7_read_41, ey_ok, nx_getfield_54]
  exact and_l rfl
theorem qX7_read_44 : ey FX7 ini rt fin K0 K (decode cX7_read 44) 44 L (st) h cs ss = (lhas L 0 ∧ isRf (lgt L 0) ∧ K 45 L (lgt L 0 :: st) h cs ss) := by
  rw [dX7_read_44, ey_ok, nx_aload_n_3] <;> rfl
theorem qX7_read_45 : ey FX7 ini rt fin K0 K (decode cX7_read 45) 45 L (.ref a :: r) h cs ss = (h.1 a = some (.inl 7) ∧ K 48 L (h.2 a 12 :: r) h cs ss) := by
  rw [dX7_read_45, ey_ok, nx_getfield_54]
  exact and_l rfl
theorem qX7_read_48 : ey FX7 ini rt fin K0 K (decode cX7_read 48) 48 L (.int x :: .int i :: .ref a :: r) h cs ss = (isA (h.1 a) (fun k m => k = 0 ∧ vp_in i m) ∧ K 49 L r (h.1, hup h.2 a i.toNatClampNeg (.int x)) cs ss) := by
  rw [dX7_read_48, ey_ok, nx_iastore_62]
theorem qX7_read_49 : ey FX7 ini rt fin K0 K (decode cX7_read 49) 49 L (st) h cs ss = (lhas L 0 ∧ isRf (lgt L 0) ∧ K 50 L (lgt L 0 :: st) h cs ss) := by
  rw [dX7_read_49, ey_ok, nx_aload_n_3] <;> rfl
theorem qX7_read_50 : ey FX7 ini rt fin K0 K (decode cX7_read 50) 50 L (.ref a :: r) h cs ss = (h.1 a = some (.inl 7) ∧ K 53 L (h.2 a 18 :: r) h cs ss) := by
  rw [dX7_read_50, ey_ok, nx_getfield_54]
  exact and_l rfl
theorem qX7_read_53 : ey FX7 ini rt fin K0 K (decode cX7_read 53) 53 L (st) h cs ss = (lhas L 0 ∧ isRf (lgt L 0) ∧ K 54 L (lgt L 0 :: st) h cs ss) := by
  rw [dX7_read_53, ey_ok, nx_aload_n_3] <;> rfl
theorem qX7_read_54 : ey FX7 ini rt fin K0 K (decode cX7_read 54) 54 L (.ref a :: r) h cs ss = (h.1 a = some (.inl 7) ∧ K 57 L (h.2 a 16 :: r) h cs ss) := by
  rw [dX7_read_54, ey_ok, nx_getfield_54]
  exact and_l rfl
theorem qX7_read_57 : ey FX7 ini rt fin K0 K (decode cX7_read 57) 57 L (st) h cs ss = (lhas L 0 ∧ isRf (lgt L 0) ∧ K 58 L (lgt L 0 :: st) h cs ss) := by
  rw [dX7_read_57, ey_ok, nx_aload_n_3] <;> rfl
theorem qX7_read_58 : ey FX7 ini rt fin K0 K (decode cX7_read 58) 58 L (.ref a :: r) h cs ss = (h.1 a = some (.inl 7) ∧ K 61 L (h.2 a 13 :: r) h cs ss) := by
  rw [dX7_read_58, ey_ok, nx_getfield_54]
  exact and_l rfl
theorem qX7_read_61 : ey FX7 ini rt fin K0 K (decode cX7_read 61) 61 L (.int x :: .int i :: .ref a :: r) h cs ss = (isA (h.1 a) (fun k m => k = 0 ∧ vp_in i m) ∧ K 62 L r (h.1, hup h.2 a i.toNatClampNeg (.int x)) cs ss) := by
  rw [dX7_read_61, ey_ok, nx_iastore_62]
theorem qX7_read_62 : ey FX7 ini rt fin K0 K (decode cX7_read 62) 62 L (st) h cs ss = (lhas L 0 ∧ isRf (lgt L 0) ∧ K 63 L (lgt L 0 :: st) h cs ss) := by
  rw [dX7_read_62, ey_ok, nx_aload_n_3] <;> rfl
theorem qX7_read_63 : ey FX7 ini rt fin K0 K (decode cX7_read 63) 63 L (.ref a :: r) h cs ss = (h.1 a = some (.inl 7) ∧ K 66 L (h.2 a 19 :: r) h cs ss) := by
  rw [dX7_read_63, ey_ok, nx_getfield_54]
  exact and_l rfl
theorem qX7_read_66 : ey FX7 ini rt fin K0 K (decode cX7_read 66) 66 L (st) h cs ss = (lhas L 0 ∧ isRf (lgt L 0) ∧ K 67 L (lgt L 0 :: st) h cs ss) := by
  rw [dX7_read_66, ey_ok, nx_aload_n_3] <;> rfl
theorem qX7_read_67 : ey FX7 ini rt fin K0 K (decode cX7_read 67) 67 L (.ref a :: r) h cs ss = (h.1 a = some (.inl 7) ∧ K 70 L (h.2 a 16 :: r) h cs ss) := by
  rw [dX7_read_67, ey_ok, nx_getfield_54]
  exact and_l rfl
theorem qX7_read_70 : ey FX7 ini rt fin K0 K (decode cX7_read 70) 70 L (st) h cs ss = (lhas L 0 ∧ isRf (lgt L 0) ∧ K 71 L (lgt L 0 :: st) h cs ss) := by
  rw [dX7_read_70, ey_ok, nx_aload_n_3] <;> rfl
theorem qX7_read_71 : ey FX7 ini rt fin K0 K (decode cX7_read 71) 71 L (.ref a :: r) h cs ss = (h.1 a = some (.inl 7) ∧ K 74 L (h.2 a 14 :: r) h cs ss) := by
  rw [dX7_read_71, ey_ok, nx_getfield_54]
  exact and_l rfl
theorem qX7_read_74 : ey FX7 ini rt fin K0 K (decode cX7_read 74) 74 L (.int x :: .int i :: .ref a :: r) h cs ss = (isA (h.1 a) (fun k m => k = 0 ∧ vp_in i m) ∧ K 75 L r (h.1, hup h.2 a i.toNatClampNeg (.int x)) cs ss) := by
  rw [dX7_read_74, ey_ok, nx_iastore_62]
theorem qX7_read_75 : ey FX7 ini rt fin K0 K (decode cX7_read 75) 75 L (st) h cs ss = (lhas L 0 ∧ isRf (lgt L 0) ∧ K 76 L (lgt L 0 :: st) h cs ss) := by
  rw [dX7_read_75, ey_ok, nx_aload_n_3] <;> rfl
theorem qX7_read_76 : ey FX7 ini rt fin K0 K (decode cX7_read 76) 76 L (.ref a :: r) h cs ss = (h.1 a = some (.inl 7) ∧ K 79 L (h.2 a 20 :: r) h cs ss) := by
  rw [dX7_read_76, ey_ok, nx_getfield_54]
  exact and_l rfl
theorem qX7_read_79 : ey FX7 ini rt fin K0 K (decode cX7_read 79) 79 L (st) h cs ss = (lhas L 0 ∧ isRf (lgt L 0) ∧ K 80 L (lgt L 0 :: st) h cs ss) := by
  rw [dX7_read_79, ey_ok, nx_aload_n_3] <;> rfl
theorem qX7_read_80 : ey FX7 ini rt fin K0 K (decode cX7_read 80) 80 L (.ref a :: r) h cs ss = (h.1 a = some (.inl 7) ∧ K 83 L (h.2 a 16 :: r) h cs ss) := by
  rw [dX7_read_80, ey_ok, nx_getfield_54]
  exact and_l rfl
theorem qX7_read_83 : ey FX7 ini rt fin K0 K (decode cX7_read 83) 83 L (st) h cs ss = (lhas L 0 ∧ isRf (lgt L 0) ∧ K 84 L (lgt L 0 :: st) h cs ss) := by
  rw [dX7_read_83, ey_ok, nx_aload_n_3] <;> rfl
theorem qX7_read_84 : ey FX7 ini rt fin K0 K (decode cX7_read 84) 84 L (.ref a :: r) h cs ss = (h.1 a = some (.inl 7) ∧ K 87 L (h.2 a 15 :: r) h cs ss) := by
  rw [dX7_read_84, ey_ok, nx_getfield_54]
  exact and_l rfl
theorem qX7_read_87 : ey FX7 ini rt fin K0 K (decode cX7_read 87) 87 L (.int x :: .int i :: .ref a :: r) h cs ss = (isA (h.1 a) (fun k m => k = 0 ∧ vp_in i m) ∧ K 88 L r (h.1, hup h.2 a i.toNatClampNeg (.int x)) cs ss) := by
  rw [dX7_read_87, ey_ok, nx_iastore_62]
theorem qX7_read_88 : ey FX7 ini rt fin K0 K (decode cX7_read 88) 88 L (st) h cs ss = (lhas L 0 ∧ isRf (lgt L 0) ∧ K 89 L (lgt L 0 :: st) h cs ss) := by
  rw [dX7_read_88, ey_ok, nx_aload_n_3] <;> rfl
theorem qX7_read_89 : ey FX7 ini rt fin K0 K (decode cX7_read 89) 89 L (v :: r) h cs ss = (v.category = 1 ∧ K 90 L (v :: v :: r) h cs ss) := by
  rw [dX7_read_89, ey_ok, nx_dup_27]
theorem qX7_read_90 : ey FX7 ini rt fin K0 K (decode cX7_read 90) 90 L (.ref a :: r) h cs ss = (h.1 a = some (.inl 7) ∧ K 93 L (h.2 a 16 :: r) h cs ss) := by
  rw [dX7_read_90, ey_ok, nx_getfield_54]
  exact and_l rfl
theorem qX7_read_93 : ey FX7 ini rt fin K0 K (decode cX7_read 93) 93 L (st) h cs ss = (K 94 L (.int 1 :: st) h cs ss) := by
  rw [dX7_read_93, ey_ok, nx_iconst_11] <;> rfl
theorem qX7_read_94 : ey FX7 ini rt fin K0 K (decode cX7_read 94) 94 L (.int y :: .int x :: r) h cs ss = (K 95 L (.int (x + y) :: r) h cs ss) := by
  rw [dX7_read_94, ey_ok, nx_iadd_16]
theorem qX7_read_95 : ey FX7 ini rt fin K0 K (decode cX7_read 95) 95 L (v :: .ref a :: r) h cs ss = (h.1 a = some (.inl 7) ∧ okv (.int) v ∧ K 98 L r (h.1, hup h.2 a 16 v) cs ss) := by
  rw [dX7_read_95, ey_ok, nx_putfield_55]
  exact (and_l rfl).trans (and_m (fun z => nomatch z))
theorem qX7_read_98 : ey FX7 ini rt fin K0 K (decode cX7_read 98) 98 L (st) h cs ss = (lhas L 0 ∧ isRf (lgt L 0) ∧ K 99 L (lgt L 0 :: st) h cs ss) := by
  rw [dX7_read_98, ey_ok, nx_aload_n_3] <;> rfl
theorem qX7_read_99 : ey FX7 ini rt fin K0 K (decode cX7_read 99) 99 L (st) h cs ss = (K 100 L (.int 0 :: st) h cs ss) := by
  rw [dX7_read_99, ey_ok, nx_iconst_11] <;> rfl
theorem qX7_read_100 : ey FX7 ini rt fin K0 K (decode cX7_read 100) 100 L (v :: .ref a :: r) h cs ss = (h.1 a = some (.inl 7) ∧ okv (.int) v ∧ K 103 L r (h.1, hup h.2 a 10 v) cs ss) := by
  rw [dX7_read_100, ey_ok, nx_putfield_55]
  exact (and_l rfl).trans (and_m (fun z => nomatch z))
theorem qX7_read_103 : ey FX7 ini rt fin K0 K (decode cX7_read 103) 103 L (st) h cs ss = (lhas L 0 ∧ isRf (lgt L 0) ∧ K 104 L (lgt L 0 :: st) h cs ss) := by
  rw [dX7_read_103, ey_ok, nx_aload_n_3] <;> rfl
theorem qX7_read_104 : ey FX7 ini rt fin K0 K (decode cX7_read 104) 104 L (st) h cs ss = (K0 104 L st h cs ss) := by
  rw [dX7_read_104, ey_ok, nx_invokevirtual_72]
theorem qX7_read_107 : ey FX7 ini rt fin K0 K (decode cX7_read 107) 107 L (v :: r) h cs ss = (v.category = 1 ∧ K 108 L r h cs ss) := by
  rw [dX7_read_107, ey_ok, nx_pop_28]
theorem qX7_read_108 : ey FX7 ini rt fin K0 K (decode cX7_read 108) 108 L (st) h cs ss = (lhas L 0 ∧ isRf (lgt L 0) ∧ K 109 L (lgt L 0 :: st) h cs ss) := by
  rw [dX7_read_108, ey_ok, nx_aload_n_3] <;> rfl
theorem qX7_read_109 : ey FX7 ini rt fin K0 K (decode cX7_read 109) 109 L (.ref a :: r) h cs ss = (h.1 a = some (.inl 7) ∧ K 112 L (h.2 a 16 :: r) h cs ss) := by
  rw [dX7_read_109, ey_ok, nx_getfield_54]
  exact and_l rfl
theorem qX7_read_112 : ey FX7 ini rt fin K0 K (decode cX7_read 112) 112 L (st) h cs ss = (K 113 L (.int 1 :: st) h cs ss) := by
  rw [dX7_read_112, ey_ok, nx_iconst_11] <;> rfl
theorem qX7_read_113 : ey FX7 ini rt fin K0 K (decode cX7_read 113) 113 L (.int y :: .int x :: r) h cs ss = (K 114 L (.int (x - y) :: r) h cs ss) := by
  rw [dX7_read_113, ey_ok, nx_isub_17]
theorem qX7_read_114 : ey FX7 ini rt fin K0 K (decode cX7_read 114) 114 L ([.int x]) h cs ss = (rokI rt x ∧ fin (some (.int x)) h cs ss) := by
  rw [dX7_read_114, ey_ok, nx_ireturn_68]
theorem qX7_drop_0 : ey FX7 ini rt fin K0 K (decode cX7_drop 0) 0 L (st) h cs ss = (lhas L 0 ∧ isRf (lgt L 0) ∧ K 1 L (lgt L 0 :: st) h cs ss) := by
  rw [dX7_drop_0, ey_ok, nx_aload_n_3] <;> rfl
theorem qX7_drop_1 : ey FX7 ini rt fin K0 K (decode cX7_drop 1) 1 L (st) h cs ss = (lhas L 1 ∧ isI (lgt L 1) ∧ K 2 L (lgt L 1 :: st) h cs ss) := by
  rw [dX7_drop_1, ey_ok, nx_iload_n_1] <;> rfl
theorem qX7_drop_2 : ey FX7 ini rt fin K0 K (decode cX7_drop 2) 2 L (st) h cs ss = (K0 2 L st h cs ss) := by
  rw [dX7_drop_2, ey_ok, nx_invokevirtual_72]
theorem qX7_drop_5 : ey FX7 ini rt fin K0 K (decode cX7_drop 5) 5 L (.int x :: r) h cs ss = (2 < L.length ∧ K 6 (L.set 2 (some (.int x))) r h cs ss) := by
  rw [dX7_drop_5, ey_ok, nx_istore_n_5] <;> rfl
theorem qX7_drop_6 : ey FX7 ini rt fin K0 K (decode cX7_drop 6) 6 L (st) h cs ss = (lhas L 0 ∧ isRf (lgt L 0) ∧ K 7 L (lgt L 0 :: st) h cs ss) := by
  rw [dX7_drop_6, ey_ok, nx_aload_n_3] <;> rfl
theorem qX7_drop_7 : ey FX7 ini rt fin K0 K (decode cX7_drop 7) 7 L (st) h cs ss = (lhas L 2 ∧ isI (lgt L 2) ∧ K 8 L (lgt L 2 :: st) h cs ss) := by
  rw [dX7_drop_7, ey_ok, nx_iload_n_1] <;> rfl
theorem qX7_drop_8 : ey FX7 ini rt fin K0 K (decode cX7_drop 8) 8 L (st) h cs ss = (lhas L 2 ∧ isI (lgt L 2) ∧ K 9 L (lgt L 2 :: st) h cs ss) := by
  rw [dX7_drop_8, ey_ok, nx_iload_n_1] <;> rfl
theorem qX7_drop_9 : ey FX7 ini rt fin K0 K (decode cX7_drop 9) 9 L (.int x :: r) h cs ss = (if x = 0 then K 25 L r h cs ss else K 12 L r h cs ss) := by
  rw [dX7_drop_9, ey_ok, nx_ifond_30]
  exact and_l (by unfold jok; decide)
theorem qX7_drop_12 : ey FX7 ini rt fin K0 K (decode cX7_drop 12) 12 L (st) h cs ss = (lhas L 0 ∧ isRf (lgt L 0) ∧ K 13 L (lgt L 0 :: st) h cs ss) := by
  rw [dX7_drop_12, ey_ok, nx_aload_n_3] <;> rfl
theorem qX7_drop_13 : ey FX7 ini rt fin K0 K (decode cX7_drop 13) 13 L (.ref a :: r) h cs ss = (h.1 a = some (.inl 7) ∧ K 16 L (h.2 a 21 :: r) h cs ss) := by
  rw [dX7_drop_13, ey_ok, nx_getfield_54]
  exact and_l rfl
theorem qX7_drop_16 : ey FX7 ini rt fin K0 K (decode cX7_drop 16) 16 L (st) h cs ss = (lhas L 1 ∧ isI (lgt L 1) ∧ K 17 L (lgt L 1 :: st) h cs ss) := by
  rw [dX7_drop_16, ey_ok, nx_iload_n_1] <;> rfl
theorem qX7_drop_17 : ey FX7 ini rt fin K0 K (decode cX7_drop 17) 17 L (.int i :: .ref a :: r) h cs ss = (isA (h.1 a) (fun k m => k = 1 ∧ vp_in i m) ∧ K 18 L (h.2 a i.toNatClampNeg :: r) h cs ss) := by
  rw [dX7_drop_17, ey_ok, nx_baload_58]
theorem qX7_drop_18 : ey FX7 ini rt fin K0 K (decode cX7_drop 18) 18 L (.int x :: r) h cs ss = (if ¬ x = 0 then K 25 L r h cs ss else K 21 L r h cs ss) := by
  rw [dX7_drop_18, ey_ok, nx_ifond_31]
  exact and_l (by unfold jok; decide)
theorem qX7_drop_21 : ey FX7 ini rt fin K0 K (decode cX7_drop 21) 21 L (st) h cs ss = (K 22 L (.int 1 :: st) h cs ss) := by
  rw [dX7_drop_21, ey_ok, nx_iconst_11] <;> rfl
theorem qX7_drop_22 : ey FX7 ini rt fin K0 K (decode cX7_drop 22) 22 L (st) h cs ss = (K 26 L st h cs ss) := by
  rw [dX7_drop_22, ey_ok, nx_goto_29]
  exact and_l (by unfold jok; decide)
theorem qX7_drop_25 : ey FX7 ini rt fin K0 K (decode cX7_drop 25) 25 L (st) h cs ss = (K 26 L (.int 0 :: st) h cs ss) := by
  rw [dX7_drop_25, ey_ok, nx_iconst_11] <;> rfl
theorem qX7_drop_26 : ey FX7 ini rt fin K0 K (decode cX7_drop 26) 26 L (st) h cs ss = (K0 26 L st h cs ss) := by
  rw [dX7_drop_26, ey_ok, nx_invokevirtual_72]
theorem qX7_drop_29 : ey FX7 ini rt fin K0 K (decode cX7_drop 29) 29 L (.int x :: r) h cs ss = (if ¬ x = 0 then K 34 L r h cs ss else K 32 L r h cs ss) := by
  rw [dX7_drop_29, ey_ok, nx_ifond_31]
  exact and_l (by unfold jok; decide)
theorem qX7_drop_32 : ey FX7 ini rt fin K0 K (decode cX7_drop 32) 32 L (st) h cs ss = (K 33 L (.int 0 :: st) h cs ss) := by
  rw [dX7_drop_32, ey_ok, nx_iconst_11] <;> rfl
theorem qX7_drop_33 : ey FX7 ini rt fin K0 K (decode cX7_drop 33) 33 L ([.int x]) h cs ss = (rokI rt x ∧ fin (some (.int x)) h cs ss) := by
  rw [dX7_drop_33, ey_ok, nx_ireturn_68]
theorem qX7_drop_34 : ey FX7 ini rt fin K0 K (decode cX7_drop 34) 34 L (st) h cs ss = (lhas L 0 ∧ isRf (lgt L 0) ∧ K 35 L (lgt L 0 :: st) h cs ss) := by
  rw [dX7_drop_34, ey_ok, nx_aload_n_3] <;> rfl
theorem qX7_drop_35 : ey FX7 ini rt fin K0 K (decode cX7_drop 35) 35 L (.ref a :: r) h cs ss = (h.1 a = some (.inl 7) ∧ K 38 L (h.2 a 21 :: r) h cs ss) := by
  rw [dX7_drop_35, ey_ok, nx_getfield_54]
  exact and_l rfl
theorem qX7_drop_38 : ey FX7 ini rt fin K0 K (decode cX7_drop 38) 38 L (st) h cs ss = (lhas L 1 ∧ isI (lgt L 1) ∧ K 39 L (lgt L 1 :: st) h cs ss) := by
  rw [dX7_drop_38, ey_ok, nx_iload_n_1] <;> rfl
theorem qX7_drop_39 : ey FX7 ini rt fin K0 K (decode cX7_drop 39) 39 L (st) h cs ss = (K 40 L (.int 1 :: st) h cs ss) := by
  rw [dX7_drop_39, ey_ok, nx_iconst_11] <;> rfl
theorem qX7_drop_40 : ey FX7 ini rt fin K0 K (decode cX7_drop 40) 40 L (.int x :: .int i :: .ref a :: r) h cs ss = (isA (h.1 a) (fun k m => k = 1 ∧ vp_in i m) ∧ K 41 L r (h.1, hup h.2 a i.toNatClampNeg (narrow .boolean (.int x))) cs ss) := by
  rw [dX7_drop_40, ey_ok, nx_bastore_63]
theorem qX7_drop_41 : ey FX7 ini rt fin K0 K (decode cX7_drop 41) 41 L (st) h cs ss = (lhas L 0 ∧ isRf (lgt L 0) ∧ K 42 L (lgt L 0 :: st) h cs ss) := by
  rw [dX7_drop_41, ey_ok, nx_aload_n_3] <;> rfl
theorem qX7_drop_42 : ey FX7 ini rt fin K0 K (decode cX7_drop 42) 42 L (st) h cs ss = (K0 42 L st h cs ss) := by
  rw [dX7_drop_42, ey_ok, nx_invokevirtual_72]
theorem qX7_drop_45 : ey FX7 ini rt fin K0 K (decode cX7_drop 45) 45 L ([.int x]) h cs ss = (rokI rt x ∧ fin (some (.int x)) h cs ss) := by
  rw [dX7_drop_45, ey_ok, nx_ireturn_68]
theorem qX7_dayOf_0 : ey FX7 ini rt fin K0 K (decode cX7_dayOf 0) 0 L (st) h cs ss = (lhas L 0 ∧ isI (lgt L 0) ∧ K 1 L (lgt L 0 :: st) h cs ss) := by
  rw [dX7_dayOf_0, ey_ok, nx_iload_n_1] <;> rfl
theorem qX7_dayOf_1 : ey FX7 ini rt fin K0 K (decode cX7_dayOf 1) 1 L (st) h cs ss = (K 3 L (.int 24 :: st) h cs ss) := by
  rw [dX7_dayOf_1, ey_ok, nx_bipush_12] <;> rfl
theorem qX7_dayOf_3 : ey FX7 ini rt fin K0 K (decode cX7_dayOf 3) 3 L (.int y :: .int x :: r) h cs ss = (¬ y = 0 ∧ K 4 L (.int (x / y) :: r) h cs ss) := by
  rw [dX7_dayOf_3, ey_ok, nx_idiv_23]
theorem qX7_dayOf_4 : ey FX7 ini rt fin K0 K (decode cX7_dayOf 4) 4 L ([.int x]) h cs ss = (rokI rt x ∧ fin (some (.int x)) h cs ss) := by
  rw [dX7_dayOf_4, ey_ok, nx_ireturn_68]
theorem qX7_weekOf_0 : ey FX7 ini rt fin K0 K (decode cX7_weekOf 0) 0 L (st) h cs ss = (lhas L 0 ∧ isI (lgt L 0) ∧ K 1 L (lgt L 0 :: st) h cs ss) := by
  rw [dX7_weekOf_0, ey_ok, nx_iload_n_1] <;> rfl
theorem qX7_weekOf_1 : ey FX7 ini rt fin K0 K (decode cX7_weekOf 1) 1 L (st) h cs ss = (K 4 L (.int 168 :: st) h cs ss) := by
  rw [dX7_weekOf_1, ey_ok, nx_sipush_13] <;> rfl
theorem qX7_weekOf_4 : ey FX7 ini rt fin K0 K (decode cX7_weekOf 4) 4 L (.int y :: .int x :: r) h cs ss = (¬ y = 0 ∧ K 5 L (.int (x / y) :: r) h cs ss) := by
  rw [dX7_weekOf_4, ey_ok, nx_idiv_23]
theorem qX7_weekOf_5 : ey FX7 ini rt fin K0 K (decode cX7_weekOf 5) 5 L ([.int x]) h cs ss = (rokI rt x ∧ fin (some (.int x)) h cs ss) := by
  rw [dX7_weekOf_5, ey_ok, nx_ireturn_68]
theorem qX7_weekHours_0 : ey FX7 ini rt fin K0 K (decode cX7_weekHours 0) 0 L (st) h cs ss = (lhas L 0 ∧ isRf (lgt L 0) ∧ K 1 L (lgt L 0 :: st) h cs ss) := by
  rw [dX7_weekHours_0, ey_ok, nx_aload_n_3] <;> rfl
theorem qX7_weekHours_1 : ey FX7 ini rt fin K0 K (decode cX7_weekHours 1) 1 L (.ref a :: r) h cs ss = (h.1 a = some (.inl 7) ∧ K 4 L (h.2 a 9 :: r) h cs ss) := by
  rw [dX7_weekHours_1, ey_ok, nx_getfield_54]
  exact and_l rfl
theorem qX7_weekHours_4 : ey FX7 ini rt fin K0 K (decode cX7_weekHours 4) 4 L (st) h cs ss = (lhas L 1 ∧ isI (lgt L 1) ∧ K 5 L (lgt L 1 :: st) h cs ss) := by
  rw [dX7_weekHours_4, ey_ok, nx_iload_n_1] <;> rfl
theorem qX7_weekHours_5 : ey FX7 ini rt fin K0 K (decode cX7_weekHours 5) 5 L (.int i :: .ref a :: r) h cs ss = (isA (h.1 a) (fun k m => k = 0 ∧ vp_in i m) ∧ K 6 L (h.2 a i.toNatClampNeg :: r) h cs ss) := by
  rw [dX7_weekHours_5, ey_ok, nx_iaload_57]
theorem qX7_weekHours_6 : ey FX7 ini rt fin K0 K (decode cX7_weekHours 6) 6 L (st) h cs ss = (lhas L 0 ∧ isRf (lgt L 0) ∧ K 7 L (lgt L 0 :: st) h cs ss) := by
  rw [dX7_weekHours_6, ey_ok, nx_aload_n_3] <;> rfl
theorem qX7_weekHours_7 : ey FX7 ini rt fin K0 K (decode cX7_weekHours 7) 7 L (.ref a :: r) h cs ss = (h.1 a = some (.inl 7) ∧ K 10 L (h.2 a 8 :: r) h cs ss) := by
  rw [dX7_weekHours_7, ey_ok, nx_getfield_54]
  exact and_l rfl
theorem qX7_weekHours_10 : ey FX7 ini rt fin K0 K (decode cX7_weekHours 10) 10 L (st) h cs ss = (lhas L 1 ∧ isI (lgt L 1) ∧ K 11 L (lgt L 1 :: st) h cs ss) := by
  rw [dX7_weekHours_10, ey_ok, nx_iload_n_1] <;> rfl
theorem qX7_weekHours_11 : ey FX7 ini rt fin K0 K (decode cX7_weekHours 11) 11 L (.int i :: .ref a :: r) h cs ss = (isA (h.1 a) (fun k m => k = 0 ∧ vp_in i m) ∧ K 12 L (h.2 a i.toNatClampNeg :: r) h cs ss) := by
  rw [dX7_weekHours_11, ey_ok, nx_iaload_57]
theorem qX7_weekHours_12 : ey FX7 ini rt fin K0 K (decode cX7_weekHours 12) 12 L (.int y :: .int x :: r) h cs ss = (K 13 L (.int (x - y) :: r) h cs ss) := by
  rw [dX7_weekHours_12, ey_ok, nx_isub_17]
theorem qX7_weekHours_13 : ey FX7 ini rt fin K0 K (decode cX7_weekHours 13) 13 L (.int x :: r) h cs ss = (2 < L.length ∧ K 14 (L.set 2 (some (.int x))) r h cs ss) := by
  rw [dX7_weekHours_13, ey_ok, nx_istore_n_5] <;> rfl
theorem qX7_weekHours_14 : ey FX7 ini rt fin K0 K (decode cX7_weekHours 14) 14 L (st) h cs ss = (K 15 L (.int 0 :: st) h cs ss) := by
  rw [dX7_weekHours_14, ey_ok, nx_iconst_11] <;> rfl
theorem qX7_weekHours_15 : ey FX7 ini rt fin K0 K (decode cX7_weekHours 15) 15 L (.int x :: r) h cs ss = (3 < L.length ∧ K 16 (L.set 3 (some (.int x))) r h cs ss) := by
  rw [dX7_weekHours_15, ey_ok, nx_istore_n_5] <;> rfl
theorem qX7_weekHours_16 : ey FX7 ini rt fin K0 K (decode cX7_weekHours 16) 16 L (st) h cs ss = (lhas L 3 ∧ isI (lgt L 3) ∧ K 17 L (lgt L 3 :: st) h cs ss) := by
  rw [dX7_weekHours_16, ey_ok, nx_iload_n_1] <;> rfl
theorem qX7_weekHours_17 : ey FX7 ini rt fin K0 K (decode cX7_weekHours 17) 17 L (st) h cs ss = (lhas L 0 ∧ isRf (lgt L 0) ∧ K 18 L (lgt L 0 :: st) h cs ss) := by
  rw [dX7_weekHours_17, ey_ok, nx_aload_n_3] <;> rfl
theorem qX7_weekHours_18 : ey FX7 ini rt fin K0 K (decode cX7_weekHours 18) 18 L (.ref a :: r) h cs ss = (h.1 a = some (.inl 7) ∧ K 21 L (h.2 a 3 :: r) h cs ss) := by
  rw [dX7_weekHours_18, ey_ok, nx_getfield_54]
  exact and_l rfl
theorem qX7_weekHours_21 : ey FX7 ini rt fin K0 K (decode cX7_weekHours 21) 21 L (.int y :: .int x :: r) h cs ss = (if y ≤ x then K 80 L r h cs ss else K 24 L r h cs ss) := by
  rw [dX7_weekHours_21, ey_ok, nx_if_icmp_39]
  exact and_l (by unfold jok; decide)
theorem qX7_weekHours_24 : ey FX7 ini rt fin K0 K (decode cX7_weekHours 24) 24 L (st) h cs ss = (lhas L 2 ∧ isI (lgt L 2) ∧ K 25 L (lgt L 2 :: st) h cs ss) := by
  rw [dX7_weekHours_24, ey_ok, nx_iload_n_1] <;> rfl
theorem qX7_weekHours_25 : ey FX7 ini rt fin K0 K (decode cX7_weekHours 25) 25 L (st) h cs ss = (lhas L 0 ∧ isRf (lgt L 0) ∧ K 26 L (lgt L 0 :: st) h cs ss) := by
  rw [dX7_weekHours_25, ey_ok, nx_aload_n_3] <;> rfl
theorem qX7_weekHours_26 : ey FX7 ini rt fin K0 K (decode cX7_weekHours 26) 26 L (st) h cs ss = (lhas L 3 ∧ isI (lgt L 3) ∧ K 27 L (lgt L 3 :: st) h cs ss) := by
  rw [dX7_weekHours_26, ey_ok, nx_iload_n_1] <;> rfl
theorem qX7_weekHours_27 : ey FX7 ini rt fin K0 K (decode cX7_weekHours 27) 27 L (st) h cs ss = (lhas L 1 ∧ isI (lgt L 1) ∧ K 28 L (lgt L 1 :: st) h cs ss) := by
  rw [dX7_weekHours_27, ey_ok, nx_iload_n_1] <;> rfl
theorem qX7_weekHours_28 : ey FX7 ini rt fin K0 K (decode cX7_weekHours 28) 28 L (st) h cs ss = (K0 28 L st h cs ss) := by
  rw [dX7_weekHours_28, ey_ok, nx_invokevirtual_72]
theorem qX7_weekHours_31 : ey FX7 ini rt fin K0 K (decode cX7_weekHours 31) 31 L (.int x :: r) h cs ss = (if x = 0 then K 71 L r h cs ss else K 34 L r h cs ss) := by
  rw [dX7_weekHours_31, ey_ok, nx_ifond_30]
  exact and_l (by unfold jok; decide)
theorem qX7_weekHours_34 : ey FX7 ini rt fin K0 K (decode cX7_weekHours 34) 34 L (st) h cs ss = (lhas L 0 ∧ isRf (lgt L 0) ∧ K 35 L (lgt L 0 :: st) h cs ss) := by
  rw [dX7_weekHours_34, ey_ok, nx_aload_n_3] <;> rfl
theorem qX7_weekHours_35 : ey FX7 ini rt fin K0 K (decode cX7_weekHours 35) 35 L (.ref a :: r) h cs ss = (h.1 a = some (.inl 7) ∧ K 38 L (h.2 a 8 :: r) h cs ss) := by
  rw [dX7_weekHours_35, ey_ok, nx_getfield_54]
  exact and_l rfl
theorem qX7_weekHours_38 : ey FX7 ini rt fin K0 K (decode cX7_weekHours 38) 38 L (st) h cs ss = (lhas L 3 ∧ isI (lgt L 3) ∧ K 39 L (lgt L 3 :: st) h cs ss) := by
  rw [dX7_weekHours_38, ey_ok, nx_iload_n_1] <;> rfl
theorem qX7_weekHours_39 : ey FX7 ini rt fin K0 K (decode cX7_weekHours 39) 39 L (.int i :: .ref a :: r) h cs ss = (isA (h.1 a) (fun k m => k = 0 ∧ vp_in i m) ∧ K 40 L (h.2 a i.toNatClampNeg :: r) h cs ss) := by
  rw [dX7_weekHours_39, ey_ok, nx_iaload_57]
theorem qX7_weekHours_40 : ey FX7 ini rt fin K0 K (decode cX7_weekHours 40) 40 L (st) h cs ss = (K0 40 L st h cs ss) := by
  rw [dX7_weekHours_40, ey_ok, nx_invokestatic_73]
theorem qX7_weekHours_43 : ey FX7 ini rt fin K0 K (decode cX7_weekHours 43) 43 L (st) h cs ss = (lhas L 0 ∧ isRf (lgt L 0) ∧ K 44 L (lgt L 0 :: st) h cs ss) := by
  rw [dX7_weekHours_43, ey_ok, nx_aload_n_3] <;> rfl
theorem qX7_weekHours_44 : ey FX7 ini rt fin K0 K (decode cX7_weekHours 44) 44 L (.ref a :: r) h cs ss = (h.1 a = some (.inl 7) ∧ K 47 L (h.2 a 8 :: r) h cs ss) := by
  rw [dX7_weekHours_44, ey_ok, nx_getfield_54]
  exact and_l rfl
theorem qX7_weekHours_47 : ey FX7 ini rt fin K0 K (decode cX7_weekHours 47) 47 L (st) h cs ss = (lhas L 1 ∧ isI (lgt L 1) ∧ K 48 L (lgt L 1 :: st) h cs ss) := by
  rw [dX7_weekHours_47, ey_ok, nx_iload_n_1] <;> rfl
theorem qX7_weekHours_48 : ey FX7 ini rt fin K0 K (decode cX7_weekHours 48) 48 L (.int i :: .ref a :: r) h cs ss = (isA (h.1 a) (fun k m => k = 0 ∧ vp_in i m) ∧ K 49 L (h.2 a i.toNatClampNeg :: r) h cs ss) := by
  rw [dX7_weekHours_48, ey_ok, nx_iaload_57]
theorem qX7_weekHours_49 : ey FX7 ini rt fin K0 K (decode cX7_weekHours 49) 49 L (st) h cs ss = (K0 49 L st h cs ss) := by
  rw [dX7_weekHours_49, ey_ok, nx_invokestatic_73]
theorem qX7_weekHours_52 : ey FX7 ini rt fin K0 K (decode cX7_weekHours 52) 52 L (.int y :: .int x :: r) h cs ss = (if ¬ x = y then K 71 L r h cs ss else K 55 L r h cs ss) := by
  rw [dX7_weekHours_52, ey_ok, nx_if_icmp_37]
  exact and_l (by unfold jok; decide)
theorem qX7_weekHours_55 : ey FX7 ini rt fin K0 K (decode cX7_weekHours 55) 55 L (st) h cs ss = (lhas L 0 ∧ isRf (lgt L 0) ∧ K 56 L (lgt L 0 :: st) h cs ss) := by
  rw [dX7_weekHours_55, ey_ok, nx_aload_n_3] <;> rfl
theorem qX7_weekHours_56 : ey FX7 ini rt fin K0 K (decode cX7_weekHours 56) 56 L (.ref a :: r) h cs ss = (h.1 a = some (.inl 7) ∧ K 59 L (h.2 a 9 :: r) h cs ss) := by
  rw [dX7_weekHours_56, ey_ok, nx_getfield_54]
  exact and_l rfl
theorem qX7_weekHours_59 : ey FX7 ini rt fin K0 K (decode cX7_weekHours 59) 59 L (st) h cs ss = (lhas L 3 ∧ isI (lgt L 3) ∧ K 60 L (lgt L 3 :: st) h cs ss) := by
  rw [dX7_weekHours_59, ey_ok, nx_iload_n_1] <;> rfl
theorem qX7_weekHours_60 : ey FX7 ini rt fin K0 K (decode cX7_weekHours 60) 60 L (.int i :: .ref a :: r) h cs ss = (isA (h.1 a) (fun k m => k = 0 ∧ vp_in i m) ∧ K 61 L (h.2 a i.toNatClampNeg :: r) h cs ss) := by
  rw [dX7_weekHours_60, ey_ok, nx_iaload_57]
theorem qX7_weekHours_61 : ey FX7 ini rt fin K0 K (decode cX7_weekHours 61) 61 L (st) h cs ss = (lhas L 0 ∧ isRf (lgt L 0) ∧ K 62 L (lgt L 0 :: st) h cs ss) := by
  rw [dX7_weekHours_61, ey_ok, nx_aload_n_3] <;> rfl
theorem qX7_weekHours_62 : ey FX7 ini rt fin K0 K (decode cX7_weekHours 62) 62 L (.ref a :: r) h cs ss = (h.1 a = some (.inl 7) ∧ K 65 L (h.2 a 8 :: r) h cs ss) := by
  rw [dX7_weekHours_62, ey_ok, nx_getfield_54]
  exact and_l rfl
theorem qX7_weekHours_65 : ey FX7 ini rt fin K0 K (decode cX7_weekHours 65) 65 L (st) h cs ss = (lhas L 3 ∧ isI (lgt L 3) ∧ K 66 L (lgt L 3 :: st) h cs ss) := by
  rw [dX7_weekHours_65, ey_ok, nx_iload_n_1] <;> rfl
theorem qX7_weekHours_66 : ey FX7 ini rt fin K0 K (decode cX7_weekHours 66) 66 L (.int i :: .ref a :: r) h cs ss = (isA (h.1 a) (fun k m => k = 0 ∧ vp_in i m) ∧ K 67 L (h.2 a i.toNatClampNeg :: r) h cs ss) := by
  rw [dX7_weekHours_66, ey_ok, nx_iaload_57]
theorem qX7_weekHours_67 : ey FX7 ini rt fin K0 K (decode cX7_weekHours 67) 67 L (.int y :: .int x :: r) h cs ss = (K 68 L (.int (x - y) :: r) h cs ss) := by
  rw [dX7_weekHours_67, ey_ok, nx_isub_17]
theorem qX7_weekHours_68 : ey FX7 ini rt fin K0 K (decode cX7_weekHours 68) 68 L (st) h cs ss = (K 72 L st h cs ss) := by
  rw [dX7_weekHours_68, ey_ok, nx_goto_29]
  exact and_l (by unfold jok; decide)
theorem qX7_weekHours_71 : ey FX7 ini rt fin K0 K (decode cX7_weekHours 71) 71 L (st) h cs ss = (K 72 L (.int 0 :: st) h cs ss) := by
  rw [dX7_weekHours_71, ey_ok, nx_iconst_11] <;> rfl
theorem qX7_weekHours_72 : ey FX7 ini rt fin K0 K (decode cX7_weekHours 72) 72 L (.int y :: .int x :: r) h cs ss = (K 73 L (.int (x + y) :: r) h cs ss) := by
  rw [dX7_weekHours_72, ey_ok, nx_iadd_16]
theorem qX7_weekHours_73 : ey FX7 ini rt fin K0 K (decode cX7_weekHours 73) 73 L (.int x :: r) h cs ss = (2 < L.length ∧ K 74 (L.set 2 (some (.int x))) r h cs ss) := by
  rw [dX7_weekHours_73, ey_ok, nx_istore_n_5] <;> rfl
theorem qX7_weekHours_74 : ey FX7 ini rt fin K0 K (decode cX7_weekHours 74) 74 L (st) h cs ss = (lhas L 3 ∧ isI (lgt L 3) ∧ K 77 (L.set 3 (some (inc (lgt L 3) 1))) st h cs ss) := by
  rw [dX7_weekHours_74, ey_ok, nx_iinc_10] <;> rfl
theorem qX7_weekHours_77 : ey FX7 ini rt fin K0 K (decode cX7_weekHours 77) 77 L (st) h cs ss = (K 16 L st h cs ss) := by
  rw [dX7_weekHours_77, ey_ok, nx_goto_29]
  exact and_l (by unfold jok; decide)
theorem qX7_weekHours_80 : ey FX7 ini rt fin K0 K (decode cX7_weekHours 80) 80 L (st) h cs ss = (lhas L 2 ∧ isI (lgt L 2) ∧ K 81 L (lgt L 2 :: st) h cs ss) := by
  rw [dX7_weekHours_80, ey_ok, nx_iload_n_1] <;> rfl
theorem qX7_weekHours_81 : ey FX7 ini rt fin K0 K (decode cX7_weekHours 81) 81 L ([.int x]) h cs ss = (rokI rt x ∧ fin (some (.int x)) h cs ss) := by
  rw [dX7_weekHours_81, ey_ok, nx_ireturn_68]
theorem qX7_hasShiftOn_0 : ey FX7 ini rt fin K0 K (decode cX7_hasShiftOn 0) 0 L (st) h cs ss = (K 1 L (.int 0 :: st) h cs ss) := by
  rw [dX7_hasShiftOn_0, ey_ok, nx_iconst_11] <;> rfl
theorem qX7_hasShiftOn_1 : ey FX7 ini rt fin K0 K (decode cX7_hasShiftOn 1) 1 L (.int x :: r) h cs ss = (3 < L.length ∧ K 2 (L.set 3 (some (.int x))) r h cs ss) := by
  rw [dX7_hasShiftOn_1, ey_ok, nx_istore_n_5] <;> rfl
theorem qX7_hasShiftOn_2 : ey FX7 ini rt fin K0 K (decode cX7_hasShiftOn 2) 2 L (st) h cs ss = (K 3 L (.int 0 :: st) h cs ss) := by
  rw [dX7_hasShiftOn_2, ey_ok, nx_iconst_11] <;> rfl
theorem qX7_hasShiftOn_3 : ey FX7 ini rt fin K0 K (decode cX7_hasShiftOn 3) 3 L (.int x :: r) h cs ss = (4 < L.length ∧ K 5 (L.set 4 (some (.int x))) r h cs ss) := by
  rw [dX7_hasShiftOn_3, ey_ok, nx_istore_4] <;> rfl
theorem qX7_hasShiftOn_5 : ey FX7 ini rt fin K0 K (decode cX7_hasShiftOn 5) 5 L (st) h cs ss = (lhas L 4 ∧ isI (lgt L 4) ∧ K 7 L (lgt L 4 :: st) h cs ss) := by
  rw [dX7_hasShiftOn_5, ey_ok, nx_iload_0] <;> rfl
theorem qX7_hasShiftOn_7 : ey FX7 ini rt fin K0 K (decode cX7_hasShiftOn 7) 7 L (st) h cs ss = (lhas L 0 ∧ isRf (lgt L 0) ∧ K 8 L (lgt L 0 :: st) h cs ss) := by
  rw [dX7_hasShiftOn_7, ey_ok, nx_aload_n_3] <;> rfl
theorem qX7_hasShiftOn_8 : ey FX7 ini rt fin K0 K (decode cX7_hasShiftOn 8) 8 L (.ref a :: r) h cs ss = (h.1 a = some (.inl 7) ∧ K 11 L (h.2 a 3 :: r) h cs ss) := by
  rw [dX7_hasShiftOn_8, ey_ok, nx_getfield_54]
  exact and_l rfl
theorem qX7_hasShiftOn_11 : ey FX7 ini rt fin K0 K (decode cX7_hasShiftOn 11) 11 L (.int y :: .int x :: r) h cs ss = (if y ≤ x then K 55 L r h cs ss else K 14 L r h cs ss) := by
  rw [dX7_hasShiftOn_11, ey_ok, nx_if_icmp_39]
  exact and_l (by unfold jok; decide)
theorem qX7_hasShiftOn_14 : ey FX7 ini rt fin K0 K (decode cX7_hasShiftOn 14) 14 L (st) h cs ss = (lhas L 3 ∧ isI (lgt L 3) ∧ K 15 L (lgt L 3 :: st) h cs ss) := by
  rw [dX7_hasShiftOn_14, ey_ok, nx_iload_n_1] <;> rfl
theorem qX7_hasShiftOn_15 : ey FX7 ini rt fin K0 K (decode cX7_hasShiftOn 15) 15 L (.int x :: r) h cs ss = (if ¬ x = 0 then K 43 L r h cs ss else K 18 L r h cs ss) := by
  rw [dX7_hasShiftOn_15, ey_ok, nx_ifond_31]
  exact and_l (by unfold jok; decide)
theorem qX7_hasShiftOn_18 : ey FX7 ini rt fin K0 K (decode cX7_hasShiftOn 18) 18 L (st) h cs ss = (lhas L 0 ∧ isRf (lgt L 0) ∧ K 19 L (lgt L 0 :: st) h cs ss) := by
  rw [dX7_hasShiftOn_18, ey_ok, nx_aload_n_3] <;> rfl
theorem qX7_hasShiftOn_19 : ey FX7 ini rt fin K0 K (decode cX7_hasShiftOn 19) 19 L (.ref a :: r) h cs ss = (h.1 a = some (.inl 7) ∧ K 22 L (h.2 a 7 :: r) h cs ss) := by
  rw [dX7_hasShiftOn_19, ey_ok, nx_getfield_54]
  exact and_l rfl
theorem qX7_hasShiftOn_22 : ey FX7 ini rt fin K0 K (decode cX7_hasShiftOn 22) 22 L (st) h cs ss = (lhas L 4 ∧ isI (lgt L 4) ∧ K 24 L (lgt L 4 :: st) h cs ss) := by
  rw [dX7_hasShiftOn_22, ey_ok, nx_iload_0] <;> rfl
theorem qX7_hasShiftOn_24 : ey FX7 ini rt fin K0 K (decode cX7_hasShiftOn 24) 24 L (.int i :: .ref a :: r) h cs ss = (isA (h.1 a) (fun k m => k = 0 ∧ vp_in i m) ∧ K 25 L (h.2 a i.toNatClampNeg :: r) h cs ss) := by
  rw [dX7_hasShiftOn_24, ey_ok, nx_iaload_57]
theorem qX7_hasShiftOn_25 : ey FX7 ini rt fin K0 K (decode cX7_hasShiftOn 25) 25 L (st) h cs ss = (lhas L 1 ∧ isI (lgt L 1) ∧ K 26 L (lgt L 1 :: st) h cs ss) := by
  rw [dX7_hasShiftOn_25, ey_ok, nx_iload_n_1] <;> rfl
theorem qX7_hasShiftOn_26 : ey FX7 ini rt fin K0 K (decode cX7_hasShiftOn 26) 26 L (.int y :: .int x :: r) h cs ss = (if ¬ x = y then K 47 L r h cs ss else K 29 L r h cs ss) := by
  rw [dX7_hasShiftOn_26, ey_ok, nx_if_icmp_37]
  exact and_l (by unfold jok; decide)
theorem qX7_hasShiftOn_29 : ey FX7 ini rt fin K0 K (decode cX7_hasShiftOn 29) 29 L (st) h cs ss = (lhas L 0 ∧ isRf (lgt L 0) ∧ K 30 L (lgt L 0 :: st) h cs ss) := by
  rw [dX7_hasShiftOn_29, ey_ok, nx_aload_n_3] <;> rfl
theorem qX7_hasShiftOn_30 : ey FX7 ini rt fin K0 K (decode cX7_hasShiftOn 30) 30 L (.ref a :: r) h cs ss = (h.1 a = some (.inl 7) ∧ K 33 L (h.2 a 8 :: r) h cs ss) := by
  rw [dX7_hasShiftOn_30, ey_ok, nx_getfield_54]
  exact and_l rfl
theorem qX7_hasShiftOn_33 : ey FX7 ini rt fin K0 K (decode cX7_hasShiftOn 33) 33 L (st) h cs ss = (lhas L 4 ∧ isI (lgt L 4) ∧ K 35 L (lgt L 4 :: st) h cs ss) := by
  rw [dX7_hasShiftOn_33, ey_ok, nx_iload_0] <;> rfl
theorem qX7_hasShiftOn_35 : ey FX7 ini rt fin K0 K (decode cX7_hasShiftOn 35) 35 L (.int i :: .ref a :: r) h cs ss = (isA (h.1 a) (fun k m => k = 0 ∧ vp_in i m) ∧ K 36 L (h.2 a i.toNatClampNeg :: r) h cs ss) := by
  rw [dX7_hasShiftOn_35, ey_ok, nx_iaload_57]
theorem qX7_hasShiftOn_36 : ey FX7 ini rt fin K0 K (decode cX7_hasShiftOn 36) 36 L (st) h cs ss = (K0 36 L st h cs ss) := by
  rw [dX7_hasShiftOn_36, ey_ok, nx_invokestatic_73]
theorem qX7_hasShiftOn_39 : ey FX7 ini rt fin K0 K (decode cX7_hasShiftOn 39) 39 L (st) h cs ss = (lhas L 2 ∧ isI (lgt L 2) ∧ K 40 L (lgt L 2 :: st) h cs ss) := by
  rw [dX7_hasShiftOn_39, ey_ok, nx_iload_n_1] <;> rfl
theorem qX7_hasShiftOn_40 : ey FX7 ini rt fin K0 K (decode cX7_hasShiftOn 40) 40 L (.int y :: .int x :: r) h cs ss = (if ¬ x = y then K 47 L r h cs ss else K 43 L r h cs ss) := by
  rw [dX7_hasShiftOn_40, ey_ok, nx_if_icmp_37]
  exact and_l (by unfold jok; decide)
theorem qX7_hasShiftOn_43 : ey FX7 ini rt fin K0 K (decode cX7_hasShiftOn 43) 43 L (st) h cs ss = (K 44 L (.int 1 :: st) h cs ss) := by
  rw [dX7_hasShiftOn_43, ey_ok, nx_iconst_11] <;> rfl
theorem qX7_hasShiftOn_44 : ey FX7 ini rt fin K0 K (decode cX7_hasShiftOn 44) 44 L (st) h cs ss = (K 48 L st h cs ss) := by
  rw [dX7_hasShiftOn_44, ey_ok, nx_goto_29]
  exact and_l (by unfold jok; decide)
theorem qX7_hasShiftOn_47 : ey FX7 ini rt fin K0 K (decode cX7_hasShiftOn 47) 47 L (st) h cs ss = (K 48 L (.int 0 :: st) h cs ss) := by
  rw [dX7_hasShiftOn_47, ey_ok, nx_iconst_11] <;> rfl
theorem qX7_hasShiftOn_48 : ey FX7 ini rt fin K0 K (decode cX7_hasShiftOn 48) 48 L (.int x :: r) h cs ss = (3 < L.length ∧ K 49 (L.set 3 (some (.int x))) r h cs ss) := by
  rw [dX7_hasShiftOn_48, ey_ok, nx_istore_n_5] <;> rfl
theorem qX7_hasShiftOn_49 : ey FX7 ini rt fin K0 K (decode cX7_hasShiftOn 49) 49 L (st) h cs ss = (lhas L 4 ∧ isI (lgt L 4) ∧ K 52 (L.set 4 (some (inc (lgt L 4) 1))) st h cs ss) := by
  rw [dX7_hasShiftOn_49, ey_ok, nx_iinc_10] <;> rfl
theorem qX7_hasShiftOn_52 : ey FX7 ini rt fin K0 K (decode cX7_hasShiftOn 52) 52 L (st) h cs ss = (K 5 L st h cs ss) := by
  rw [dX7_hasShiftOn_52, ey_ok, nx_goto_29]
  exact and_l (by unfold jok; decide)
theorem qX7_hasShiftOn_55 : ey FX7 ini rt fin K0 K (decode cX7_hasShiftOn 55) 55 L (st) h cs ss = (lhas L 3 ∧ isI (lgt L 3) ∧ K 56 L (lgt L 3 :: st) h cs ss) := by
  rw [dX7_hasShiftOn_55, ey_ok, nx_iload_n_1] <;> rfl
theorem qX7_hasShiftOn_56 : ey FX7 ini rt fin K0 K (decode cX7_hasShiftOn 56) 56 L ([.int x]) h cs ss = (rokI rt x ∧ fin (some (.int x)) h cs ss) := by
  rw [dX7_hasShiftOn_56, ey_ok, nx_ireturn_68]
theorem qX7_isInRow_0 : ey FX7 ini rt fin K0 K (decode cX7_isInRow 0) 0 L (st) h cs ss = (K 1 L (.int 1 :: st) h cs ss) := by
  rw [dX7_isInRow_0, ey_ok, nx_iconst_11] <;> rfl
theorem qX7_isInRow_1 : ey FX7 ini rt fin K0 K (decode cX7_isInRow 1) 1 L (.int x :: r) h cs ss = (3 < L.length ∧ K 2 (L.set 3 (some (.int x))) r h cs ss) := by
  rw [dX7_isInRow_1, ey_ok, nx_istore_n_5] <;> rfl
theorem qX7_isInRow_2 : ey FX7 ini rt fin K0 K (decode cX7_isInRow 2) 2 L (st) h cs ss = (K 3 L (.int 1 :: st) h cs ss) := by
  rw [dX7_isInRow_2, ey_ok, nx_iconst_11] <;> rfl
theorem qX7_isInRow_3 : ey FX7 ini rt fin K0 K (decode cX7_isInRow 3) 3 L (.int x :: r) h cs ss = (4 < L.length ∧ K 5 (L.set 4 (some (.int x))) r h cs ss) := by
  rw [dX7_isInRow_3, ey_ok, nx_istore_4] <;> rfl
theorem qX7_isInRow_5 : ey FX7 ini rt fin K0 K (decode cX7_isInRow 5) 5 L (st) h cs ss = (lhas L 4 ∧ isI (lgt L 4) ∧ K 7 L (lgt L 4 :: st) h cs ss) := by
  rw [dX7_isInRow_5, ey_ok, nx_iload_0] <;> rfl
theorem qX7_isInRow_7 : ey FX7 ini rt fin K0 K (decode cX7_isInRow 7) 7 L (st) h cs ss = (lhas L 2 ∧ isI (lgt L 2) ∧ K 8 L (lgt L 2 :: st) h cs ss) := by
  rw [dX7_isInRow_7, ey_ok, nx_iload_n_1] <;> rfl
theorem qX7_isInRow_8 : ey FX7 ini rt fin K0 K (decode cX7_isInRow 8) 8 L (.int y :: .int x :: r) h cs ss = (if y < x then K 66 L r h cs ss else K 11 L r h cs ss) := by
  rw [dX7_isInRow_8, ey_ok, nx_if_icmp_40]
  exact and_l (by unfold jok; decide)
theorem qX7_isInRow_11 : ey FX7 ini rt fin K0 K (decode cX7_isInRow 11) 11 L (st) h cs ss = (lhas L 3 ∧ isI (lgt L 3) ∧ K 12 L (lgt L 3 :: st) h cs ss) := by
  rw [dX7_isInRow_11, ey_ok, nx_iload_n_1] <;> rfl
theorem qX7_isInRow_12 : ey FX7 ini rt fin K0 K (decode cX7_isInRow 12) 12 L (.int x :: r) h cs ss = (if x = 0 then K 66 L r h cs ss else K 15 L r h cs ss) := by
  rw [dX7_isInRow_12, ey_ok, nx_ifond_30]
  exact and_l (by unfold jok; decide)
theorem qX7_isInRow_15 : ey FX7 ini rt fin K0 K (decode cX7_isInRow 15) 15 L (st) h cs ss = (lhas L 0 ∧ isRf (lgt L 0) ∧ K 16 L (lgt L 0 :: st) h cs ss) := by
  rw [dX7_isInRow_15, ey_ok, nx_aload_n_3] <;> rfl
theorem qX7_isInRow_16 : ey FX7 ini rt fin K0 K (decode cX7_isInRow 16) 16 L (.ref a :: r) h cs ss = (h.1 a = some (.inl 7) ∧ K 19 L (h.2 a 8 :: r) h cs ss) := by
  rw [dX7_isInRow_16, ey_ok, nx_getfield_54]
  exact and_l rfl
theorem qX7_isInRow_19 : ey FX7 ini rt fin K0 K (decode cX7_isInRow 19) 19 L (st) h cs ss = (lhas L 1 ∧ isI (lgt L 1) ∧ K 20 L (lgt L 1 :: st) h cs ss) := by
  rw [dX7_isInRow_19, ey_ok, nx_iload_n_1] <;> rfl
theorem qX7_isInRow_20 : ey FX7 ini rt fin K0 K (decode cX7_isInRow 20) 20 L (.int i :: .ref a :: r) h cs ss = (isA (h.1 a) (fun k m => k = 0 ∧ vp_in i m) ∧ K 21 L (h.2 a i.toNatClampNeg :: r) h cs ss) := by
  rw [dX7_isInRow_20, ey_ok, nx_iaload_57]
theorem qX7_isInRow_21 : ey FX7 ini rt fin K0 K (decode cX7_isInRow 21) 21 L (st) h cs ss = (K0 21 L st h cs ss) := by
  rw [dX7_isInRow_21, ey_ok, nx_invokestatic_73]
theorem qX7_isInRow_24 : ey FX7 ini rt fin K0 K (decode cX7_isInRow 24) 24 L (st) h cs ss = (lhas L 4 ∧ isI (lgt L 4) ∧ K 26 L (lgt L 4 :: st) h cs ss) := by
  rw [dX7_isInRow_24, ey_ok, nx_iload_0] <;> rfl
theorem qX7_isInRow_26 : ey FX7 ini rt fin K0 K (decode cX7_isInRow 26) 26 L (.int y :: .int x :: r) h cs ss = (if x < y then K 58 L r h cs ss else K 29 L r h cs ss) := by
  rw [dX7_isInRow_26, ey_ok, nx_if_icmp_38]
  exact and_l (by unfold jok; decide)
theorem qX7_isInRow_29 : ey FX7 ini rt fin K0 K (decode cX7_isInRow 29) 29 L (st) h cs ss = (lhas L 0 ∧ isRf (lgt L 0) ∧ K 30 L (lgt L 0 :: st) h cs ss) := by
  rw [dX7_isInRow_29, ey_ok, nx_aload_n_3] <;> rfl
theorem qX7_isInRow_30 : ey FX7 ini rt fin K0 K (decode cX7_isInRow 30) 30 L (st) h cs ss = (lhas L 0 ∧ isRf (lgt L 0) ∧ K 31 L (lgt L 0 :: st) h cs ss) := by
  rw [dX7_isInRow_30, ey_ok, nx_aload_n_3] <;> rfl
theorem qX7_isInRow_31 : ey FX7 ini rt fin K0 K (decode cX7_isInRow 31) 31 L (.ref a :: r) h cs ss = (h.1 a = some (.inl 7) ∧ K 34 L (h.2 a 7 :: r) h cs ss) := by
  rw [dX7_isInRow_31, ey_ok, nx_getfield_54]
  exact and_l rfl
theorem qX7_isInRow_34 : ey FX7 ini rt fin K0 K (decode cX7_isInRow 34) 34 L (st) h cs ss = (lhas L 1 ∧ isI (lgt L 1) ∧ K 35 L (lgt L 1 :: st) h cs ss) := by
  rw [dX7_isInRow_34, ey_ok, nx_iload_n_1] <;> rfl
theorem qX7_isInRow_35 : ey FX7 ini rt fin K0 K (decode cX7_isInRow 35) 35 L (.int i :: .ref a :: r) h cs ss = (isA (h.1 a) (fun k m => k = 0 ∧ vp_in i m) ∧ K 36 L (h.2 a i.toNatClampNeg :: r) h cs ss) := by
  rw [dX7_isInRow_35, ey_ok, nx_iaload_57]
theorem qX7_isInRow_36 : ey FX7 ini rt fin K0 K (decode cX7_isInRow 36) 36 L (st) h cs ss = (lhas L 0 ∧ isRf (lgt L 0) ∧ K 37 L (lgt L 0 :: st) h cs ss) := by
  rw [dX7_isInRow_36, ey_ok, nx_aload_n_3] <;> rfl
theorem qX7_isInRow_37 : ey FX7 ini rt fin K0 K (decode cX7_isInRow 37) 37 L (.ref a :: r) h cs ss = (h.1 a = some (.inl 7) ∧ K 40 L (h.2 a 8 :: r) h cs ss) := by
  rw [dX7_isInRow_37, ey_ok, nx_getfield_54]
  exact and_l rfl
theorem qX7_isInRow_40 : ey FX7 ini rt fin K0 K (decode cX7_isInRow 40) 40 L (st) h cs ss = (lhas L 1 ∧ isI (lgt L 1) ∧ K 41 L (lgt L 1 :: st) h cs ss) := by
  rw [dX7_isInRow_40, ey_ok, nx_iload_n_1] <;> rfl
theorem qX7_isInRow_41 : ey FX7 ini rt fin K0 K (decode cX7_isInRow 41) 41 L (.int i :: .ref a :: r) h cs ss = (isA (h.1 a) (fun k m => k = 0 ∧ vp_in i m) ∧ K 42 L (h.2 a i.toNatClampNeg :: r) h cs ss) := by
  rw [dX7_isInRow_41, ey_ok, nx_iaload_57]
theorem qX7_isInRow_42 : ey FX7 ini rt fin K0 K (decode cX7_isInRow 42) 42 L (st) h cs ss = (K0 42 L st h cs ss) := by
  rw [dX7_isInRow_42, ey_ok, nx_invokestatic_73]
theorem qX7_isInRow_45 : ey FX7 ini rt fin K0 K (decode cX7_isInRow 45) 45 L (st) h cs ss = (lhas L 4 ∧ isI (lgt L 4) ∧ K 47 L (lgt L 4 :: st) h cs ss) := by
  rw [dX7_isInRow_45, ey_ok, nx_iload_0] <;> rfl
theorem qX7_isInRow_47 : ey FX7 ini rt fin K0 K (decode cX7_isInRow 47) 47 L (.int y :: .int x :: r) h cs ss = (K 48 L (.int (x - y) :: r) h cs ss) := by
  rw [dX7_isInRow_47, ey_ok, nx_isub_17]
theorem qX7_isInRow_48 : ey FX7 ini rt fin K0 K (decode cX7_isInRow 48) 48 L (st) h cs ss = (K0 48 L st h cs ss) := by
  rw [dX7_isInRow_48, ey_ok, nx_invokevirtual_72]
theorem qX7_isInRow_51 : ey FX7 ini rt fin K0 K (decode cX7_isInRow 51) 51 L (.int x :: r) h cs ss = (if x = 0 then K 58 L r h cs ss else K 54 L r h cs ss) := by
  rw [dX7_isInRow_51, ey_ok, nx_ifond_30]
  exact and_l (by unfold jok; decide)
theorem qX7_isInRow_54 : ey FX7 ini rt fin K0 K (decode cX7_isInRow 54) 54 L (st) h cs ss = (K 55 L (.int 1 :: st) h cs ss) := by
  rw [dX7_isInRow_54, ey_ok, nx_iconst_11] <;> rfl
theorem qX7_isInRow_55 : ey FX7 ini rt fin K0 K (decode cX7_isInRow 55) 55 L (st) h cs ss = (K 59 L st h cs ss) := by
  rw [dX7_isInRow_55, ey_ok, nx_goto_29]
  exact and_l (by unfold jok; decide)
theorem qX7_isInRow_58 : ey FX7 ini rt fin K0 K (decode cX7_isInRow 58) 58 L (st) h cs ss = (K 59 L (.int 0 :: st) h cs ss) := by
  rw [dX7_isInRow_58, ey_ok, nx_iconst_11] <;> rfl
theorem qX7_isInRow_59 : ey FX7 ini rt fin K0 K (decode cX7_isInRow 59) 59 L (.int x :: r) h cs ss = (3 < L.length ∧ K 60 (L.set 3 (some (.int x))) r h cs ss) := by
  rw [dX7_isInRow_59, ey_ok, nx_istore_n_5] <;> rfl
theorem qX7_isInRow_60 : ey FX7 ini rt fin K0 K (decode cX7_isInRow 60) 60 L (st) h cs ss = (lhas L 4 ∧ isI (lgt L 4) ∧ K 63 (L.set 4 (some (inc (lgt L 4) 1))) st h cs ss) := by
  rw [dX7_isInRow_60, ey_ok, nx_iinc_10] <;> rfl
theorem qX7_isInRow_63 : ey FX7 ini rt fin K0 K (decode cX7_isInRow 63) 63 L (st) h cs ss = (K 5 L st h cs ss) := by
  rw [dX7_isInRow_63, ey_ok, nx_goto_29]
  exact and_l (by unfold jok; decide)
theorem qX7_isInRow_66 : ey FX7 ini rt fin K0 K (decode cX7_isInRow 66) 66 L (st) h cs ss = (lhas L 3 ∧ isI (lgt L 3) ∧ K 67 L (lgt L 3 :: st) h cs ss) := by
  rw [dX7_isInRow_66, ey_ok, nx_iload_n_1] <;> rfl
theorem qX7_isInRow_67 : ey FX7 ini rt fin K0 K (decode cX7_isInRow 67) 67 L ([.int x]) h cs ss = (rokI rt x ∧ fin (some (.int x)) h cs ss) := by
  rw [dX7_isInRow_67, ey_ok, nx_ireturn_68]
theorem qX7_isBroken_0 : ey FX7 ini rt fin K0 K (decode cX7_isBroken 0) 0 L (st) h cs ss = (lhas L 0 ∧ isRf (lgt L 0) ∧ K 1 L (lgt L 0 :: st) h cs ss) := by
  rw [dX7_isBroken_0, ey_ok, nx_aload_n_3] <;> rfl
theorem qX7_isBroken_1 : ey FX7 ini rt fin K0 K (decode cX7_isBroken 1) 1 L (.ref a :: r) h cs ss = (h.1 a = some (.inl 7) ∧ K 4 L (h.2 a 7 :: r) h cs ss) := by
  rw [dX7_isBroken_1, ey_ok, nx_getfield_54]
  exact and_l rfl
theorem qX7_isBroken_4 : ey FX7 ini rt fin K0 K (decode cX7_isBroken 4) 4 L (st) h cs ss = (lhas L 1 ∧ isI (lgt L 1) ∧ K 5 L (lgt L 1 :: st) h cs ss) := by
  rw [dX7_isBroken_4, ey_ok, nx_iload_n_1] <;> rfl
theorem qX7_isBroken_5 : ey FX7 ini rt fin K0 K (decode cX7_isBroken 5) 5 L (.int i :: .ref a :: r) h cs ss = (isA (h.1 a) (fun k m => k = 0 ∧ vp_in i m) ∧ K 6 L (h.2 a i.toNatClampNeg :: r) h cs ss) := by
  rw [dX7_isBroken_5, ey_ok, nx_iaload_57]
theorem qX7_isBroken_6 : ey FX7 ini rt fin K0 K (decode cX7_isBroken 6) 6 L (st) h cs ss = (K 7 L (.int (-1) :: st) h cs ss) := by
  rw [dX7_isBroken_6, ey_ok, nx_iconst_11] <;> rfl
theorem qX7_isBroken_7 : ey FX7 ini rt fin K0 K (decode cX7_isBroken 7) 7 L (.int y :: .int x :: r) h cs ss = (if x = y then K 44 L r h cs ss else K 10 L r h cs ss) := by
  rw [dX7_isBroken_7, ey_ok, nx_if_icmp_36]
  exact and_l (by unfold jok; decide)
theorem qX7_isBroken_10 : ey FX7 ini rt fin K0 K (decode cX7_isBroken 10) 10 L (st) h cs ss = (lhas L 0 ∧ isRf (lgt L 0) ∧ K 11 L (lgt L 0 :: st) h cs ss) := by
  rw [dX7_isBroken_10, ey_ok, nx_aload_n_3] <;> rfl
theorem qX7_isBroken_11 : ey FX7 ini rt fin K0 K (decode cX7_isBroken 11) 11 L (.ref a :: r) h cs ss = (h.1 a = some (.inl 7) ∧ K 14 L (h.2 a 21 :: r) h cs ss) := by
  rw [dX7_isBroken_11, ey_ok, nx_getfield_54]
  exact and_l rfl
theorem qX7_isBroken_14 : ey FX7 ini rt fin K0 K (decode cX7_isBroken 14) 14 L (st) h cs ss = (lhas L 2 ∧ isI (lgt L 2) ∧ K 15 L (lgt L 2 :: st) h cs ss) := by
  rw [dX7_isBroken_14, ey_ok, nx_iload_n_1] <;> rfl
theorem qX7_isBroken_15 : ey FX7 ini rt fin K0 K (decode cX7_isBroken 15) 15 L (.int i :: .ref a :: r) h cs ss = (isA (h.1 a) (fun k m => k = 1 ∧ vp_in i m) ∧ K 16 L (h.2 a i.toNatClampNeg :: r) h cs ss) := by
  rw [dX7_isBroken_15, ey_ok, nx_baload_58]
theorem qX7_isBroken_16 : ey FX7 ini rt fin K0 K (decode cX7_isBroken 16) 16 L (.int x :: r) h cs ss = (if ¬ x = 0 then K 44 L r h cs ss else K 19 L r h cs ss) := by
  rw [dX7_isBroken_16, ey_ok, nx_ifond_31]
  exact and_l (by unfold jok; decide)
theorem qX7_isBroken_19 : ey FX7 ini rt fin K0 K (decode cX7_isBroken 19) 19 L (st) h cs ss = (lhas L 0 ∧ isRf (lgt L 0) ∧ K 20 L (lgt L 0 :: st) h cs ss) := by
  rw [dX7_isBroken_19, ey_ok, nx_aload_n_3] <;> rfl
theorem qX7_isBroken_20 : ey FX7 ini rt fin K0 K (decode cX7_isBroken 20) 20 L (.ref a :: r) h cs ss = (h.1 a = some (.inl 7) ∧ K 23 L (h.2 a 19 :: r) h cs ss) := by
  rw [dX7_isBroken_20, ey_ok, nx_getfield_54]
  exact and_l rfl
theorem qX7_isBroken_23 : ey FX7 ini rt fin K0 K (decode cX7_isBroken 23) 23 L (st) h cs ss = (lhas L 2 ∧ isI (lgt L 2) ∧ K 24 L (lgt L 2 :: st) h cs ss) := by
  rw [dX7_isBroken_23, ey_ok, nx_iload_n_1] <;> rfl
theorem qX7_isBroken_24 : ey FX7 ini rt fin K0 K (decode cX7_isBroken 24) 24 L (.int i :: .ref a :: r) h cs ss = (isA (h.1 a) (fun k m => k = 0 ∧ vp_in i m) ∧ K 25 L (h.2 a i.toNatClampNeg :: r) h cs ss) := by
  rw [dX7_isBroken_24, ey_ok, nx_iaload_57]
theorem qX7_isBroken_25 : ey FX7 ini rt fin K0 K (decode cX7_isBroken 25) 25 L (st) h cs ss = (K 26 L (.int (-1) :: st) h cs ss) := by
  rw [dX7_isBroken_25, ey_ok, nx_iconst_11] <;> rfl
theorem qX7_isBroken_26 : ey FX7 ini rt fin K0 K (decode cX7_isBroken 26) 26 L (.int y :: .int x :: r) h cs ss = (if x = y then K 46 L r h cs ss else K 29 L r h cs ss) := by
  rw [dX7_isBroken_26, ey_ok, nx_if_icmp_36]
  exact and_l (by unfold jok; decide)
theorem qX7_isBroken_29 : ey FX7 ini rt fin K0 K (decode cX7_isBroken 29) 29 L (st) h cs ss = (lhas L 0 ∧ isRf (lgt L 0) ∧ K 30 L (lgt L 0 :: st) h cs ss) := by
  rw [dX7_isBroken_29, ey_ok, nx_aload_n_3] <;> rfl
theorem qX7_isBroken_30 : ey FX7 ini rt fin K0 K (decode cX7_isBroken 30) 30 L (.ref a :: r) h cs ss = (h.1 a = some (.inl 7) ∧ K 33 L (h.2 a 19 :: r) h cs ss) := by
  rw [dX7_isBroken_30, ey_ok, nx_getfield_54]
  exact and_l rfl
theorem qX7_isBroken_33 : ey FX7 ini rt fin K0 K (decode cX7_isBroken 33) 33 L (st) h cs ss = (lhas L 2 ∧ isI (lgt L 2) ∧ K 34 L (lgt L 2 :: st) h cs ss) := by
  rw [dX7_isBroken_33, ey_ok, nx_iload_n_1] <;> rfl
theorem qX7_isBroken_34 : ey FX7 ini rt fin K0 K (decode cX7_isBroken 34) 34 L (.int i :: .ref a :: r) h cs ss = (isA (h.1 a) (fun k m => k = 0 ∧ vp_in i m) ∧ K 35 L (h.2 a i.toNatClampNeg :: r) h cs ss) := by
  rw [dX7_isBroken_34, ey_ok, nx_iaload_57]
theorem qX7_isBroken_35 : ey FX7 ini rt fin K0 K (decode cX7_isBroken 35) 35 L (st) h cs ss = (lhas L 0 ∧ isRf (lgt L 0) ∧ K 36 L (lgt L 0 :: st) h cs ss) := by
  rw [dX7_isBroken_35, ey_ok, nx_aload_n_3] <;> rfl
theorem qX7_isBroken_36 : ey FX7 ini rt fin K0 K (decode cX7_isBroken 36) 36 L (.ref a :: r) h cs ss = (h.1 a = some (.inl 7) ∧ K 39 L (h.2 a 6 :: r) h cs ss) := by
  rw [dX7_isBroken_36, ey_ok, nx_getfield_54]
  exact and_l rfl
theorem qX7_isBroken_39 : ey FX7 ini rt fin K0 K (decode cX7_isBroken 39) 39 L (st) h cs ss = (lhas L 1 ∧ isI (lgt L 1) ∧ K 40 L (lgt L 1 :: st) h cs ss) := by
  rw [dX7_isBroken_39, ey_ok, nx_iload_n_1] <;> rfl
theorem qX7_isBroken_40 : ey FX7 ini rt fin K0 K (decode cX7_isBroken 40) 40 L (.int i :: .ref a :: r) h cs ss = (isA (h.1 a) (fun k m => k = 0 ∧ vp_in i m) ∧ K 41 L (h.2 a i.toNatClampNeg :: r) h cs ss) := by
  rw [dX7_isBroken_40, ey_ok, nx_iaload_57]
theorem qX7_isBroken_41 : ey FX7 ini rt fin K0 K (decode cX7_isBroken 41) 41 L (.int y :: .int x :: r) h cs ss = (if x = y then K 46 L r h cs ss else K 44 L r h cs ss) := by
  rw [dX7_isBroken_41, ey_ok, nx_if_icmp_36]
  exact and_l (by unfold jok; decide)
theorem qX7_isBroken_44 : ey FX7 ini rt fin K0 K (decode cX7_isBroken 44) 44 L (st) h cs ss = (K 45 L (.int 0 :: st) h cs ss) := by
  rw [dX7_isBroken_44, ey_ok, nx_iconst_11] <;> rfl
theorem qX7_isBroken_45 : ey FX7 ini rt fin K0 K (decode cX7_isBroken 45) 45 L ([.int x]) h cs ss = (rokI rt x ∧ fin (some (.int x)) h cs ss) := by
  rw [dX7_isBroken_45, ey_ok, nx_ireturn_68]
theorem qX7_isBroken_46 : ey FX7 ini rt fin K0 K (decode cX7_isBroken 46) 46 L (st) h cs ss = (lhas L 0 ∧ isRf (lgt L 0) ∧ K 47 L (lgt L 0 :: st) h cs ss) := by
  rw [dX7_isBroken_46, ey_ok, nx_aload_n_3] <;> rfl
theorem qX7_isBroken_47 : ey FX7 ini rt fin K0 K (decode cX7_isBroken 47) 47 L (.ref a :: r) h cs ss = (h.1 a = some (.inl 7) ∧ K 50 L (h.2 a 18 :: r) h cs ss) := by
  rw [dX7_isBroken_47, ey_ok, nx_getfield_54]
  exact and_l rfl
theorem qX7_isBroken_50 : ey FX7 ini rt fin K0 K (decode cX7_isBroken 50) 50 L (st) h cs ss = (lhas L 2 ∧ isI (lgt L 2) ∧ K 51 L (lgt L 2 :: st) h cs ss) := by
  rw [dX7_isBroken_50, ey_ok, nx_iload_n_1] <;> rfl
theorem qX7_isBroken_51 : ey FX7 ini rt fin K0 K (decode cX7_isBroken 51) 51 L (.int i :: .ref a :: r) h cs ss = (isA (h.1 a) (fun k m => k = 0 ∧ vp_in i m) ∧ K 52 L (h.2 a i.toNatClampNeg :: r) h cs ss) := by
  rw [dX7_isBroken_51, ey_ok, nx_iaload_57]
theorem qX7_isBroken_52 : ey FX7 ini rt fin K0 K (decode cX7_isBroken 52) 52 L (.int x :: r) h cs ss = (3 < L.length ∧ K 53 (L.set 3 (some (.int x))) r h cs ss) := by
  rw [dX7_isBroken_52, ey_ok, nx_istore_n_5] <;> rfl
theorem qX7_isBroken_53 : ey FX7 ini rt fin K0 K (decode cX7_isBroken 53) 53 L (st) h cs ss = (lhas L 0 ∧ isRf (lgt L 0) ∧ K 54 L (lgt L 0 :: st) h cs ss) := by
  rw [dX7_isBroken_53, ey_ok, nx_aload_n_3] <;> rfl
theorem qX7_isBroken_54 : ey FX7 ini rt fin K0 K (decode cX7_isBroken 54) 54 L (.ref a :: r) h cs ss = (h.1 a = some (.inl 7) ∧ K 57 L (h.2 a 17 :: r) h cs ss) := by
  rw [dX7_isBroken_54, ey_ok, nx_getfield_54]
  exact and_l rfl
theorem qX7_isBroken_57 : ey FX7 ini rt fin K0 K (decode cX7_isBroken 57) 57 L (st) h cs ss = (lhas L 2 ∧ isI (lgt L 2) ∧ K 58 L (lgt L 2 :: st) h cs ss) := by
  rw [dX7_isBroken_57, ey_ok, nx_iload_n_1] <;> rfl
theorem qX7_isBroken_58 : ey FX7 ini rt fin K0 K (decode cX7_isBroken 58) 58 L (.int i :: .ref a :: r) h cs ss = (isA (h.1 a) (fun k m => k = 0 ∧ vp_in i m) ∧ K 59 L (h.2 a i.toNatClampNeg :: r) h cs ss) := by
  rw [dX7_isBroken_58, ey_ok, nx_iaload_57]
theorem qX7_isBroken_59 : ey FX7 ini rt fin K0 K (decode cX7_isBroken 59) 59 L (.int x :: r) h cs ss = (if ¬ x = 0 then K 99 L r h cs ss else K 62 L r h cs ss) := by
  rw [dX7_isBroken_59, ey_ok, nx_ifond_31]
  exact and_l (by unfold jok; decide)
theorem qX7_isBroken_62 : ey FX7 ini rt fin K0 K (decode cX7_isBroken 62) 62 L (st) h cs ss = (lhas L 0 ∧ isRf (lgt L 0) ∧ K 63 L (lgt L 0 :: st) h cs ss) := by
  rw [dX7_isBroken_62, ey_ok, nx_aload_n_3] <;> rfl
theorem qX7_isBroken_63 : ey FX7 ini rt fin K0 K (decode cX7_isBroken 63) 63 L (st) h cs ss = (lhas L 1 ∧ isI (lgt L 1) ∧ K 64 L (lgt L 1 :: st) h cs ss) := by
  rw [dX7_isBroken_63, ey_ok, nx_iload_n_1] <;> rfl
theorem qX7_isBroken_64 : ey FX7 ini rt fin K0 K (decode cX7_isBroken 64) 64 L (st) h cs ss = (K0 64 L st h cs ss) := by
  rw [dX7_isBroken_64, ey_ok, nx_invokevirtual_72]
theorem qX7_isBroken_67 : ey FX7 ini rt fin K0 K (decode cX7_isBroken 67) 67 L (.int x :: r) h cs ss = (4 < L.length ∧ K 69 (L.set 4 (some (.int x))) r h cs ss) := by
  rw [dX7_isBroken_67, ey_ok, nx_istore_4] <;> rfl
theorem qX7_isBroken_69 : ey FX7 ini rt fin K0 K (decode cX7_isBroken 69) 69 L (st) h cs ss = (lhas L 4 ∧ isI (lgt L 4) ∧ K 71 L (lgt L 4 :: st) h cs ss) := by
  rw [dX7_isBroken_69, ey_ok, nx_iload_0] <;> rfl
theorem qX7_isBroken_71 : ey FX7 ini rt fin K0 K (decode cX7_isBroken 71) 71 L (st) h cs ss = (K 72 L (.int (-1) :: st) h cs ss) := by
  rw [dX7_isBroken_71, ey_ok, nx_iconst_11] <;> rfl
theorem qX7_isBroken_72 : ey FX7 ini rt fin K0 K (decode cX7_isBroken 72) 72 L (.int y :: .int x :: r) h cs ss = (if x = y then K 97 L r h cs ss else K 75 L r h cs ss) := by
  rw [dX7_isBroken_72, ey_ok, nx_if_icmp_36]
  exact and_l (by unfold jok; decide)
theorem qX7_isBroken_75 : ey FX7 ini rt fin K0 K (decode cX7_isBroken 75) 75 L (st) h cs ss = (lhas L 0 ∧ isRf (lgt L 0) ∧ K 76 L (lgt L 0 :: st) h cs ss) := by
  rw [dX7_isBroken_75, ey_ok, nx_aload_n_3] <;> rfl
theorem qX7_isBroken_76 : ey FX7 ini rt fin K0 K (decode cX7_isBroken 76) 76 L (.ref a :: r) h cs ss = (h.1 a = some (.inl 7) ∧ K 79 L (h.2 a 8 :: r) h cs ss) := by
  rw [dX7_isBroken_76, ey_ok, nx_getfield_54]
  exact and_l rfl
theorem qX7_isBroken_79 : ey FX7 ini rt fin K0 K (decode cX7_isBroken 79) 79 L (st) h cs ss = (lhas L 1 ∧ isI (lgt L 1) ∧ K 80 L (lgt L 1 :: st) h cs ss) := by
  rw [dX7_isBroken_79, ey_ok, nx_iload_n_1] <;> rfl
theorem qX7_isBroken_80 : ey FX7 ini rt fin K0 K (decode cX7_isBroken 80) 80 L (.int i :: .ref a :: r) h cs ss = (isA (h.1 a) (fun k m => k = 0 ∧ vp_in i m) ∧ K 81 L (h.2 a i.toNatClampNeg :: r) h cs ss) := by
  rw [dX7_isBroken_80, ey_ok, nx_iaload_57]
theorem qX7_isBroken_81 : ey FX7 ini rt fin K0 K (decode cX7_isBroken 81) 81 L (st) h cs ss = (lhas L 0 ∧ isRf (lgt L 0) ∧ K 82 L (lgt L 0 :: st) h cs ss) := by
  rw [dX7_isBroken_81, ey_ok, nx_aload_n_3] <;> rfl
theorem qX7_isBroken_82 : ey FX7 ini rt fin K0 K (decode cX7_isBroken 82) 82 L (.ref a :: r) h cs ss = (h.1 a = some (.inl 7) ∧ K 85 L (h.2 a 9 :: r) h cs ss) := by
  rw [dX7_isBroken_82, ey_ok, nx_getfield_54]
  exact and_l rfl
theorem qX7_isBroken_85 : ey FX7 ini rt fin K0 K (decode cX7_isBroken 85) 85 L (st) h cs ss = (lhas L 4 ∧ isI (lgt L 4) ∧ K 87 L (lgt L 4 :: st) h cs ss) := by
  rw [dX7_isBroken_85, ey_ok, nx_iload_0] <;> rfl
theorem qX7_isBroken_87 : ey FX7 ini rt fin K0 K (decode cX7_isBroken 87) 87 L (.int i :: .ref a :: r) h cs ss = (isA (h.1 a) (fun k m => k = 0 ∧ vp_in i m) ∧ K 88 L (h.2 a i.toNatClampNeg :: r) h cs ss) := by
  rw [dX7_isBroken_87, ey_ok, nx_iaload_57]
theorem qX7_isBroken_88 : ey FX7 ini rt fin K0 K (decode cX7_isBroken 88) 88 L (.int y :: .int x :: r) h cs ss = (K 89 L (.int (x - y) :: r) h cs ss) := by
  rw [dX7_isBroken_88, ey_ok, nx_isub_17]
theorem qX7_isBroken_89 : ey FX7 ini rt fin K0 K (decode cX7_isBroken 89) 89 L (st) h cs ss = (lhas L 3 ∧ isI (lgt L 3) ∧ K 90 L (lgt L 3 :: st) h cs ss) := by
  rw [dX7_isBroken_89, ey_ok, nx_iload_n_1] <;> rfl
theorem qX7_isBroken_90 : ey FX7 ini rt fin K0 K (decode cX7_isBroken 90) 90 L (.int y :: .int x :: r) h cs ss = (if y ≤ x then K 97 L r h cs ss else K 93 L r h cs ss) := by
  rw [dX7_isBroken_90, ey_ok, nx_if_icmp_39]
  exact and_l (by unfold jok; decide)
theorem qX7_isBroken_93 : ey FX7 ini rt fin K0 K (decode cX7_isBroken 93) 93 L (st) h cs ss = (K 94 L (.int 1 :: st) h cs ss) := by
  rw [dX7_isBroken_93, ey_ok, nx_iconst_11] <;> rfl
theorem qX7_isBroken_94 : ey FX7 ini rt fin K0 K (decode cX7_isBroken 94) 94 L (st) h cs ss = (K 98 L st h cs ss) := by
  rw [dX7_isBroken_94, ey_ok, nx_goto_29]
  exact and_l (by unfold jok; decide)
theorem qX7_isBroken_97 : ey FX7 ini rt fin K0 K (decode cX7_isBroken 97) 97 L (st) h cs ss = (K 98 L (.int 0 :: st) h cs ss) := by
  rw [dX7_isBroken_97, ey_ok, nx_iconst_11] <;> rfl
theorem qX7_isBroken_98 : ey FX7 ini rt fin K0 K (decode cX7_isBroken 98) 98 L ([.int x]) h cs ss = (rokI rt x ∧ fin (some (.int x)) h cs ss) := by
  rw [dX7_isBroken_98, ey_ok, nx_ireturn_68]
theorem qX7_isBroken_99 : ey FX7 ini rt fin K0 K (decode cX7_isBroken 99) 99 L (st) h cs ss = (lhas L 0 ∧ isRf (lgt L 0) ∧ K 100 L (lgt L 0 :: st) h cs ss) := by
  rw [dX7_isBroken_99, ey_ok, nx_aload_n_3] <;> rfl
theorem qX7_isBroken_100 : ey FX7 ini rt fin K0 K (decode cX7_isBroken 100) 100 L (.ref a :: r) h cs ss = (h.1 a = some (.inl 7) ∧ K 103 L (h.2 a 17 :: r) h cs ss) := by
  rw [dX7_isBroken_100, ey_ok, nx_getfield_54]
  exact and_l rfl
theorem qX7_isBroken_103 : ey FX7 ini rt fin K0 K (decode cX7_isBroken 103) 103 L (st) h cs ss = (lhas L 2 ∧ isI (lgt L 2) ∧ K 104 L (lgt L 2 :: st) h cs ss) := by
  rw [dX7_isBroken_103, ey_ok, nx_iload_n_1] <;> rfl
theorem qX7_isBroken_104 : ey FX7 ini rt fin K0 K (decode cX7_isBroken 104) 104 L (.int i :: .ref a :: r) h cs ss = (isA (h.1 a) (fun k m => k = 0 ∧ vp_in i m) ∧ K 105 L (h.2 a i.toNatClampNeg :: r) h cs ss) := by
  rw [dX7_isBroken_104, ey_ok, nx_iaload_57]
theorem qX7_isBroken_105 : ey FX7 ini rt fin K0 K (decode cX7_isBroken 105) 105 L (st) h cs ss = (K 106 L (.int 1 :: st) h cs ss) := by
  rw [dX7_isBroken_105, ey_ok, nx_iconst_11] <;> rfl
theorem qX7_isBroken_106 : ey FX7 ini rt fin K0 K (decode cX7_isBroken 106) 106 L (.int y :: .int x :: r) h cs ss = (if ¬ x = y then K 124 L r h cs ss else K 109 L r h cs ss) := by
  rw [dX7_isBroken_106, ey_ok, nx_if_icmp_37]
  exact and_l (by unfold jok; decide)
theorem qX7_isBroken_109 : ey FX7 ini rt fin K0 K (decode cX7_isBroken 109) 109 L (st) h cs ss = (lhas L 0 ∧ isRf (lgt L 0) ∧ K 110 L (lgt L 0 :: st) h cs ss) := by
  rw [dX7_isBroken_109, ey_ok, nx_aload_n_3] <;> rfl
theorem qX7_isBroken_110 : ey FX7 ini rt fin K0 K (decode cX7_isBroken 110) 110 L (st) h cs ss = (lhas L 1 ∧ isI (lgt L 1) ∧ K 111 L (lgt L 1 :: st) h cs ss) := by
  rw [dX7_isBroken_110, ey_ok, nx_iload_n_1] <;> rfl
theorem qX7_isBroken_111 : ey FX7 ini rt fin K0 K (decode cX7_isBroken 111) 111 L (st) h cs ss = (K0 111 L st h cs ss) := by
  rw [dX7_isBroken_111, ey_ok, nx_invokevirtual_72]
theorem qX7_isBroken_114 : ey FX7 ini rt fin K0 K (decode cX7_isBroken 114) 114 L (st) h cs ss = (lhas L 3 ∧ isI (lgt L 3) ∧ K 115 L (lgt L 3 :: st) h cs ss) := by
  rw [dX7_isBroken_114, ey_ok, nx_iload_n_1] <;> rfl
theorem qX7_isBroken_115 : ey FX7 ini rt fin K0 K (decode cX7_isBroken 115) 115 L (.int y :: .int x :: r) h cs ss = (if x ≤ y then K 122 L r h cs ss else K 118 L r h cs ss) := by
  rw [dX7_isBroken_115, ey_ok, nx_if_icmp_41]
  exact and_l (by unfold jok; decide)
theorem qX7_isBroken_118 : ey FX7 ini rt fin K0 K (decode cX7_isBroken 118) 118 L (st) h cs ss = (K 119 L (.int 1 :: st) h cs ss) := by
  rw [dX7_isBroken_118, ey_ok, nx_iconst_11] <;> rfl
theorem qX7_isBroken_119 : ey FX7 ini rt fin K0 K (decode cX7_isBroken 119) 119 L (st) h cs ss = (K 123 L st h cs ss) := by
  rw [dX7_isBroken_119, ey_ok, nx_goto_29]
  exact and_l (by unfold jok; decide)
theorem qX7_isBroken_122 : ey FX7 ini rt fin K0 K (decode cX7_isBroken 122) 122 L (st) h cs ss = (K 123 L (.int 0 :: st) h cs ss) := by
  rw [dX7_isBroken_122, ey_ok, nx_iconst_11] <;> rfl
theorem qX7_isBroken_123 : ey FX7 ini rt fin K0 K (decode cX7_isBroken 123) 123 L ([.int x]) h cs ss = (rokI rt x ∧ fin (some (.int x)) h cs ss) := by
  rw [dX7_isBroken_123, ey_ok, nx_ireturn_68]
theorem qX7_isBroken_124 : ey FX7 ini rt fin K0 K (decode cX7_isBroken 124) 124 L (st) h cs ss = (lhas L 0 ∧ isRf (lgt L 0) ∧ K 125 L (lgt L 0 :: st) h cs ss) := by
  rw [dX7_isBroken_124, ey_ok, nx_aload_n_3] <;> rfl
theorem qX7_isBroken_125 : ey FX7 ini rt fin K0 K (decode cX7_isBroken 125) 125 L (.ref a :: r) h cs ss = (h.1 a = some (.inl 7) ∧ K 128 L (h.2 a 17 :: r) h cs ss) := by
  rw [dX7_isBroken_125, ey_ok, nx_getfield_54]
  exact and_l rfl
theorem qX7_isBroken_128 : ey FX7 ini rt fin K0 K (decode cX7_isBroken 128) 128 L (st) h cs ss = (lhas L 2 ∧ isI (lgt L 2) ∧ K 129 L (lgt L 2 :: st) h cs ss) := by
  rw [dX7_isBroken_128, ey_ok, nx_iload_n_1] <;> rfl
theorem qX7_isBroken_129 : ey FX7 ini rt fin K0 K (decode cX7_isBroken 129) 129 L (.int i :: .ref a :: r) h cs ss = (isA (h.1 a) (fun k m => k = 0 ∧ vp_in i m) ∧ K 130 L (h.2 a i.toNatClampNeg :: r) h cs ss) := by
  rw [dX7_isBroken_129, ey_ok, nx_iaload_57]
theorem qX7_isBroken_130 : ey FX7 ini rt fin K0 K (decode cX7_isBroken 130) 130 L (st) h cs ss = (K 131 L (.int 2 :: st) h cs ss) := by
  rw [dX7_isBroken_130, ey_ok, nx_iconst_11] <;> rfl
theorem qX7_isBroken_131 : ey FX7 ini rt fin K0 K (decode cX7_isBroken 131) 131 L (.int y :: .int x :: r) h cs ss = (if ¬ x = y then K 143 L r h cs ss else K 134 L r h cs ss) := by
  rw [dX7_isBroken_131, ey_ok, nx_if_icmp_37]
  exact and_l (by unfold jok; decide)
theorem qX7_isBroken_134 : ey FX7 ini rt fin K0 K (decode cX7_isBroken 134) 134 L (st) h cs ss = (lhas L 0 ∧ isRf (lgt L 0) ∧ K 135 L (lgt L 0 :: st) h cs ss) := by
  rw [dX7_isBroken_134, ey_ok, nx_aload_n_3] <;> rfl
theorem qX7_isBroken_135 : ey FX7 ini rt fin K0 K (decode cX7_isBroken 135) 135 L (st) h cs ss = (lhas L 1 ∧ isI (lgt L 1) ∧ K 136 L (lgt L 1 :: st) h cs ss) := by
  rw [dX7_isBroken_135, ey_ok, nx_iload_n_1] <;> rfl
theorem qX7_isBroken_136 : ey FX7 ini rt fin K0 K (decode cX7_isBroken 136) 136 L (st) h cs ss = (lhas L 3 ∧ isI (lgt L 3) ∧ K 137 L (lgt L 3 :: st) h cs ss) := by
  rw [dX7_isBroken_136, ey_ok, nx_iload_n_1] <;> rfl
theorem qX7_isBroken_137 : ey FX7 ini rt fin K0 K (decode cX7_isBroken 137) 137 L (st) h cs ss = (K0 137 L st h cs ss) := by
  rw [dX7_isBroken_137, ey_ok, nx_invokevirtual_72]
theorem qX7_isBroken_140 : ey FX7 ini rt fin K0 K (decode cX7_isBroken 140) 140 L (st) h cs ss = (K 165 L st h cs ss) := by
  rw [dX7_isBroken_140, ey_ok, nx_goto_29]
  exact and_l (by unfold jok; decide)
theorem qX7_isBroken_143 : ey FX7 ini rt fin K0 K (decode cX7_isBroken 143) 143 L (st) h cs ss = (lhas L 0 ∧ isRf (lgt L 0) ∧ K 144 L (lgt L 0 :: st) h cs ss) := by
  rw [dX7_isBroken_143, ey_ok, nx_aload_n_3] <;> rfl
theorem qX7_isBroken_144 : ey FX7 ini rt fin K0 K (decode cX7_isBroken 144) 144 L (.ref a :: r) h cs ss = (h.1 a = some (.inl 7) ∧ K 147 L (h.2 a 9 :: r) h cs ss) := by
  rw [dX7_isBroken_144, ey_ok, nx_getfield_54]
  exact and_l rfl
theorem qX7_isBroken_147 : ey FX7 ini rt fin K0 K (decode cX7_isBroken 147) 147 L (st) h cs ss = (lhas L 1 ∧ isI (lgt L 1) ∧ K 148 L (lgt L 1 :: st) h cs ss) := by
  rw [dX7_isBroken_147, ey_ok, nx_iload_n_1] <;> rfl
theorem qX7_isBroken_148 : ey FX7 ini rt fin K0 K (decode cX7_isBroken 148) 148 L (.int i :: .ref a :: r) h cs ss = (isA (h.1 a) (fun k m => k = 0 ∧ vp_in i m) ∧ K 149 L (h.2 a i.toNatClampNeg :: r) h cs ss) := by
  rw [dX7_isBroken_148, ey_ok, nx_iaload_57]
theorem qX7_isBroken_149 : ey FX7 ini rt fin K0 K (decode cX7_isBroken 149) 149 L (st) h cs ss = (lhas L 0 ∧ isRf (lgt L 0) ∧ K 150 L (lgt L 0 :: st) h cs ss) := by
  rw [dX7_isBroken_149, ey_ok, nx_aload_n_3] <;> rfl
theorem qX7_isBroken_150 : ey FX7 ini rt fin K0 K (decode cX7_isBroken 150) 150 L (.ref a :: r) h cs ss = (h.1 a = some (.inl 7) ∧ K 153 L (h.2 a 8 :: r) h cs ss) := by
  rw [dX7_isBroken_150, ey_ok, nx_getfield_54]
  exact and_l rfl
theorem qX7_isBroken_153 : ey FX7 ini rt fin K0 K (decode cX7_isBroken 153) 153 L (st) h cs ss = (lhas L 1 ∧ isI (lgt L 1) ∧ K 154 L (lgt L 1 :: st) h cs ss) := by
  rw [dX7_isBroken_153, ey_ok, nx_iload_n_1] <;> rfl
theorem qX7_isBroken_154 : ey FX7 ini rt fin K0 K (decode cX7_isBroken 154) 154 L (.int i :: .ref a :: r) h cs ss = (isA (h.1 a) (fun k m => k = 0 ∧ vp_in i m) ∧ K 155 L (h.2 a i.toNatClampNeg :: r) h cs ss) := by
  rw [dX7_isBroken_154, ey_ok, nx_iaload_57]
theorem qX7_isBroken_155 : ey FX7 ini rt fin K0 K (decode cX7_isBroken 155) 155 L (.int y :: .int x :: r) h cs ss = (K 156 L (.int (x - y) :: r) h cs ss) := by
  rw [dX7_isBroken_155, ey_ok, nx_isub_17]
theorem qX7_isBroken_156 : ey FX7 ini rt fin K0 K (decode cX7_isBroken 156) 156 L (st) h cs ss = (lhas L 3 ∧ isI (lgt L 3) ∧ K 157 L (lgt L 3 :: st) h cs ss) := by
  rw [dX7_isBroken_156, ey_ok, nx_iload_n_1] <;> rfl
theorem qX7_isBroken_157 : ey FX7 ini rt fin K0 K (decode cX7_isBroken 157) 157 L (.int y :: .int x :: r) h cs ss = (if x ≤ y then K 164 L r h cs ss else K 160 L r h cs ss) := by
  rw [dX7_isBroken_157, ey_ok, nx_if_icmp_41]
  exact and_l (by unfold jok; decide)
theorem qX7_isBroken_160 : ey FX7 ini rt fin K0 K (decode cX7_isBroken 160) 160 L (st) h cs ss = (K 161 L (.int 1 :: st) h cs ss) := by
  rw [dX7_isBroken_160, ey_ok, nx_iconst_11] <;> rfl
theorem qX7_isBroken_161 : ey FX7 ini rt fin K0 K (decode cX7_isBroken 161) 161 L (st) h cs ss = (K 165 L st h cs ss) := by
  rw [dX7_isBroken_161, ey_ok, nx_goto_29]
  exact and_l (by unfold jok; decide)
theorem qX7_isBroken_164 : ey FX7 ini rt fin K0 K (decode cX7_isBroken 164) 164 L (st) h cs ss = (K 165 L (.int 0 :: st) h cs ss) := by
  rw [dX7_isBroken_164, ey_ok, nx_iconst_11] <;> rfl
theorem qX7_isBroken_165 : ey FX7 ini rt fin K0 K (decode cX7_isBroken 165) 165 L ([.int x]) h cs ss = (rokI rt x ∧ fin (some (.int x)) h cs ss) := by
  rw [dX7_isBroken_165, ey_ok, nx_ireturn_68]
theorem qX7_breaks_0 : ey FX7 ini rt fin K0 K (decode cX7_breaks 0) 0 L (st) h cs ss = (lhas L 0 ∧ isRf (lgt L 0) ∧ K 1 L (lgt L 0 :: st) h cs ss) := by
  rw [dX7_breaks_0, ey_ok, nx_aload_n_3] <;> rfl
theorem qX7_breaks_1 : ey FX7 ini rt fin K0 K (decode cX7_breaks 1) 1 L (st) h cs ss = (lhas L 0 ∧ isRf (lgt L 0) ∧ K 2 L (lgt L 0 :: st) h cs ss) := by
  rw [dX7_breaks_1, ey_ok, nx_aload_n_3] <;> rfl
theorem qX7_breaks_2 : ey FX7 ini rt fin K0 K (decode cX7_breaks 2) 2 L (st) h cs ss = (lhas L 1 ∧ isI (lgt L 1) ∧ K 3 L (lgt L 1 :: st) h cs ss) := by
  rw [dX7_breaks_2, ey_ok, nx_iload_n_1] <;> rfl
theorem qX7_breaks_3 : ey FX7 ini rt fin K0 K (decode cX7_breaks 3) 3 L (st) h cs ss = (K0 3 L st h cs ss) := by
  rw [dX7_breaks_3, ey_ok, nx_invokevirtual_72]
theorem qX7_breaks_6 : ey FX7 ini rt fin K0 K (decode cX7_breaks 6) 6 L (.int x :: r) h cs ss = (if x = 0 then K 21 L r h cs ss else K 9 L r h cs ss) := by
  rw [dX7_breaks_6, ey_ok, nx_ifond_30]
  exact and_l (by unfold jok; decide)
theorem qX7_breaks_9 : ey FX7 ini rt fin K0 K (decode cX7_breaks 9) 9 L (st) h cs ss = (lhas L 0 ∧ isRf (lgt L 0) ∧ K 10 L (lgt L 0 :: st) h cs ss) := by
  rw [dX7_breaks_9, ey_ok, nx_aload_n_3] <;> rfl
theorem qX7_breaks_10 : ey FX7 ini rt fin K0 K (decode cX7_breaks 10) 10 L (st) h cs ss = (lhas L 2 ∧ isI (lgt L 2) ∧ K 11 L (lgt L 2 :: st) h cs ss) := by
  rw [dX7_breaks_10, ey_ok, nx_iload_n_1] <;> rfl
theorem qX7_breaks_11 : ey FX7 ini rt fin K0 K (decode cX7_breaks 11) 11 L (st) h cs ss = (K0 11 L st h cs ss) := by
  rw [dX7_breaks_11, ey_ok, nx_invokevirtual_72]
theorem qX7_breaks_14 : ey FX7 ini rt fin K0 K (decode cX7_breaks 14) 14 L (.int x :: r) h cs ss = (if x = 0 then K 21 L r h cs ss else K 17 L r h cs ss) := by
  rw [dX7_breaks_14, ey_ok, nx_ifond_30]
  exact and_l (by unfold jok; decide)
theorem qX7_breaks_17 : ey FX7 ini rt fin K0 K (decode cX7_breaks 17) 17 L (st) h cs ss = (K 18 L (.int 1 :: st) h cs ss) := by
  rw [dX7_breaks_17, ey_ok, nx_iconst_11] <;> rfl
theorem qX7_breaks_18 : ey FX7 ini rt fin K0 K (decode cX7_breaks 18) 18 L (st) h cs ss = (K 22 L st h cs ss) := by
  rw [dX7_breaks_18, ey_ok, nx_goto_29]
  exact and_l (by unfold jok; decide)
theorem qX7_breaks_21 : ey FX7 ini rt fin K0 K (decode cX7_breaks 21) 21 L (st) h cs ss = (K 22 L (.int 0 :: st) h cs ss) := by
  rw [dX7_breaks_21, ey_ok, nx_iconst_11] <;> rfl
theorem qX7_breaks_22 : ey FX7 ini rt fin K0 K (decode cX7_breaks 22) 22 L (st) h cs ss = (K0 22 L st h cs ss) := by
  rw [dX7_breaks_22, ey_ok, nx_invokevirtual_72]
theorem qX7_breaks_25 : ey FX7 ini rt fin K0 K (decode cX7_breaks 25) 25 L (.int x :: r) h cs ss = (if x = 0 then K 41 L r h cs ss else K 28 L r h cs ss) := by
  rw [dX7_breaks_25, ey_ok, nx_ifond_30]
  exact and_l (by unfold jok; decide)
theorem qX7_breaks_28 : ey FX7 ini rt fin K0 K (decode cX7_breaks 28) 28 L (st) h cs ss = (lhas L 0 ∧ isRf (lgt L 0) ∧ K 29 L (lgt L 0 :: st) h cs ss) := by
  rw [dX7_breaks_28, ey_ok, nx_aload_n_3] <;> rfl
theorem qX7_breaks_29 : ey FX7 ini rt fin K0 K (decode cX7_breaks 29) 29 L (st) h cs ss = (lhas L 1 ∧ isI (lgt L 1) ∧ K 30 L (lgt L 1 :: st) h cs ss) := by
  rw [dX7_breaks_29, ey_ok, nx_iload_n_1] <;> rfl
theorem qX7_breaks_30 : ey FX7 ini rt fin K0 K (decode cX7_breaks 30) 30 L (st) h cs ss = (lhas L 2 ∧ isI (lgt L 2) ∧ K 31 L (lgt L 2 :: st) h cs ss) := by
  rw [dX7_breaks_30, ey_ok, nx_iload_n_1] <;> rfl
theorem qX7_breaks_31 : ey FX7 ini rt fin K0 K (decode cX7_breaks 31) 31 L (st) h cs ss = (K0 31 L st h cs ss) := by
  rw [dX7_breaks_31, ey_ok, nx_invokevirtual_72]
theorem qX7_breaks_34 : ey FX7 ini rt fin K0 K (decode cX7_breaks 34) 34 L (.int x :: r) h cs ss = (if x = 0 then K 41 L r h cs ss else K 37 L r h cs ss) := by
  rw [dX7_breaks_34, ey_ok, nx_ifond_30]
  exact and_l (by unfold jok; decide)
theorem qX7_breaks_37 : ey FX7 ini rt fin K0 K (decode cX7_breaks 37) 37 L (st) h cs ss = (K 38 L (.int 1 :: st) h cs ss) := by
  rw [dX7_breaks_37, ey_ok, nx_iconst_11] <;> rfl
theorem qX7_breaks_38 : ey FX7 ini rt fin K0 K (decode cX7_breaks 38) 38 L (st) h cs ss = (K 42 L st h cs ss) := by
  rw [dX7_breaks_38, ey_ok, nx_goto_29]
  exact and_l (by unfold jok; decide)
theorem qX7_breaks_41 : ey FX7 ini rt fin K0 K (decode cX7_breaks 41) 41 L (st) h cs ss = (K 42 L (.int 0 :: st) h cs ss) := by
  rw [dX7_breaks_41, ey_ok, nx_iconst_11] <;> rfl
theorem qX7_breaks_42 : ey FX7 ini rt fin K0 K (decode cX7_breaks 42) 42 L ([.int x]) h cs ss = (rokI rt x ∧ fin (some (.int x)) h cs ss) := by
  rw [dX7_breaks_42, ey_ok, nx_ireturn_68]
theorem qX7_breaches_0 : ey FX7 ini rt fin K0 K (decode cX7_breaches 0) 0 L (st) h cs ss = (lhas L 0 ∧ isRf (lgt L 0) ∧ K 1 L (lgt L 0 :: st) h cs ss) := by
  rw [dX7_breaches_0, ey_ok, nx_aload_n_3] <;> rfl
theorem qX7_breaches_1 : ey FX7 ini rt fin K0 K (decode cX7_breaches 1) 1 L (st) h cs ss = (lhas L 1 ∧ isI (lgt L 1) ∧ K 2 L (lgt L 1 :: st) h cs ss) := by
  rw [dX7_breaches_1, ey_ok, nx_iload_n_1] <;> rfl
theorem qX7_breaches_2 : ey FX7 ini rt fin K0 K (decode cX7_breaches 2) 2 L (st) h cs ss = (K0 2 L st h cs ss) := by
  rw [dX7_breaches_2, ey_ok, nx_invokestatic_73]
theorem qX7_breaches_5 : ey FX7 ini rt fin K0 K (decode cX7_breaches 5) 5 L (st) h cs ss = (lhas L 2 ∧ isI (lgt L 2) ∧ K 6 L (lgt L 2 :: st) h cs ss) := by
  rw [dX7_breaches_5, ey_ok, nx_iload_n_1] <;> rfl
theorem qX7_breaches_6 : ey FX7 ini rt fin K0 K (decode cX7_breaches 6) 6 L (st) h cs ss = (K 7 L (.int 0 :: st) h cs ss) := by
  rw [dX7_breaches_6, ey_ok, nx_iconst_11] <;> rfl
theorem qX7_breaches_7 : ey FX7 ini rt fin K0 K (decode cX7_breaches 7) 7 L (st) h cs ss = (K 9 L (.int 11 :: st) h cs ss) := by
  rw [dX7_breaches_7, ey_ok, nx_bipush_12] <;> rfl
theorem qX7_breaches_9 : ey FX7 ini rt fin K0 K (decode cX7_breaches 9) 9 L (st) h cs ss = (K0 9 L st h cs ss) := by
  rw [dX7_breaches_9, ey_ok, nx_invokestatic_73]
theorem qX7_breaches_12 : ey FX7 ini rt fin K0 K (decode cX7_breaches 12) 12 L (st) h cs ss = (K0 12 L st h cs ss) := by
  rw [dX7_breaches_12, ey_ok, nx_invokevirtual_72]
theorem qX7_breaches_15 : ey FX7 ini rt fin K0 K (decode cX7_breaches 15) 15 L (.int x :: r) h cs ss = (if ¬ x = 0 then K 20 L r h cs ss else K 18 L r h cs ss) := by
  rw [dX7_breaches_15, ey_ok, nx_ifond_31]
  exact and_l (by unfold jok; decide)
theorem qX7_breaches_18 : ey FX7 ini rt fin K0 K (decode cX7_breaches 18) 18 L (st) h cs ss = (K 19 L (.int 0 :: st) h cs ss) := by
  rw [dX7_breaches_18, ey_ok, nx_iconst_11] <;> rfl
theorem qX7_breaches_19 : ey FX7 ini rt fin K0 K (decode cX7_breaches 19) 19 L ([.int x]) h cs ss = (rokI rt x ∧ fin (some (.int x)) h cs ss) := by
  rw [dX7_breaches_19, ey_ok, nx_ireturn_68]
theorem qX7_breaches_20 : ey FX7 ini rt fin K0 K (decode cX7_breaches 20) 20 L (st) h cs ss = (K 21 L (.int 0 :: st) h cs ss) := by
  rw [dX7_breaches_20, ey_ok, nx_iconst_11] <;> rfl
theorem qX7_breaches_21 : ey FX7 ini rt fin K0 K (decode cX7_breaches 21) 21 L (.int x :: r) h cs ss = (3 < L.length ∧ K 22 (L.set 3 (some (.int x))) r h cs ss) := by
  rw [dX7_breaches_21, ey_ok, nx_istore_n_5] <;> rfl
theorem qX7_breaches_22 : ey FX7 ini rt fin K0 K (decode cX7_breaches 22) 22 L (st) h cs ss = (K 23 L (.int 0 :: st) h cs ss) := by
  rw [dX7_breaches_22, ey_ok, nx_iconst_11] <;> rfl
theorem qX7_breaches_23 : ey FX7 ini rt fin K0 K (decode cX7_breaches 23) 23 L (.int x :: r) h cs ss = (4 < L.length ∧ K 25 (L.set 4 (some (.int x))) r h cs ss) := by
  rw [dX7_breaches_23, ey_ok, nx_istore_4] <;> rfl
theorem qX7_breaches_25 : ey FX7 ini rt fin K0 K (decode cX7_breaches 25) 25 L (st) h cs ss = (lhas L 4 ∧ isI (lgt L 4) ∧ K 27 L (lgt L 4 :: st) h cs ss) := by
  rw [dX7_breaches_25, ey_ok, nx_iload_0] <;> rfl
theorem qX7_breaches_27 : ey FX7 ini rt fin K0 K (decode cX7_breaches 27) 27 L (st) h cs ss = (lhas L 0 ∧ isRf (lgt L 0) ∧ K 28 L (lgt L 0 :: st) h cs ss) := by
  rw [dX7_breaches_27, ey_ok, nx_aload_n_3] <;> rfl
theorem qX7_breaches_28 : ey FX7 ini rt fin K0 K (decode cX7_breaches 28) 28 L (.ref a :: r) h cs ss = (h.1 a = some (.inl 7) ∧ K 31 L (h.2 a 3 :: r) h cs ss) := by
  rw [dX7_breaches_28, ey_ok, nx_getfield_54]
  exact and_l rfl
theorem qX7_breaches_31 : ey FX7 ini rt fin K0 K (decode cX7_breaches 31) 31 L (.int y :: .int x :: r) h cs ss = (if y ≤ x then K 102 L r h cs ss else K 34 L r h cs ss) := by
  rw [dX7_breaches_31, ey_ok, nx_if_icmp_39]
  exact and_l (by unfold jok; decide)
theorem qX7_breaches_34 : ey FX7 ini rt fin K0 K (decode cX7_breaches 34) 34 L (st) h cs ss = (K 35 L (.int 0 :: st) h cs ss) := by
  rw [dX7_breaches_34, ey_ok, nx_iconst_11] <;> rfl
theorem qX7_breaches_35 : ey FX7 ini rt fin K0 K (decode cX7_breaches 35) 35 L (.int x :: r) h cs ss = (5 < L.length ∧ K 37 (L.set 5 (some (.int x))) r h cs ss) := by
  rw [dX7_breaches_35, ey_ok, nx_istore_4] <;> rfl
theorem qX7_breaches_37 : ey FX7 ini rt fin K0 K (decode cX7_breaches 37) 37 L (st) h cs ss = (lhas L 5 ∧ isI (lgt L 5) ∧ K 39 L (lgt L 5 :: st) h cs ss) := by
  rw [dX7_breaches_37, ey_ok, nx_iload_0] <;> rfl
theorem qX7_breaches_39 : ey FX7 ini rt fin K0 K (decode cX7_breaches 39) 39 L (st) h cs ss = (lhas L 0 ∧ isRf (lgt L 0) ∧ K 40 L (lgt L 0 :: st) h cs ss) := by
  rw [dX7_breaches_39, ey_ok, nx_aload_n_3] <;> rfl
theorem qX7_breaches_40 : ey FX7 ini rt fin K0 K (decode cX7_breaches 40) 40 L (.ref a :: r) h cs ss = (h.1 a = some (.inl 7) ∧ K 43 L (h.2 a 16 :: r) h cs ss) := by
  rw [dX7_breaches_40, ey_ok, nx_getfield_54]
  exact and_l rfl
theorem qX7_breaches_43 : ey FX7 ini rt fin K0 K (decode cX7_breaches 43) 43 L (.int y :: .int x :: r) h cs ss = (if y ≤ x then K 96 L r h cs ss else K 46 L r h cs ss) := by
  rw [dX7_breaches_43, ey_ok, nx_if_icmp_39]
  exact and_l (by unfold jok; decide)
theorem qX7_breaches_46 : ey FX7 ini rt fin K0 K (decode cX7_breaches 46) 46 L (st) h cs ss = (lhas L 3 ∧ isI (lgt L 3) ∧ K 47 L (lgt L 3 :: st) h cs ss) := by
  rw [dX7_breaches_46, ey_ok, nx_iload_n_1] <;> rfl
theorem qX7_breaches_47 : ey FX7 ini rt fin K0 K (decode cX7_breaches 47) 47 L (st) h cs ss = (lhas L 0 ∧ isRf (lgt L 0) ∧ K 48 L (lgt L 0 :: st) h cs ss) := by
  rw [dX7_breaches_47, ey_ok, nx_aload_n_3] <;> rfl
theorem qX7_breaches_48 : ey FX7 ini rt fin K0 K (decode cX7_breaches 48) 48 L (.ref a :: r) h cs ss = (h.1 a = some (.inl 7) ∧ K 51 L (h.2 a 7 :: r) h cs ss) := by
  rw [dX7_breaches_48, ey_ok, nx_getfield_54]
  exact and_l rfl
theorem qX7_breaches_51 : ey FX7 ini rt fin K0 K (decode cX7_breaches 51) 51 L (st) h cs ss = (lhas L 4 ∧ isI (lgt L 4) ∧ K 53 L (lgt L 4 :: st) h cs ss) := by
  rw [dX7_breaches_51, ey_ok, nx_iload_0] <;> rfl
theorem qX7_breaches_53 : ey FX7 ini rt fin K0 K (decode cX7_breaches 53) 53 L (.int i :: .ref a :: r) h cs ss = (isA (h.1 a) (fun k m => k = 0 ∧ vp_in i m) ∧ K 54 L (h.2 a i.toNatClampNeg :: r) h cs ss) := by
  rw [dX7_breaches_53, ey_ok, nx_iaload_57]
theorem qX7_breaches_54 : ey FX7 ini rt fin K0 K (decode cX7_breaches 54) 54 L (st) h cs ss = (lhas L 1 ∧ isI (lgt L 1) ∧ K 55 L (lgt L 1 :: st) h cs ss) := by
  rw [dX7_breaches_54, ey_ok, nx_iload_n_1] <;> rfl
theorem qX7_breaches_55 : ey FX7 ini rt fin K0 K (decode cX7_breaches 55) 55 L (.int y :: .int x :: r) h cs ss = (if ¬ x = y then K 87 L r h cs ss else K 58 L r h cs ss) := by
  rw [dX7_breaches_55, ey_ok, nx_if_icmp_37]
  exact and_l (by unfold jok; decide)
theorem qX7_breaches_58 : ey FX7 ini rt fin K0 K (decode cX7_breaches 58) 58 L (st) h cs ss = (lhas L 0 ∧ isRf (lgt L 0) ∧ K 59 L (lgt L 0 :: st) h cs ss) := by
  rw [dX7_breaches_58, ey_ok, nx_aload_n_3] <;> rfl
theorem qX7_breaches_59 : ey FX7 ini rt fin K0 K (decode cX7_breaches 59) 59 L (.ref a :: r) h cs ss = (h.1 a = some (.inl 7) ∧ K 62 L (h.2 a 8 :: r) h cs ss) := by
  rw [dX7_breaches_59, ey_ok, nx_getfield_54]
  exact and_l rfl
theorem qX7_breaches_62 : ey FX7 ini rt fin K0 K (decode cX7_breaches 62) 62 L (st) h cs ss = (lhas L 4 ∧ isI (lgt L 4) ∧ K 64 L (lgt L 4 :: st) h cs ss) := by
  rw [dX7_breaches_62, ey_ok, nx_iload_0] <;> rfl
theorem qX7_breaches_64 : ey FX7 ini rt fin K0 K (decode cX7_breaches 64) 64 L (.int i :: .ref a :: r) h cs ss = (isA (h.1 a) (fun k m => k = 0 ∧ vp_in i m) ∧ K 65 L (h.2 a i.toNatClampNeg :: r) h cs ss) := by
  rw [dX7_breaches_64, ey_ok, nx_iaload_57]
theorem qX7_breaches_65 : ey FX7 ini rt fin K0 K (decode cX7_breaches 65) 65 L (st) h cs ss = (K0 65 L st h cs ss) := by
  rw [dX7_breaches_65, ey_ok, nx_invokestatic_73]
theorem qX7_breaches_68 : ey FX7 ini rt fin K0 K (decode cX7_breaches 68) 68 L (st) h cs ss = (lhas L 2 ∧ isI (lgt L 2) ∧ K 69 L (lgt L 2 :: st) h cs ss) := by
  rw [dX7_breaches_68, ey_ok, nx_iload_n_1] <;> rfl
theorem qX7_breaches_69 : ey FX7 ini rt fin K0 K (decode cX7_breaches 69) 69 L (.int y :: .int x :: r) h cs ss = (if ¬ x = y then K 87 L r h cs ss else K 72 L r h cs ss) := by
  rw [dX7_breaches_69, ey_ok, nx_if_icmp_37]
  exact and_l (by unfold jok; decide)
theorem qX7_breaches_72 : ey FX7 ini rt fin K0 K (decode cX7_breaches 72) 72 L (st) h cs ss = (lhas L 0 ∧ isRf (lgt L 0) ∧ K 73 L (lgt L 0 :: st) h cs ss) := by
  rw [dX7_breaches_72, ey_ok, nx_aload_n_3] <;> rfl
theorem qX7_breaches_73 : ey FX7 ini rt fin K0 K (decode cX7_breaches 73) 73 L (st) h cs ss = (lhas L 4 ∧ isI (lgt L 4) ∧ K 75 L (lgt L 4 :: st) h cs ss) := by
  rw [dX7_breaches_73, ey_ok, nx_iload_0] <;> rfl
theorem qX7_breaches_75 : ey FX7 ini rt fin K0 K (decode cX7_breaches 75) 75 L (st) h cs ss = (lhas L 5 ∧ isI (lgt L 5) ∧ K 77 L (lgt L 5 :: st) h cs ss) := by
  rw [dX7_breaches_75, ey_ok, nx_iload_0] <;> rfl
theorem qX7_breaches_77 : ey FX7 ini rt fin K0 K (decode cX7_breaches 77) 77 L (st) h cs ss = (K0 77 L st h cs ss) := by
  rw [dX7_breaches_77, ey_ok, nx_invokevirtual_72]
theorem qX7_breaches_80 : ey FX7 ini rt fin K0 K (decode cX7_breaches 80) 80 L (.int x :: r) h cs ss = (if x = 0 then K 87 L r h cs ss else K 83 L r h cs ss) := by
  rw [dX7_breaches_80, ey_ok, nx_ifond_30]
  exact and_l (by unfold jok; decide)
theorem qX7_breaches_83 : ey FX7 ini rt fin K0 K (decode cX7_breaches 83) 83 L (st) h cs ss = (K 84 L (.int 1 :: st) h cs ss) := by
  rw [dX7_breaches_83, ey_ok, nx_iconst_11] <;> rfl
theorem qX7_breaches_84 : ey FX7 ini rt fin K0 K (decode cX7_breaches 84) 84 L (st) h cs ss = (K 88 L st h cs ss) := by
  rw [dX7_breaches_84, ey_ok, nx_goto_29]
  exact and_l (by unfold jok; decide)
theorem qX7_breaches_87 : ey FX7 ini rt fin K0 K (decode cX7_breaches 87) 87 L (st) h cs ss = (K 88 L (.int 0 :: st) h cs ss) := by
  rw [dX7_breaches_87, ey_ok, nx_iconst_11] <;> rfl
theorem qX7_breaches_88 : ey FX7 ini rt fin K0 K (decode cX7_breaches 88) 88 L (.int y :: .int x :: r) h cs ss = (K 89 L (.int (x + y) :: r) h cs ss) := by
  rw [dX7_breaches_88, ey_ok, nx_iadd_16]
theorem qX7_breaches_89 : ey FX7 ini rt fin K0 K (decode cX7_breaches 89) 89 L (.int x :: r) h cs ss = (3 < L.length ∧ K 90 (L.set 3 (some (.int x))) r h cs ss) := by
  rw [dX7_breaches_89, ey_ok, nx_istore_n_5] <;> rfl
theorem qX7_breaches_90 : ey FX7 ini rt fin K0 K (decode cX7_breaches 90) 90 L (st) h cs ss = (lhas L 5 ∧ isI (lgt L 5) ∧ K 93 (L.set 5 (some (inc (lgt L 5) 1))) st h cs ss) := by
  rw [dX7_breaches_90, ey_ok, nx_iinc_10] <;> rfl
theorem qX7_breaches_93 : ey FX7 ini rt fin K0 K (decode cX7_breaches 93) 93 L (st) h cs ss = (K 37 L st h cs ss) := by
  rw [dX7_breaches_93, ey_ok, nx_goto_29]
  exact and_l (by unfold jok; decide)
theorem qX7_breaches_96 : ey FX7 ini rt fin K0 K (decode cX7_breaches 96) 96 L (st) h cs ss = (lhas L 4 ∧ isI (lgt L 4) ∧ K 99 (L.set 4 (some (inc (lgt L 4) 1))) st h cs ss) := by
  rw [dX7_breaches_96, ey_ok, nx_iinc_10] <;> rfl
theorem qX7_breaches_99 : ey FX7 ini rt fin K0 K (decode cX7_breaches 99) 99 L (st) h cs ss = (K 25 L st h cs ss) := by
  rw [dX7_breaches_99, ey_ok, nx_goto_29]
  exact and_l (by unfold jok; decide)
theorem qX7_breaches_102 : ey FX7 ini rt fin K0 K (decode cX7_breaches 102) 102 L (st) h cs ss = (lhas L 3 ∧ isI (lgt L 3) ∧ K 103 L (lgt L 3 :: st) h cs ss) := by
  rw [dX7_breaches_102, ey_ok, nx_iload_n_1] <;> rfl
theorem qX7_breaches_103 : ey FX7 ini rt fin K0 K (decode cX7_breaches 103) 103 L ([.int x]) h cs ss = (rokI rt x ∧ fin (some (.int x)) h cs ss) := by
  rw [dX7_breaches_103, ey_ok, nx_ireturn_68]
theorem qX7_claimFor_0 : ey FX7 ini rt fin K0 K (decode cX7_claimFor 0) 0 L (st) h cs ss = (K 1 L (.int 0 :: st) h cs ss) := by
  rw [dX7_claimFor_0, ey_ok, nx_iconst_11] <;> rfl
theorem qX7_claimFor_1 : ey FX7 ini rt fin K0 K (decode cX7_claimFor 1) 1 L (.int x :: r) h cs ss = (4 < L.length ∧ K 3 (L.set 4 (some (.int x))) r h cs ss) := by
  rw [dX7_claimFor_1, ey_ok, nx_istore_4] <;> rfl
theorem qX7_claimFor_3 : ey FX7 ini rt fin K0 K (decode cX7_claimFor 3) 3 L (st) h cs ss = (lhas L 4 ∧ isI (lgt L 4) ∧ K 5 L (lgt L 4 :: st) h cs ss) := by
  rw [dX7_claimFor_3, ey_ok, nx_iload_0] <;> rfl
theorem qX7_claimFor_5 : ey FX7 ini rt fin K0 K (decode cX7_claimFor 5) 5 L (st) h cs ss = (lhas L 0 ∧ isRf (lgt L 0) ∧ K 6 L (lgt L 0 :: st) h cs ss) := by
  rw [dX7_claimFor_5, ey_ok, nx_aload_n_3] <;> rfl
theorem qX7_claimFor_6 : ey FX7 ini rt fin K0 K (decode cX7_claimFor 6) 6 L (.ref a :: r) h cs ss = (h.1 a = some (.inl 7) ∧ K 9 L (h.2 a 22 :: r) h cs ss) := by
  rw [dX7_claimFor_6, ey_ok, nx_getfield_54]
  exact and_l rfl
theorem qX7_claimFor_9 : ey FX7 ini rt fin K0 K (decode cX7_claimFor 9) 9 L (.int y :: .int x :: r) h cs ss = (if y ≤ x then K 54 L r h cs ss else K 12 L r h cs ss) := by
  rw [dX7_claimFor_9, ey_ok, nx_if_icmp_39]
  exact and_l (by unfold jok; decide)
theorem qX7_claimFor_12 : ey FX7 ini rt fin K0 K (decode cX7_claimFor 12) 12 L (st) h cs ss = (lhas L 0 ∧ isRf (lgt L 0) ∧ K 13 L (lgt L 0 :: st) h cs ss) := by
  rw [dX7_claimFor_12, ey_ok, nx_aload_n_3] <;> rfl
theorem qX7_claimFor_13 : ey FX7 ini rt fin K0 K (decode cX7_claimFor 13) 13 L (.ref a :: r) h cs ss = (h.1 a = some (.inl 7) ∧ K 16 L (h.2 a 23 :: r) h cs ss) := by
  rw [dX7_claimFor_13, ey_ok, nx_getfield_54]
  exact and_l rfl
theorem qX7_claimFor_16 : ey FX7 ini rt fin K0 K (decode cX7_claimFor 16) 16 L (st) h cs ss = (lhas L 4 ∧ isI (lgt L 4) ∧ K 18 L (lgt L 4 :: st) h cs ss) := by
  rw [dX7_claimFor_16, ey_ok, nx_iload_0] <;> rfl
theorem qX7_claimFor_18 : ey FX7 ini rt fin K0 K (decode cX7_claimFor 18) 18 L (.int i :: .ref a :: r) h cs ss = (isA (h.1 a) (fun k m => k = 0 ∧ vp_in i m) ∧ K 19 L (h.2 a i.toNatClampNeg :: r) h cs ss) := by
  rw [dX7_claimFor_18, ey_ok, nx_iaload_57]
theorem qX7_claimFor_19 : ey FX7 ini rt fin K0 K (decode cX7_claimFor 19) 19 L (st) h cs ss = (lhas L 1 ∧ isI (lgt L 1) ∧ K 20 L (lgt L 1 :: st) h cs ss) := by
  rw [dX7_claimFor_19, ey_ok, nx_iload_n_1] <;> rfl
theorem qX7_claimFor_20 : ey FX7 ini rt fin K0 K (decode cX7_claimFor 20) 20 L (.int y :: .int x :: r) h cs ss = (if ¬ x = y then K 48 L r h cs ss else K 23 L r h cs ss) := by
  rw [dX7_claimFor_20, ey_ok, nx_if_icmp_37]
  exact and_l (by unfold jok; decide)
theorem qX7_claimFor_23 : ey FX7 ini rt fin K0 K (decode cX7_claimFor 23) 23 L (st) h cs ss = (lhas L 0 ∧ isRf (lgt L 0) ∧ K 24 L (lgt L 0 :: st) h cs ss) := by
  rw [dX7_claimFor_23, ey_ok, nx_aload_n_3] <;> rfl
theorem qX7_claimFor_24 : ey FX7 ini rt fin K0 K (decode cX7_claimFor 24) 24 L (.ref a :: r) h cs ss = (h.1 a = some (.inl 7) ∧ K 27 L (h.2 a 24 :: r) h cs ss) := by
  rw [dX7_claimFor_24, ey_ok, nx_getfield_54]
  exact and_l rfl
theorem qX7_claimFor_27 : ey FX7 ini rt fin K0 K (decode cX7_claimFor 27) 27 L (st) h cs ss = (lhas L 4 ∧ isI (lgt L 4) ∧ K 29 L (lgt L 4 :: st) h cs ss) := by
  rw [dX7_claimFor_27, ey_ok, nx_iload_0] <;> rfl
theorem qX7_claimFor_29 : ey FX7 ini rt fin K0 K (decode cX7_claimFor 29) 29 L (.int i :: .ref a :: r) h cs ss = (isA (h.1 a) (fun k m => k = 0 ∧ vp_in i m) ∧ K 30 L (h.2 a i.toNatClampNeg :: r) h cs ss) := by
  rw [dX7_claimFor_29, ey_ok, nx_iaload_57]
theorem qX7_claimFor_30 : ey FX7 ini rt fin K0 K (decode cX7_claimFor 30) 30 L (st) h cs ss = (lhas L 2 ∧ isI (lgt L 2) ∧ K 31 L (lgt L 2 :: st) h cs ss) := by
  rw [dX7_claimFor_30, ey_ok, nx_iload_n_1] <;> rfl
theorem qX7_claimFor_31 : ey FX7 ini rt fin K0 K (decode cX7_claimFor 31) 31 L (.int y :: .int x :: r) h cs ss = (if ¬ x = y then K 48 L r h cs ss else K 34 L r h cs ss) := by
  rw [dX7_claimFor_31, ey_ok, nx_if_icmp_37]
  exact and_l (by unfold jok; decide)
theorem qX7_claimFor_34 : ey FX7 ini rt fin K0 K (decode cX7_claimFor 34) 34 L (st) h cs ss = (lhas L 0 ∧ isRf (lgt L 0) ∧ K 35 L (lgt L 0 :: st) h cs ss) := by
  rw [dX7_claimFor_34, ey_ok, nx_aload_n_3] <;> rfl
theorem qX7_claimFor_35 : ey FX7 ini rt fin K0 K (decode cX7_claimFor 35) 35 L (.ref a :: r) h cs ss = (h.1 a = some (.inl 7) ∧ K 38 L (h.2 a 25 :: r) h cs ss) := by
  rw [dX7_claimFor_35, ey_ok, nx_getfield_54]
  exact and_l rfl
theorem qX7_claimFor_38 : ey FX7 ini rt fin K0 K (decode cX7_claimFor 38) 38 L (st) h cs ss = (lhas L 4 ∧ isI (lgt L 4) ∧ K 40 L (lgt L 4 :: st) h cs ss) := by
  rw [dX7_claimFor_38, ey_ok, nx_iload_0] <;> rfl
theorem qX7_claimFor_40 : ey FX7 ini rt fin K0 K (decode cX7_claimFor 40) 40 L (.int i :: .ref a :: r) h cs ss = (isA (h.1 a) (fun k m => k = 0 ∧ vp_in i m) ∧ K 41 L (h.2 a i.toNatClampNeg :: r) h cs ss) := by
  rw [dX7_claimFor_40, ey_ok, nx_iaload_57]
theorem qX7_claimFor_41 : ey FX7 ini rt fin K0 K (decode cX7_claimFor 41) 41 L (st) h cs ss = (lhas L 3 ∧ isI (lgt L 3) ∧ K 42 L (lgt L 3 :: st) h cs ss) := by
  rw [dX7_claimFor_41, ey_ok, nx_iload_n_1] <;> rfl
theorem qX7_claimFor_42 : ey FX7 ini rt fin K0 K (decode cX7_claimFor 42) 42 L (.int y :: .int x :: r) h cs ss = (if ¬ x = y then K 48 L r h cs ss else K 45 L r h cs ss) := by
  rw [dX7_claimFor_42, ey_ok, nx_if_icmp_37]
  exact and_l (by unfold jok; decide)
theorem qX7_claimFor_45 : ey FX7 ini rt fin K0 K (decode cX7_claimFor 45) 45 L (st) h cs ss = (lhas L 4 ∧ isI (lgt L 4) ∧ K 47 L (lgt L 4 :: st) h cs ss) := by
  rw [dX7_claimFor_45, ey_ok, nx_iload_0] <;> rfl
theorem qX7_claimFor_47 : ey FX7 ini rt fin K0 K (decode cX7_claimFor 47) 47 L ([.int x]) h cs ss = (rokI rt x ∧ fin (some (.int x)) h cs ss) := by
  rw [dX7_claimFor_47, ey_ok, nx_ireturn_68]
theorem qX7_claimFor_48 : ey FX7 ini rt fin K0 K (decode cX7_claimFor 48) 48 L (st) h cs ss = (lhas L 4 ∧ isI (lgt L 4) ∧ K 51 (L.set 4 (some (inc (lgt L 4) 1))) st h cs ss) := by
  rw [dX7_claimFor_48, ey_ok, nx_iinc_10] <;> rfl
theorem qX7_claimFor_51 : ey FX7 ini rt fin K0 K (decode cX7_claimFor 51) 51 L (st) h cs ss = (K 3 L st h cs ss) := by
  rw [dX7_claimFor_51, ey_ok, nx_goto_29]
  exact and_l (by unfold jok; decide)
theorem qX7_claimFor_54 : ey FX7 ini rt fin K0 K (decode cX7_claimFor 54) 54 L (st) h cs ss = (K 55 L (.int (-1) :: st) h cs ss) := by
  rw [dX7_claimFor_54, ey_ok, nx_iconst_11] <;> rfl
theorem qX7_claimFor_55 : ey FX7 ini rt fin K0 K (decode cX7_claimFor 55) 55 L ([.int x]) h cs ss = (rokI rt x ∧ fin (some (.int x)) h cs ss) := by
  rw [dX7_claimFor_55, ey_ok, nx_ireturn_68]
theorem qX7_make_0 : ey FX7 ini rt fin K0 K (decode cX7_make 0) 0 L (st) h cs ss = (lhas L 0 ∧ isRf (lgt L 0) ∧ K 1 L (lgt L 0 :: st) h cs ss) := by
  rw [dX7_make_0, ey_ok, nx_aload_n_3] <;> rfl
theorem qX7_make_1 : ey FX7 ini rt fin K0 K (decode cX7_make 1) 1 L (.ref a :: r) h cs ss = (h.1 a = some (.inl 7) ∧ K 4 L (h.2 a 22 :: r) h cs ss) := by
  rw [dX7_make_1, ey_ok, nx_getfield_54]
  exact and_l rfl
theorem qX7_make_4 : ey FX7 ini rt fin K0 K (decode cX7_make 4) 4 L (st) h cs ss = (K 7 L (.int 200 :: st) h cs ss) := by
  rw [dX7_make_4, ey_ok, nx_sipush_13] <;> rfl
theorem qX7_make_7 : ey FX7 ini rt fin K0 K (decode cX7_make 7) 7 L (.int y :: .int x :: r) h cs ss = (if y ≤ x then K 60 L r h cs ss else K 10 L r h cs ss) := by
  rw [dX7_make_7, ey_ok, nx_if_icmp_39]
  exact and_l (by unfold jok; decide)
theorem qX7_make_10 : ey FX7 ini rt fin K0 K (decode cX7_make 10) 10 L (st) h cs ss = (lhas L 0 ∧ isRf (lgt L 0) ∧ K 11 L (lgt L 0 :: st) h cs ss) := by
  rw [dX7_make_10, ey_ok, nx_aload_n_3] <;> rfl
theorem qX7_make_11 : ey FX7 ini rt fin K0 K (decode cX7_make 11) 11 L (.ref a :: r) h cs ss = (h.1 a = some (.inl 7) ∧ K 14 L (h.2 a 23 :: r) h cs ss) := by
  rw [dX7_make_11, ey_ok, nx_getfield_54]
  exact and_l rfl
theorem qX7_make_14 : ey FX7 ini rt fin K0 K (decode cX7_make 14) 14 L (st) h cs ss = (lhas L 0 ∧ isRf (lgt L 0) ∧ K 15 L (lgt L 0 :: st) h cs ss) := by
  rw [dX7_make_14, ey_ok, nx_aload_n_3] <;> rfl
theorem qX7_make_15 : ey FX7 ini rt fin K0 K (decode cX7_make 15) 15 L (.ref a :: r) h cs ss = (h.1 a = some (.inl 7) ∧ K 18 L (h.2 a 22 :: r) h cs ss) := by
  rw [dX7_make_15, ey_ok, nx_getfield_54]
  exact and_l rfl
theorem qX7_make_18 : ey FX7 ini rt fin K0 K (decode cX7_make 18) 18 L (st) h cs ss = (lhas L 1 ∧ isI (lgt L 1) ∧ K 19 L (lgt L 1 :: st) h cs ss) := by
  rw [dX7_make_18, ey_ok, nx_iload_n_1] <;> rfl
theorem qX7_make_19 : ey FX7 ini rt fin K0 K (decode cX7_make 19) 19 L (.int x :: .int i :: .ref a :: r) h cs ss = (isA (h.1 a) (fun k m => k = 0 ∧ vp_in i m) ∧ K 20 L r (h.1, hup h.2 a i.toNatClampNeg (.int x)) cs ss) := by
  rw [dX7_make_19, ey_ok, nx_iastore_62]
theorem qX7_make_20 : ey FX7 ini rt fin K0 K (decode cX7_make 20) 20 L (st) h cs ss = (lhas L 0 ∧ isRf (lgt L 0) ∧ K 21 L (lgt L 0 :: st) h cs ss) := by
  rw [dX7_make_20, ey_ok, nx_aload_n_3] <;> rfl
theorem qX7_make_21 : ey FX7 ini rt fin K0 K (decode cX7_make 21) 21 L (.ref a :: r) h cs ss = (h.1 a = some (.inl 7) ∧ K 24 L (h.2 a 24 :: r) h cs ss) := by
  rw [dX7_make_21, ey_ok, nx_getfield_54]
  exact and_l rfl
theorem qX7_make_24 : ey FX7 ini rt fin K0 K (decode cX7_make 24) 24 L (st) h cs ss = (lhas L 0 ∧ isRf (lgt L 0) ∧ K 25 L (lgt L 0 :: st) h cs ss) := by
  rw [dX7_make_24, ey_ok, nx_aload_n_3] <;> rfl
theorem qX7_make_25 : ey FX7 ini rt fin K0 K (decode cX7_make 25) 25 L (.ref a :: r) h cs ss = (h.1 a = some (.inl 7) ∧ K 28 L (h.2 a 22 :: r) h cs ss) := by
  rw [dX7_make_25, ey_ok, nx_getfield_54]
  exact and_l rfl
theorem qX7_make_28 : ey FX7 ini rt fin K0 K (decode cX7_make 28) 28 L (st) h cs ss = (lhas L 2 ∧ isI (lgt L 2) ∧ K 29 L (lgt L 2 :: st) h cs ss) := by
  rw [dX7_make_28, ey_ok, nx_iload_n_1] <;> rfl
theorem qX7_make_29 : ey FX7 ini rt fin K0 K (decode cX7_make 29) 29 L (.int x :: .int i :: .ref a :: r) h cs ss = (isA (h.1 a) (fun k m => k = 0 ∧ vp_in i m) ∧ K 30 L r (h.1, hup h.2 a i.toNatClampNeg (.int x)) cs ss) := by
  rw [dX7_make_29, ey_ok, nx_iastore_62]
theorem qX7_make_30 : ey FX7 ini rt fin K0 K (decode cX7_make 30) 30 L (st) h cs ss = (lhas L 0 ∧ isRf (lgt L 0) ∧ K 31 L (lgt L 0 :: st) h cs ss) := by
  rw [dX7_make_30, ey_ok, nx_aload_n_3] <;> rfl
theorem qX7_make_31 : ey FX7 ini rt fin K0 K (decode cX7_make 31) 31 L (.ref a :: r) h cs ss = (h.1 a = some (.inl 7) ∧ K 34 L (h.2 a 25 :: r) h cs ss) := by
  rw [dX7_make_31, ey_ok, nx_getfield_54]
  exact and_l rfl
theorem qX7_make_34 : ey FX7 ini rt fin K0 K (decode cX7_make 34) 34 L (st) h cs ss = (lhas L 0 ∧ isRf (lgt L 0) ∧ K 35 L (lgt L 0 :: st) h cs ss) := by
  rw [dX7_make_34, ey_ok, nx_aload_n_3] <;> rfl
theorem qX7_make_35 : ey FX7 ini rt fin K0 K (decode cX7_make 35) 35 L (.ref a :: r) h cs ss = (h.1 a = some (.inl 7) ∧ K 38 L (h.2 a 22 :: r) h cs ss) := by
  rw [dX7_make_35, ey_ok, nx_getfield_54]
  exact and_l rfl
theorem qX7_make_38 : ey FX7 ini rt fin K0 K (decode cX7_make 38) 38 L (st) h cs ss = (lhas L 3 ∧ isI (lgt L 3) ∧ K 39 L (lgt L 3 :: st) h cs ss) := by
  rw [dX7_make_38, ey_ok, nx_iload_n_1] <;> rfl
theorem qX7_make_39 : ey FX7 ini rt fin K0 K (decode cX7_make 39) 39 L (.int x :: .int i :: .ref a :: r) h cs ss = (isA (h.1 a) (fun k m => k = 0 ∧ vp_in i m) ∧ K 40 L r (h.1, hup h.2 a i.toNatClampNeg (.int x)) cs ss) := by
  rw [dX7_make_39, ey_ok, nx_iastore_62]
theorem qX7_make_40 : ey FX7 ini rt fin K0 K (decode cX7_make 40) 40 L (st) h cs ss = (lhas L 0 ∧ isRf (lgt L 0) ∧ K 41 L (lgt L 0 :: st) h cs ss) := by
  rw [dX7_make_40, ey_ok, nx_aload_n_3] <;> rfl
theorem qX7_make_41 : ey FX7 ini rt fin K0 K (decode cX7_make 41) 41 L (.ref a :: r) h cs ss = (h.1 a = some (.inl 7) ∧ K 44 L (h.2 a 26 :: r) h cs ss) := by
  rw [dX7_make_41, ey_ok, nx_getfield_54]
  exact and_l rfl
theorem qX7_make_44 : ey FX7 ini rt fin K0 K (decode cX7_make 44) 44 L (st) h cs ss = (lhas L 0 ∧ isRf (lgt L 0) ∧ K 45 L (lgt L 0 :: st) h cs ss) := by
  rw [dX7_make_44, ey_ok, nx_aload_n_3] <;> rfl
theorem qX7_make_45 : ey FX7 ini rt fin K0 K (decode cX7_make 45) 45 L (.ref a :: r) h cs ss = (h.1 a = some (.inl 7) ∧ K 48 L (h.2 a 22 :: r) h cs ss) := by
  rw [dX7_make_45, ey_ok, nx_getfield_54]
  exact and_l rfl
theorem qX7_make_48 : ey FX7 ini rt fin K0 K (decode cX7_make 48) 48 L (st) h cs ss = (K 49 L (.int 0 :: st) h cs ss) := by
  rw [dX7_make_48, ey_ok, nx_iconst_11] <;> rfl
theorem qX7_make_49 : ey FX7 ini rt fin K0 K (decode cX7_make 49) 49 L (.int x :: .int i :: .ref a :: r) h cs ss = (isA (h.1 a) (fun k m => k = 0 ∧ vp_in i m) ∧ K 50 L r (h.1, hup h.2 a i.toNatClampNeg (.int x)) cs ss) := by
  rw [dX7_make_49, ey_ok, nx_iastore_62]
theorem qX7_make_50 : ey FX7 ini rt fin K0 K (decode cX7_make 50) 50 L (st) h cs ss = (lhas L 0 ∧ isRf (lgt L 0) ∧ K 51 L (lgt L 0 :: st) h cs ss) := by
  rw [dX7_make_50, ey_ok, nx_aload_n_3] <;> rfl
theorem qX7_make_51 : ey FX7 ini rt fin K0 K (decode cX7_make 51) 51 L (v :: r) h cs ss = (v.category = 1 ∧ K 52 L (v :: v :: r) h cs ss) := by
  rw [dX7_make_51, ey_ok, nx_dup_27]
theorem qX7_make_52 : ey FX7 ini rt fin K0 K (decode cX7_make 52) 52 L (.ref a :: r) h cs ss = (h.1 a = some (.inl 7) ∧ K 55 L (h.2 a 22 :: r) h cs ss) := by
  rw [dX7_make_52, ey_ok, nx_getfield_54]
  exact and_l rfl
theorem qX7_make_55 : ey FX7 ini rt fin K0 K (decode cX7_make 55) 55 L (st) h cs ss = (K 56 L (.int 1 :: st) h cs ss) := by
  rw [dX7_make_55, ey_ok, nx_iconst_11] <;> rfl
theorem qX7_make_56 : ey FX7 ini rt fin K0 K (decode cX7_make 56) 56 L (.int y :: .int x :: r) h cs ss = (K 57 L (.int (x + y) :: r) h cs ss) := by
  rw [dX7_make_56, ey_ok, nx_iadd_16]
theorem qX7_make_57 : ey FX7 ini rt fin K0 K (decode cX7_make 57) 57 L (v :: .ref a :: r) h cs ss = (h.1 a = some (.inl 7) ∧ okv (.int) v ∧ K 60 L r (h.1, hup h.2 a 22 v) cs ss) := by
  rw [dX7_make_57, ey_ok, nx_putfield_55]
  exact (and_l rfl).trans (and_m (fun z => nomatch z))
theorem qX7_make_60 : ey FX7 ini rt fin K0 K (decode cX7_make 60) 60 L ([]) h cs ss = (rt = none ∧ fin none h cs ss) := by
  rw [dX7_make_60, ey_ok, nx_return__71]
theorem qX7_judge_0 : ey FX7 ini rt fin K0 K (decode cX7_judge 0) 0 L (st) h cs ss = (K 1 L (.int 0 :: st) h cs ss) := by
  rw [dX7_judge_0, ey_ok, nx_iconst_11] <;> rfl
theorem qX7_judge_1 : ey FX7 ini rt fin K0 K (decode cX7_judge 1) 1 L (.int x :: r) h cs ss = (1 < L.length ∧ K 2 (L.set 1 (some (.int x))) r h cs ss) := by
  rw [dX7_judge_1, ey_ok, nx_istore_n_5] <;> rfl
theorem qX7_judge_2 : ey FX7 ini rt fin K0 K (decode cX7_judge 2) 2 L (st) h cs ss = (K 3 L (.int 0 :: st) h cs ss) := by
  rw [dX7_judge_2, ey_ok, nx_iconst_11] <;> rfl
theorem qX7_judge_3 : ey FX7 ini rt fin K0 K (decode cX7_judge 3) 3 L (.int x :: r) h cs ss = (2 < L.length ∧ K 4 (L.set 2 (some (.int x))) r h cs ss) := by
  rw [dX7_judge_3, ey_ok, nx_istore_n_5] <;> rfl
theorem qX7_judge_4 : ey FX7 ini rt fin K0 K (decode cX7_judge 4) 4 L (st) h cs ss = (lhas L 2 ∧ isI (lgt L 2) ∧ K 5 L (lgt L 2 :: st) h cs ss) := by
  rw [dX7_judge_4, ey_ok, nx_iload_n_1] <;> rfl
theorem qX7_judge_5 : ey FX7 ini rt fin K0 K (decode cX7_judge 5) 5 L (st) h cs ss = (lhas L 0 ∧ isRf (lgt L 0) ∧ K 6 L (lgt L 0 :: st) h cs ss) := by
  rw [dX7_judge_5, ey_ok, nx_aload_n_3] <;> rfl
theorem qX7_judge_6 : ey FX7 ini rt fin K0 K (decode cX7_judge 6) 6 L (.ref a :: r) h cs ss = (h.1 a = some (.inl 7) ∧ K 9 L (h.2 a 22 :: r) h cs ss) := by
  rw [dX7_judge_6, ey_ok, nx_getfield_54]
  exact and_l rfl
theorem qX7_judge_9 : ey FX7 ini rt fin K0 K (decode cX7_judge 9) 9 L (.int y :: .int x :: r) h cs ss = (if y ≤ x then K 100 L r h cs ss else K 12 L r h cs ss) := by
  rw [dX7_judge_9, ey_ok, nx_if_icmp_39]
  exact and_l (by unfold jok; decide)
theorem qX7_judge_12 : ey FX7 ini rt fin K0 K (decode cX7_judge 12) 12 L (st) h cs ss = (lhas L 0 ∧ isRf (lgt L 0) ∧ K 13 L (lgt L 0 :: st) h cs ss) := by
  rw [dX7_judge_12, ey_ok, nx_aload_n_3] <;> rfl
theorem qX7_judge_13 : ey FX7 ini rt fin K0 K (decode cX7_judge 13) 13 L (.ref a :: r) h cs ss = (h.1 a = some (.inl 7) ∧ K 16 L (h.2 a 7 :: r) h cs ss) := by
  rw [dX7_judge_13, ey_ok, nx_getfield_54]
  exact and_l rfl
theorem qX7_judge_16 : ey FX7 ini rt fin K0 K (decode cX7_judge 16) 16 L (st) h cs ss = (lhas L 0 ∧ isRf (lgt L 0) ∧ K 17 L (lgt L 0 :: st) h cs ss) := by
  rw [dX7_judge_16, ey_ok, nx_aload_n_3] <;> rfl
theorem qX7_judge_17 : ey FX7 ini rt fin K0 K (decode cX7_judge 17) 17 L (.ref a :: r) h cs ss = (h.1 a = some (.inl 7) ∧ K 20 L (h.2 a 24 :: r) h cs ss) := by
  rw [dX7_judge_17, ey_ok, nx_getfield_54]
  exact and_l rfl
theorem qX7_judge_20 : ey FX7 ini rt fin K0 K (decode cX7_judge 20) 20 L (st) h cs ss = (lhas L 2 ∧ isI (lgt L 2) ∧ K 21 L (lgt L 2 :: st) h cs ss) := by
  rw [dX7_judge_20, ey_ok, nx_iload_n_1] <;> rfl
theorem qX7_judge_21 : ey FX7 ini rt fin K0 K (decode cX7_judge 21) 21 L (.int i :: .ref a :: r) h cs ss = (isA (h.1 a) (fun k m => k = 0 ∧ vp_in i m) ∧ K 22 L (h.2 a i.toNatClampNeg :: r) h cs ss) := by
  rw [dX7_judge_21, ey_ok, nx_iaload_57]
theorem qX7_judge_22 : ey FX7 ini rt fin K0 K (decode cX7_judge 22) 22 L (.int i :: .ref a :: r) h cs ss = (isA (h.1 a) (fun k m => k = 0 ∧ vp_in i m) ∧ K 23 L (h.2 a i.toNatClampNeg :: r) h cs ss) := by
  rw [dX7_judge_22, ey_ok, nx_iaload_57]
theorem qX7_judge_23 : ey FX7 ini rt fin K0 K (decode cX7_judge 23) 23 L (st) h cs ss = (lhas L 0 ∧ isRf (lgt L 0) ∧ K 24 L (lgt L 0 :: st) h cs ss) := by
  rw [dX7_judge_23, ey_ok, nx_aload_n_3] <;> rfl
theorem qX7_judge_24 : ey FX7 ini rt fin K0 K (decode cX7_judge 24) 24 L (.ref a :: r) h cs ss = (h.1 a = some (.inl 7) ∧ K 27 L (h.2 a 23 :: r) h cs ss) := by
  rw [dX7_judge_24, ey_ok, nx_getfield_54]
  exact and_l rfl
theorem qX7_judge_27 : ey FX7 ini rt fin K0 K (decode cX7_judge 27) 27 L (st) h cs ss = (lhas L 2 ∧ isI (lgt L 2) ∧ K 28 L (lgt L 2 :: st) h cs ss) := by
  rw [dX7_judge_27, ey_ok, nx_iload_n_1] <;> rfl
theorem qX7_judge_28 : ey FX7 ini rt fin K0 K (decode cX7_judge 28) 28 L (.int i :: .ref a :: r) h cs ss = (isA (h.1 a) (fun k m => k = 0 ∧ vp_in i m) ∧ K 29 L (h.2 a i.toNatClampNeg :: r) h cs ss) := by
  rw [dX7_judge_28, ey_ok, nx_iaload_57]
theorem qX7_judge_29 : ey FX7 ini rt fin K0 K (decode cX7_judge 29) 29 L (.int y :: .int x :: r) h cs ss = (if ¬ x = y then K 55 L r h cs ss else K 32 L r h cs ss) := by
  rw [dX7_judge_29, ey_ok, nx_if_icmp_37]
  exact and_l (by unfold jok; decide)
theorem qX7_judge_32 : ey FX7 ini rt fin K0 K (decode cX7_judge 32) 32 L (st) h cs ss = (lhas L 0 ∧ isRf (lgt L 0) ∧ K 33 L (lgt L 0 :: st) h cs ss) := by
  rw [dX7_judge_32, ey_ok, nx_aload_n_3] <;> rfl
theorem qX7_judge_33 : ey FX7 ini rt fin K0 K (decode cX7_judge 33) 33 L (st) h cs ss = (lhas L 0 ∧ isRf (lgt L 0) ∧ K 34 L (lgt L 0 :: st) h cs ss) := by
  rw [dX7_judge_33, ey_ok, nx_aload_n_3] <;> rfl
theorem qX7_judge_34 : ey FX7 ini rt fin K0 K (decode cX7_judge 34) 34 L (.ref a :: r) h cs ss = (h.1 a = some (.inl 7) ∧ K 37 L (h.2 a 24 :: r) h cs ss) := by
  rw [dX7_judge_34, ey_ok, nx_getfield_54]
  exact and_l rfl
theorem qX7_judge_37 : ey FX7 ini rt fin K0 K (decode cX7_judge 37) 37 L (st) h cs ss = (lhas L 2 ∧ isI (lgt L 2) ∧ K 38 L (lgt L 2 :: st) h cs ss) := by
  rw [dX7_judge_37, ey_ok, nx_iload_n_1] <;> rfl
theorem qX7_judge_38 : ey FX7 ini rt fin K0 K (decode cX7_judge 38) 38 L (.int i :: .ref a :: r) h cs ss = (isA (h.1 a) (fun k m => k = 0 ∧ vp_in i m) ∧ K 39 L (h.2 a i.toNatClampNeg :: r) h cs ss) := by
  rw [dX7_judge_38, ey_ok, nx_iaload_57]
theorem qX7_judge_39 : ey FX7 ini rt fin K0 K (decode cX7_judge 39) 39 L (st) h cs ss = (lhas L 0 ∧ isRf (lgt L 0) ∧ K 40 L (lgt L 0 :: st) h cs ss) := by
  rw [dX7_judge_39, ey_ok, nx_aload_n_3] <;> rfl
theorem qX7_judge_40 : ey FX7 ini rt fin K0 K (decode cX7_judge 40) 40 L (.ref a :: r) h cs ss = (h.1 a = some (.inl 7) ∧ K 43 L (h.2 a 25 :: r) h cs ss) := by
  rw [dX7_judge_40, ey_ok, nx_getfield_54]
  exact and_l rfl
theorem qX7_judge_43 : ey FX7 ini rt fin K0 K (decode cX7_judge 43) 43 L (st) h cs ss = (lhas L 2 ∧ isI (lgt L 2) ∧ K 44 L (lgt L 2 :: st) h cs ss) := by
  rw [dX7_judge_43, ey_ok, nx_iload_n_1] <;> rfl
theorem qX7_judge_44 : ey FX7 ini rt fin K0 K (decode cX7_judge 44) 44 L (.int i :: .ref a :: r) h cs ss = (isA (h.1 a) (fun k m => k = 0 ∧ vp_in i m) ∧ K 45 L (h.2 a i.toNatClampNeg :: r) h cs ss) := by
  rw [dX7_judge_44, ey_ok, nx_iaload_57]
theorem qX7_judge_45 : ey FX7 ini rt fin K0 K (decode cX7_judge 45) 45 L (st) h cs ss = (K0 45 L st h cs ss) := by
  rw [dX7_judge_45, ey_ok, nx_invokevirtual_72]
theorem qX7_judge_48 : ey FX7 ini rt fin K0 K (decode cX7_judge 48) 48 L (.int x :: r) h cs ss = (if x = 0 then K 55 L r h cs ss else K 51 L r h cs ss) := by
  rw [dX7_judge_48, ey_ok, nx_ifond_30]
  exact and_l (by unfold jok; decide)
theorem qX7_judge_51 : ey FX7 ini rt fin K0 K (decode cX7_judge 51) 51 L (st) h cs ss = (K 52 L (.int 1 :: st) h cs ss) := by
  rw [dX7_judge_51, ey_ok, nx_iconst_11] <;> rfl
theorem qX7_judge_52 : ey FX7 ini rt fin K0 K (decode cX7_judge 52) 52 L (st) h cs ss = (K 56 L st h cs ss) := by
  rw [dX7_judge_52, ey_ok, nx_goto_29]
  exact and_l (by unfold jok; decide)
theorem qX7_judge_55 : ey FX7 ini rt fin K0 K (decode cX7_judge 55) 55 L (st) h cs ss = (K 56 L (.int 0 :: st) h cs ss) := by
  rw [dX7_judge_55, ey_ok, nx_iconst_11] <;> rfl
theorem qX7_judge_56 : ey FX7 ini rt fin K0 K (decode cX7_judge 56) 56 L (.int x :: r) h cs ss = (3 < L.length ∧ K 57 (L.set 3 (some (.int x))) r h cs ss) := by
  rw [dX7_judge_56, ey_ok, nx_istore_n_5] <;> rfl
theorem qX7_judge_57 : ey FX7 ini rt fin K0 K (decode cX7_judge 57) 57 L (st) h cs ss = (lhas L 3 ∧ isI (lgt L 3) ∧ K 58 L (lgt L 3 :: st) h cs ss) := by
  rw [dX7_judge_57, ey_ok, nx_iload_n_1] <;> rfl
theorem qX7_judge_58 : ey FX7 ini rt fin K0 K (decode cX7_judge 58) 58 L (.int x :: r) h cs ss = (if ¬ x = 0 then K 94 L r h cs ss else K 61 L r h cs ss) := by
  rw [dX7_judge_58, ey_ok, nx_ifond_31]
  exact and_l (by unfold jok; decide)
theorem qX7_judge_61 : ey FX7 ini rt fin K0 K (decode cX7_judge 61) 61 L (st) h cs ss = (lhas L 0 ∧ isRf (lgt L 0) ∧ K 62 L (lgt L 0 :: st) h cs ss) := by
  rw [dX7_judge_61, ey_ok, nx_aload_n_3] <;> rfl
theorem qX7_judge_62 : ey FX7 ini rt fin K0 K (decode cX7_judge 62) 62 L (.ref a :: r) h cs ss = (h.1 a = some (.inl 7) ∧ K 65 L (h.2 a 26 :: r) h cs ss) := by
  rw [dX7_judge_62, ey_ok, nx_getfield_54]
  exact and_l rfl
theorem qX7_judge_65 : ey FX7 ini rt fin K0 K (decode cX7_judge 65) 65 L (st) h cs ss = (lhas L 2 ∧ isI (lgt L 2) ∧ K 66 L (lgt L 2 :: st) h cs ss) := by
  rw [dX7_judge_65, ey_ok, nx_iload_n_1] <;> rfl
theorem qX7_judge_66 : ey FX7 ini rt fin K0 K (decode cX7_judge 66) 66 L (.int i :: .ref a :: r) h cs ss = (isA (h.1 a) (fun k m => k = 0 ∧ vp_in i m) ∧ K 67 L (h.2 a i.toNatClampNeg :: r) h cs ss) := by
  rw [dX7_judge_66, ey_ok, nx_iaload_57]
theorem qX7_judge_67 : ey FX7 ini rt fin K0 K (decode cX7_judge 67) 67 L (st) h cs ss = (K 68 L (.int 2 :: st) h cs ss) := by
  rw [dX7_judge_67, ey_ok, nx_iconst_11] <;> rfl
theorem qX7_judge_68 : ey FX7 ini rt fin K0 K (decode cX7_judge 68) 68 L (.int y :: .int x :: r) h cs ss = (if y ≤ x then K 94 L r h cs ss else K 71 L r h cs ss) := by
  rw [dX7_judge_68, ey_ok, nx_if_icmp_39]
  exact and_l (by unfold jok; decide)
theorem qX7_judge_71 : ey FX7 ini rt fin K0 K (decode cX7_judge 71) 71 L (st) h cs ss = (lhas L 0 ∧ isRf (lgt L 0) ∧ K 72 L (lgt L 0 :: st) h cs ss) := by
  rw [dX7_judge_71, ey_ok, nx_aload_n_3] <;> rfl
theorem qX7_judge_72 : ey FX7 ini rt fin K0 K (decode cX7_judge 72) 72 L (.ref a :: r) h cs ss = (h.1 a = some (.inl 7) ∧ K 75 L (h.2 a 26 :: r) h cs ss) := by
  rw [dX7_judge_72, ey_ok, nx_getfield_54]
  exact and_l rfl
theorem qX7_judge_75 : ey FX7 ini rt fin K0 K (decode cX7_judge 75) 75 L (st) h cs ss = (lhas L 2 ∧ isI (lgt L 2) ∧ K 76 L (lgt L 2 :: st) h cs ss) := by
  rw [dX7_judge_75, ey_ok, nx_iload_n_1] <;> rfl
theorem qX7_judge_76 : ey FX7 ini rt fin K0 K (decode cX7_judge 76) 76 L (st) h cs ss = (lhas L 0 ∧ isRf (lgt L 0) ∧ K 77 L (lgt L 0 :: st) h cs ss) := by
  rw [dX7_judge_76, ey_ok, nx_aload_n_3] <;> rfl
theorem qX7_judge_77 : ey FX7 ini rt fin K0 K (decode cX7_judge 77) 77 L (.ref a :: r) h cs ss = (h.1 a = some (.inl 7) ∧ K 80 L (h.2 a 26 :: r) h cs ss) := by
  rw [dX7_judge_77, ey_ok, nx_getfield_54]
  exact and_l rfl
theorem qX7_judge_80 : ey FX7 ini rt fin K0 K (decode cX7_judge 80) 80 L (st) h cs ss = (lhas L 2 ∧ isI (lgt L 2) ∧ K 81 L (lgt L 2 :: st) h cs ss) := by
  rw [dX7_judge_80, ey_ok, nx_iload_n_1] <;> rfl
theorem qX7_judge_81 : ey FX7 ini rt fin K0 K (decode cX7_judge 81) 81 L (.int i :: .ref a :: r) h cs ss = (isA (h.1 a) (fun k m => k = 0 ∧ vp_in i m) ∧ K 82 L (h.2 a i.toNatClampNeg :: r) h cs ss) := by
  rw [dX7_judge_81, ey_ok, nx_iaload_57]
theorem qX7_judge_82 : ey FX7 ini rt fin K0 K (decode cX7_judge 82) 82 L (.int x :: r) h cs ss = (if ¬ x = 0 then K 89 L r h cs ss else K 85 L r h cs ss) := by
  rw [dX7_judge_82, ey_ok, nx_ifond_31]
  exact and_l (by unfold jok; decide)
theorem qX7_judge_85 : ey FX7 ini rt fin K0 K (decode cX7_judge 85) 85 L (st) h cs ss = (K 86 L (.int 2 :: st) h cs ss) := by
  rw [dX7_judge_85, ey_ok, nx_iconst_11] <;> rfl
theorem qX7_judge_86 : ey FX7 ini rt fin K0 K (decode cX7_judge 86) 86 L (st) h cs ss = (K 90 L st h cs ss) := by
  rw [dX7_judge_86, ey_ok, nx_goto_29]
  exact and_l (by unfold jok; decide)
theorem qX7_judge_89 : ey FX7 ini rt fin K0 K (decode cX7_judge 89) 89 L (st) h cs ss = (K 90 L (.int 3 :: st) h cs ss) := by
  rw [dX7_judge_89, ey_ok, nx_iconst_11] <;> rfl
theorem qX7_judge_90 : ey FX7 ini rt fin K0 K (decode cX7_judge 90) 90 L (.int x :: .int i :: .ref a :: r) h cs ss = (isA (h.1 a) (fun k m => k = 0 ∧ vp_in i m) ∧ K 91 L r (h.1, hup h.2 a i.toNatClampNeg (.int x)) cs ss) := by
  rw [dX7_judge_90, ey_ok, nx_iastore_62]
theorem qX7_judge_91 : ey FX7 ini rt fin K0 K (decode cX7_judge 91) 91 L (st) h cs ss = (lhas L 1 ∧ isI (lgt L 1) ∧ K 94 (L.set 1 (some (inc (lgt L 1) 1))) st h cs ss) := by
  rw [dX7_judge_91, ey_ok, nx_iinc_10] <;> rfl
theorem qX7_judge_94 : ey FX7 ini rt fin K0 K (decode cX7_judge 94) 94 L (st) h cs ss = (lhas L 2 ∧ isI (lgt L 2) ∧ K 97 (L.set 2 (some (inc (lgt L 2) 1))) st h cs ss) := by
  rw [dX7_judge_94, ey_ok, nx_iinc_10] <;> rfl
theorem qX7_judge_97 : ey FX7 ini rt fin K0 K (decode cX7_judge 97) 97 L (st) h cs ss = (K 4 L st h cs ss) := by
  rw [dX7_judge_97, ey_ok, nx_goto_29]
  exact and_l (by unfold jok; decide)
theorem qX7_judge_100 : ey FX7 ini rt fin K0 K (decode cX7_judge 100) 100 L (st) h cs ss = (K 101 L (.int 0 :: st) h cs ss) := by
  rw [dX7_judge_100, ey_ok, nx_iconst_11] <;> rfl
theorem qX7_judge_101 : ey FX7 ini rt fin K0 K (decode cX7_judge 101) 101 L (.int x :: r) h cs ss = (2 < L.length ∧ K 102 (L.set 2 (some (.int x))) r h cs ss) := by
  rw [dX7_judge_101, ey_ok, nx_istore_n_5] <;> rfl
theorem qX7_judge_102 : ey FX7 ini rt fin K0 K (decode cX7_judge 102) 102 L (st) h cs ss = (lhas L 2 ∧ isI (lgt L 2) ∧ K 103 L (lgt L 2 :: st) h cs ss) := by
  rw [dX7_judge_102, ey_ok, nx_iload_n_1] <;> rfl
theorem qX7_judge_103 : ey FX7 ini rt fin K0 K (decode cX7_judge 103) 103 L (st) h cs ss = (lhas L 0 ∧ isRf (lgt L 0) ∧ K 104 L (lgt L 0 :: st) h cs ss) := by
  rw [dX7_judge_103, ey_ok, nx_aload_n_3] <;> rfl
theorem qX7_judge_104 : ey FX7 ini rt fin K0 K (decode cX7_judge 104) 104 L (.ref a :: r) h cs ss = (h.1 a = some (.inl 7) ∧ K 107 L (h.2 a 3 :: r) h cs ss) := by
  rw [dX7_judge_104, ey_ok, nx_getfield_54]
  exact and_l rfl
theorem qX7_judge_107 : ey FX7 ini rt fin K0 K (decode cX7_judge 107) 107 L (.int y :: .int x :: r) h cs ss = (if y ≤ x then K 220 L r h cs ss else K 110 L r h cs ss) := by
  rw [dX7_judge_107, ey_ok, nx_if_icmp_39]
  exact and_l (by unfold jok; decide)
theorem qX7_judge_110 : ey FX7 ini rt fin K0 K (decode cX7_judge 110) 110 L (st) h cs ss = (K 111 L (.int 0 :: st) h cs ss) := by
  rw [dX7_judge_110, ey_ok, nx_iconst_11] <;> rfl
theorem qX7_judge_111 : ey FX7 ini rt fin K0 K (decode cX7_judge 111) 111 L (.int x :: r) h cs ss = (3 < L.length ∧ K 112 (L.set 3 (some (.int x))) r h cs ss) := by
  rw [dX7_judge_111, ey_ok, nx_istore_n_5] <;> rfl
theorem qX7_judge_112 : ey FX7 ini rt fin K0 K (decode cX7_judge 112) 112 L (st) h cs ss = (lhas L 3 ∧ isI (lgt L 3) ∧ K 113 L (lgt L 3 :: st) h cs ss) := by
  rw [dX7_judge_112, ey_ok, nx_iload_n_1] <;> rfl
theorem qX7_judge_113 : ey FX7 ini rt fin K0 K (decode cX7_judge 113) 113 L (st) h cs ss = (lhas L 0 ∧ isRf (lgt L 0) ∧ K 114 L (lgt L 0 :: st) h cs ss) := by
  rw [dX7_judge_113, ey_ok, nx_aload_n_3] <;> rfl
theorem qX7_judge_114 : ey FX7 ini rt fin K0 K (decode cX7_judge 114) 114 L (.ref a :: r) h cs ss = (h.1 a = some (.inl 7) ∧ K 117 L (h.2 a 16 :: r) h cs ss) := by
  rw [dX7_judge_114, ey_ok, nx_getfield_54]
  exact and_l rfl
theorem qX7_judge_117 : ey FX7 ini rt fin K0 K (decode cX7_judge 117) 117 L (.int y :: .int x :: r) h cs ss = (if y ≤ x then K 214 L r h cs ss else K 120 L r h cs ss) := by
  rw [dX7_judge_117, ey_ok, nx_if_icmp_39]
  exact and_l (by unfold jok; decide)
theorem qX7_judge_120 : ey FX7 ini rt fin K0 K (decode cX7_judge 120) 120 L (st) h cs ss = (lhas L 0 ∧ isRf (lgt L 0) ∧ K 121 L (lgt L 0 :: st) h cs ss) := by
  rw [dX7_judge_120, ey_ok, nx_aload_n_3] <;> rfl
theorem qX7_judge_121 : ey FX7 ini rt fin K0 K (decode cX7_judge 121) 121 L (st) h cs ss = (lhas L 2 ∧ isI (lgt L 2) ∧ K 122 L (lgt L 2 :: st) h cs ss) := by
  rw [dX7_judge_121, ey_ok, nx_iload_n_1] <;> rfl
theorem qX7_judge_122 : ey FX7 ini rt fin K0 K (decode cX7_judge 122) 122 L (st) h cs ss = (lhas L 3 ∧ isI (lgt L 3) ∧ K 123 L (lgt L 3 :: st) h cs ss) := by
  rw [dX7_judge_122, ey_ok, nx_iload_n_1] <;> rfl
theorem qX7_judge_123 : ey FX7 ini rt fin K0 K (decode cX7_judge 123) 123 L (st) h cs ss = (K0 123 L st h cs ss) := by
  rw [dX7_judge_123, ey_ok, nx_invokevirtual_72]
theorem qX7_judge_126 : ey FX7 ini rt fin K0 K (decode cX7_judge 126) 126 L (.int x :: r) h cs ss = (if x = 0 then K 208 L r h cs ss else K 129 L r h cs ss) := by
  rw [dX7_judge_126, ey_ok, nx_ifond_30]
  exact and_l (by unfold jok; decide)
theorem qX7_judge_129 : ey FX7 ini rt fin K0 K (decode cX7_judge 129) 129 L (st) h cs ss = (lhas L 0 ∧ isRf (lgt L 0) ∧ K 130 L (lgt L 0 :: st) h cs ss) := by
  rw [dX7_judge_129, ey_ok, nx_aload_n_3] <;> rfl
theorem qX7_judge_130 : ey FX7 ini rt fin K0 K (decode cX7_judge 130) 130 L (st) h cs ss = (lhas L 0 ∧ isRf (lgt L 0) ∧ K 131 L (lgt L 0 :: st) h cs ss) := by
  rw [dX7_judge_130, ey_ok, nx_aload_n_3] <;> rfl
theorem qX7_judge_131 : ey FX7 ini rt fin K0 K (decode cX7_judge 131) 131 L (.ref a :: r) h cs ss = (h.1 a = some (.inl 7) ∧ K 134 L (h.2 a 7 :: r) h cs ss) := by
  rw [dX7_judge_131, ey_ok, nx_getfield_54]
  exact and_l rfl
theorem qX7_judge_134 : ey FX7 ini rt fin K0 K (decode cX7_judge 134) 134 L (st) h cs ss = (lhas L 2 ∧ isI (lgt L 2) ∧ K 135 L (lgt L 2 :: st) h cs ss) := by
  rw [dX7_judge_134, ey_ok, nx_iload_n_1] <;> rfl
theorem qX7_judge_135 : ey FX7 ini rt fin K0 K (decode cX7_judge 135) 135 L (.int i :: .ref a :: r) h cs ss = (isA (h.1 a) (fun k m => k = 0 ∧ vp_in i m) ∧ K 136 L (h.2 a i.toNatClampNeg :: r) h cs ss) := by
  rw [dX7_judge_135, ey_ok, nx_iaload_57]
theorem qX7_judge_136 : ey FX7 ini rt fin K0 K (decode cX7_judge 136) 136 L (st) h cs ss = (lhas L 2 ∧ isI (lgt L 2) ∧ K 137 L (lgt L 2 :: st) h cs ss) := by
  rw [dX7_judge_136, ey_ok, nx_iload_n_1] <;> rfl
theorem qX7_judge_137 : ey FX7 ini rt fin K0 K (decode cX7_judge 137) 137 L (st) h cs ss = (lhas L 3 ∧ isI (lgt L 3) ∧ K 138 L (lgt L 3 :: st) h cs ss) := by
  rw [dX7_judge_137, ey_ok, nx_iload_n_1] <;> rfl
theorem qX7_judge_138 : ey FX7 ini rt fin K0 K (decode cX7_judge 138) 138 L (st) h cs ss = (K0 138 L st h cs ss) := by
  rw [dX7_judge_138, ey_ok, nx_invokevirtual_72]
theorem qX7_judge_141 : ey FX7 ini rt fin K0 K (decode cX7_judge 141) 141 L (.int x :: r) h cs ss = (4 < L.length ∧ K 143 (L.set 4 (some (.int x))) r h cs ss) := by
  rw [dX7_judge_141, ey_ok, nx_istore_4] <;> rfl
theorem qX7_judge_143 : ey FX7 ini rt fin K0 K (decode cX7_judge 143) 143 L (st) h cs ss = (lhas L 4 ∧ isI (lgt L 4) ∧ K 145 L (lgt L 4 :: st) h cs ss) := by
  rw [dX7_judge_143, ey_ok, nx_iload_0] <;> rfl
theorem qX7_judge_145 : ey FX7 ini rt fin K0 K (decode cX7_judge 145) 145 L (st) h cs ss = (K 146 L (.int (-1) :: st) h cs ss) := by
  rw [dX7_judge_145, ey_ok, nx_iconst_11] <;> rfl
theorem qX7_judge_146 : ey FX7 ini rt fin K0 K (decode cX7_judge 146) 146 L (.int y :: .int x :: r) h cs ss = (if ¬ x = y then K 164 L r h cs ss else K 149 L r h cs ss) := by
  rw [dX7_judge_146, ey_ok, nx_if_icmp_37]
  exact and_l (by unfold jok; decide)
theorem qX7_judge_149 : ey FX7 ini rt fin K0 K (decode cX7_judge 149) 149 L (st) h cs ss = (lhas L 0 ∧ isRf (lgt L 0) ∧ K 150 L (lgt L 0 :: st) h cs ss) := by
  rw [dX7_judge_149, ey_ok, nx_aload_n_3] <;> rfl
theorem qX7_judge_150 : ey FX7 ini rt fin K0 K (decode cX7_judge 150) 150 L (st) h cs ss = (lhas L 0 ∧ isRf (lgt L 0) ∧ K 151 L (lgt L 0 :: st) h cs ss) := by
  rw [dX7_judge_150, ey_ok, nx_aload_n_3] <;> rfl
theorem qX7_judge_151 : ey FX7 ini rt fin K0 K (decode cX7_judge 151) 151 L (.ref a :: r) h cs ss = (h.1 a = some (.inl 7) ∧ K 154 L (h.2 a 7 :: r) h cs ss) := by
  rw [dX7_judge_151, ey_ok, nx_getfield_54]
  exact and_l rfl
theorem qX7_judge_154 : ey FX7 ini rt fin K0 K (decode cX7_judge 154) 154 L (st) h cs ss = (lhas L 2 ∧ isI (lgt L 2) ∧ K 155 L (lgt L 2 :: st) h cs ss) := by
  rw [dX7_judge_154, ey_ok, nx_iload_n_1] <;> rfl
theorem qX7_judge_155 : ey FX7 ini rt fin K0 K (decode cX7_judge 155) 155 L (.int i :: .ref a :: r) h cs ss = (isA (h.1 a) (fun k m => k = 0 ∧ vp_in i m) ∧ K 156 L (h.2 a i.toNatClampNeg :: r) h cs ss) := by
  rw [dX7_judge_155, ey_ok, nx_iaload_57]
theorem qX7_judge_156 : ey FX7 ini rt fin K0 K (decode cX7_judge 156) 156 L (st) h cs ss = (lhas L 2 ∧ isI (lgt L 2) ∧ K 157 L (lgt L 2 :: st) h cs ss) := by
  rw [dX7_judge_156, ey_ok, nx_iload_n_1] <;> rfl
theorem qX7_judge_157 : ey FX7 ini rt fin K0 K (decode cX7_judge 157) 157 L (st) h cs ss = (lhas L 3 ∧ isI (lgt L 3) ∧ K 158 L (lgt L 3 :: st) h cs ss) := by
  rw [dX7_judge_157, ey_ok, nx_iload_n_1] <;> rfl
theorem qX7_judge_158 : ey FX7 ini rt fin K0 K (decode cX7_judge 158) 158 L (st) h cs ss = (K0 158 L st h cs ss) := by
  rw [dX7_judge_158, ey_ok, nx_invokevirtual_72]
theorem qX7_judge_161 : ey FX7 ini rt fin K0 K (decode cX7_judge 161) 161 L (st) h cs ss = (K 208 L st h cs ss) := by
  rw [dX7_judge_161, ey_ok, nx_goto_29]
  exact and_l (by unfold jok; decide)
theorem qX7_judge_164 : ey FX7 ini rt fin K0 K (decode cX7_judge 164) 164 L (st) h cs ss = (lhas L 0 ∧ isRf (lgt L 0) ∧ K 165 L (lgt L 0 :: st) h cs ss) := by
  rw [dX7_judge_164, ey_ok, nx_aload_n_3] <;> rfl
theorem qX7_judge_165 : ey FX7 ini rt fin K0 K (decode cX7_judge 165) 165 L (.ref a :: r) h cs ss = (h.1 a = some (.inl 7) ∧ K 168 L (h.2 a 26 :: r) h cs ss) := by
  rw [dX7_judge_165, ey_ok, nx_getfield_54]
  exact and_l rfl
theorem qX7_judge_168 : ey FX7 ini rt fin K0 K (decode cX7_judge 168) 168 L (st) h cs ss = (lhas L 4 ∧ isI (lgt L 4) ∧ K 170 L (lgt L 4 :: st) h cs ss) := by
  rw [dX7_judge_168, ey_ok, nx_iload_0] <;> rfl
theorem qX7_judge_170 : ey FX7 ini rt fin K0 K (decode cX7_judge 170) 170 L (st) h cs ss = (lhas L 0 ∧ isRf (lgt L 0) ∧ K 171 L (lgt L 0 :: st) h cs ss) := by
  rw [dX7_judge_170, ey_ok, nx_aload_n_3] <;> rfl
theorem qX7_judge_171 : ey FX7 ini rt fin K0 K (decode cX7_judge 171) 171 L (.ref a :: r) h cs ss = (h.1 a = some (.inl 7) ∧ K 174 L (h.2 a 26 :: r) h cs ss) := by
  rw [dX7_judge_171, ey_ok, nx_getfield_54]
  exact and_l rfl
theorem qX7_judge_174 : ey FX7 ini rt fin K0 K (decode cX7_judge 174) 174 L (st) h cs ss = (lhas L 4 ∧ isI (lgt L 4) ∧ K 176 L (lgt L 4 :: st) h cs ss) := by
  rw [dX7_judge_174, ey_ok, nx_iload_0] <;> rfl
theorem qX7_judge_176 : ey FX7 ini rt fin K0 K (decode cX7_judge 176) 176 L (.int i :: .ref a :: r) h cs ss = (isA (h.1 a) (fun k m => k = 0 ∧ vp_in i m) ∧ K 177 L (h.2 a i.toNatClampNeg :: r) h cs ss) := by
  rw [dX7_judge_176, ey_ok, nx_iaload_57]
theorem qX7_judge_177 : ey FX7 ini rt fin K0 K (decode cX7_judge 177) 177 L (st) h cs ss = (K 178 L (.int 2 :: st) h cs ss) := by
  rw [dX7_judge_177, ey_ok, nx_iconst_11] <;> rfl
theorem qX7_judge_178 : ey FX7 ini rt fin K0 K (decode cX7_judge 178) 178 L (.int y :: .int x :: r) h cs ss = (if ¬ x = y then K 185 L r h cs ss else K 181 L r h cs ss) := by
  rw [dX7_judge_178, ey_ok, nx_if_icmp_37]
  exact and_l (by unfold jok; decide)
theorem qX7_judge_181 : ey FX7 ini rt fin K0 K (decode cX7_judge 181) 181 L (st) h cs ss = (K 182 L (.int 0 :: st) h cs ss) := by
  rw [dX7_judge_181, ey_ok, nx_iconst_11] <;> rfl
theorem qX7_judge_182 : ey FX7 ini rt fin K0 K (decode cX7_judge 182) 182 L (st) h cs ss = (K 207 L st h cs ss) := by
  rw [dX7_judge_182, ey_ok, nx_goto_29]
  exact and_l (by unfold jok; decide)
theorem qX7_judge_185 : ey FX7 ini rt fin K0 K (decode cX7_judge 185) 185 L (st) h cs ss = (lhas L 0 ∧ isRf (lgt L 0) ∧ K 186 L (lgt L 0 :: st) h cs ss) := by
  rw [dX7_judge_185, ey_ok, nx_aload_n_3] <;> rfl
theorem qX7_judge_186 : ey FX7 ini rt fin K0 K (decode cX7_judge 186) 186 L (.ref a :: r) h cs ss = (h.1 a = some (.inl 7) ∧ K 189 L (h.2 a 26 :: r) h cs ss) := by
  rw [dX7_judge_186, ey_ok, nx_getfield_54]
  exact and_l rfl
theorem qX7_judge_189 : ey FX7 ini rt fin K0 K (decode cX7_judge 189) 189 L (st) h cs ss = (lhas L 4 ∧ isI (lgt L 4) ∧ K 191 L (lgt L 4 :: st) h cs ss) := by
  rw [dX7_judge_189, ey_ok, nx_iload_0] <;> rfl
theorem qX7_judge_191 : ey FX7 ini rt fin K0 K (decode cX7_judge 191) 191 L (.int i :: .ref a :: r) h cs ss = (isA (h.1 a) (fun k m => k = 0 ∧ vp_in i m) ∧ K 192 L (h.2 a i.toNatClampNeg :: r) h cs ss) := by
  rw [dX7_judge_191, ey_ok, nx_iaload_57]
theorem qX7_judge_192 : ey FX7 ini rt fin K0 K (decode cX7_judge 192) 192 L (st) h cs ss = (K 193 L (.int 3 :: st) h cs ss) := by
  rw [dX7_judge_192, ey_ok, nx_iconst_11] <;> rfl
theorem qX7_judge_193 : ey FX7 ini rt fin K0 K (decode cX7_judge 193) 193 L (.int y :: .int x :: r) h cs ss = (if ¬ x = y then K 200 L r h cs ss else K 196 L r h cs ss) := by
  rw [dX7_judge_193, ey_ok, nx_if_icmp_37]
  exact and_l (by unfold jok; decide)
theorem qX7_judge_196 : ey FX7 ini rt fin K0 K (decode cX7_judge 196) 196 L (st) h cs ss = (K 197 L (.int 1 :: st) h cs ss) := by
  rw [dX7_judge_196, ey_ok, nx_iconst_11] <;> rfl
theorem qX7_judge_197 : ey FX7 ini rt fin K0 K (decode cX7_judge 197) 197 L (st) h cs ss = (K 207 L st h cs ss) := by
  rw [dX7_judge_197, ey_ok, nx_goto_29]
  exact and_l (by unfold jok; decide)
theorem qX7_judge_200 : ey FX7 ini rt fin K0 K (decode cX7_judge 200) 200 L (st) h cs ss = (lhas L 0 ∧ isRf (lgt L 0) ∧ K 201 L (lgt L 0 :: st) h cs ss) := by
  rw [dX7_judge_200, ey_ok, nx_aload_n_3] <;> rfl
theorem qX7_judge_201 : ey FX7 ini rt fin K0 K (decode cX7_judge 201) 201 L (.ref a :: r) h cs ss = (h.1 a = some (.inl 7) ∧ K 204 L (h.2 a 26 :: r) h cs ss) := by
  rw [dX7_judge_201, ey_ok, nx_getfield_54]
  exact and_l rfl
theorem qX7_judge_204 : ey FX7 ini rt fin K0 K (decode cX7_judge 204) 204 L (st) h cs ss = (lhas L 4 ∧ isI (lgt L 4) ∧ K 206 L (lgt L 4 :: st) h cs ss) := by
  rw [dX7_judge_204, ey_ok, nx_iload_0] <;> rfl
theorem qX7_judge_206 : ey FX7 ini rt fin K0 K (decode cX7_judge 206) 206 L (.int i :: .ref a :: r) h cs ss = (isA (h.1 a) (fun k m => k = 0 ∧ vp_in i m) ∧ K 207 L (h.2 a i.toNatClampNeg :: r) h cs ss) := by
  rw [dX7_judge_206, ey_ok, nx_iaload_57]
theorem qX7_judge_207 : ey FX7 ini rt fin K0 K (decode cX7_judge 207) 207 L (.int x :: .int i :: .ref a :: r) h cs ss = (isA (h.1 a) (fun k m => k = 0 ∧ vp_in i m) ∧ K 208 L r (h.1, hup h.2 a i.toNatClampNeg (.int x)) cs ss) := by
  rw [dX7_judge_207, ey_ok, nx_iastore_62]
theorem qX7_judge_208 : ey FX7 ini rt fin K0 K (decode cX7_judge 208) 208 L (st) h cs ss = (lhas L 3 ∧ isI (lgt L 3) ∧ K 211 (L.set 3 (some (inc (lgt L 3) 1))) st h cs ss) := by
  rw [dX7_judge_208, ey_ok, nx_iinc_10] <;> rfl
theorem qX7_judge_211 : ey FX7 ini rt fin K0 K (decode cX7_judge 211) 211 L (st) h cs ss = (K 112 L st h cs ss) := by
  rw [dX7_judge_211, ey_ok, nx_goto_29]
  exact and_l (by unfold jok; decide)
theorem qX7_judge_214 : ey FX7 ini rt fin K0 K (decode cX7_judge 214) 214 L (st) h cs ss = (lhas L 2 ∧ isI (lgt L 2) ∧ K 217 (L.set 2 (some (inc (lgt L 2) 1))) st h cs ss) := by
  rw [dX7_judge_214, ey_ok, nx_iinc_10] <;> rfl
theorem qX7_judge_217 : ey FX7 ini rt fin K0 K (decode cX7_judge 217) 217 L (st) h cs ss = (K 102 L st h cs ss) := by
  rw [dX7_judge_217, ey_ok, nx_goto_29]
  exact and_l (by unfold jok; decide)
theorem qX7_judge_220 : ey FX7 ini rt fin K0 K (decode cX7_judge 220) 220 L (st) h cs ss = (lhas L 1 ∧ isI (lgt L 1) ∧ K 221 L (lgt L 1 :: st) h cs ss) := by
  rw [dX7_judge_220, ey_ok, nx_iload_n_1] <;> rfl
theorem qX7_judge_221 : ey FX7 ini rt fin K0 K (decode cX7_judge 221) 221 L ([.int x]) h cs ss = (rokI rt x ∧ fin (some (.int x)) h cs ss) := by
  rw [dX7_judge_221, ey_ok, nx_ireturn_68]
theorem qX7_claims_0 : ey FX7 ini rt fin K0 K (decode cX7_claims 0) 0 L (st) h cs ss = (lhas L 0 ∧ isRf (lgt L 0) ∧ K 1 L (lgt L 0 :: st) h cs ss) := by
  rw [dX7_claims_0, ey_ok, nx_aload_n_3] <;> rfl
theorem qX7_claims_1 : ey FX7 ini rt fin K0 K (decode cX7_claims 1) 1 L (st) h cs ss = (K 2 L (.int 0 :: st) h cs ss) := by
  rw [dX7_claims_1, ey_ok, nx_iconst_11] <;> rfl
theorem qX7_claims_2 : ey FX7 ini rt fin K0 K (decode cX7_claims 2) 2 L (v :: .ref a :: r) h cs ss = (h.1 a = some (.inl 7) ∧ okv (.int) v ∧ K 5 L r (h.1, hup h.2 a 34 v) cs ss) := by
  rw [dX7_claims_2, ey_ok, nx_putfield_55]
  exact (and_l rfl).trans (and_m (fun z => nomatch z))
theorem qX7_claims_5 : ey FX7 ini rt fin K0 K (decode cX7_claims 5) 5 L (st) h cs ss = (lhas L 0 ∧ isRf (lgt L 0) ∧ K 6 L (lgt L 0 :: st) h cs ss) := by
  rw [dX7_claims_5, ey_ok, nx_aload_n_3] <;> rfl
theorem qX7_claims_6 : ey FX7 ini rt fin K0 K (decode cX7_claims 6) 6 L (.ref a :: r) h cs ss = (h.1 a = some (.inl 7) ∧ K 9 L (h.2 a 22 :: r) h cs ss) := by
  rw [dX7_claims_6, ey_ok, nx_getfield_54]
  exact and_l rfl
theorem qX7_claims_9 : ey FX7 ini rt fin K0 K (decode cX7_claims 9) 9 L ([.int x]) h cs ss = (rokI rt x ∧ fin (some (.int x)) h cs ss) := by
  rw [dX7_claims_9, ey_ok, nx_ireturn_68]
theorem qX7_state_0 : ey FX7 ini rt fin K0 K (decode cX7_state 0) 0 L (st) h cs ss = (lhas L 0 ∧ isRf (lgt L 0) ∧ K 1 L (lgt L 0 :: st) h cs ss) := by
  rw [dX7_state_0, ey_ok, nx_aload_n_3] <;> rfl
theorem qX7_state_1 : ey FX7 ini rt fin K0 K (decode cX7_state 1) 1 L (st) h cs ss = (lhas L 0 ∧ isRf (lgt L 0) ∧ K 2 L (lgt L 0 :: st) h cs ss) := by
  rw [dX7_state_1, ey_ok, nx_aload_n_3] <;> rfl
theorem qX7_state_2 : ey FX7 ini rt fin K0 K (decode cX7_state 2) 2 L (st) h cs ss = (lhas L 1 ∧ isI (lgt L 1) ∧ K 3 L (lgt L 1 :: st) h cs ss) := by
  rw [dX7_state_2, ey_ok, nx_iload_n_1] <;> rfl
theorem qX7_state_3 : ey FX7 ini rt fin K0 K (decode cX7_state 3) 3 L (st) h cs ss = (K0 3 L st h cs ss) := by
  rw [dX7_state_3, ey_ok, nx_invokevirtual_72]
theorem qX7_state_6 : ey FX7 ini rt fin K0 K (decode cX7_state 6) 6 L (st) h cs ss = (K0 6 L st h cs ss) := by
  rw [dX7_state_6, ey_ok, nx_invokevirtual_72]
theorem qX7_state_9 : ey FX7 ini rt fin K0 K (decode cX7_state 9) 9 L (.int x :: r) h cs ss = (if x = 0 then K 21 L r h cs ss else K 12 L r h cs ss) := by
  rw [dX7_state_9, ey_ok, nx_ifond_30]
  exact and_l (by unfold jok; decide)
theorem qX7_state_12 : ey FX7 ini rt fin K0 K (decode cX7_state 12) 12 L (st) h cs ss = (lhas L 0 ∧ isRf (lgt L 0) ∧ K 13 L (lgt L 0 :: st) h cs ss) := by
  rw [dX7_state_12, ey_ok, nx_aload_n_3] <;> rfl
theorem qX7_state_13 : ey FX7 ini rt fin K0 K (decode cX7_state 13) 13 L (.ref a :: r) h cs ss = (h.1 a = some (.inl 7) ∧ K 16 L (h.2 a 26 :: r) h cs ss) := by
  rw [dX7_state_13, ey_ok, nx_getfield_54]
  exact and_l rfl
theorem qX7_state_16 : ey FX7 ini rt fin K0 K (decode cX7_state 16) 16 L (st) h cs ss = (lhas L 1 ∧ isI (lgt L 1) ∧ K 17 L (lgt L 1 :: st) h cs ss) := by
  rw [dX7_state_16, ey_ok, nx_iload_n_1] <;> rfl
theorem qX7_state_17 : ey FX7 ini rt fin K0 K (decode cX7_state 17) 17 L (.int i :: .ref a :: r) h cs ss = (isA (h.1 a) (fun k m => k = 0 ∧ vp_in i m) ∧ K 18 L (h.2 a i.toNatClampNeg :: r) h cs ss) := by
  rw [dX7_state_17, ey_ok, nx_iaload_57]
theorem qX7_state_18 : ey FX7 ini rt fin K0 K (decode cX7_state 18) 18 L (st) h cs ss = (K 22 L st h cs ss) := by
  rw [dX7_state_18, ey_ok, nx_goto_29]
  exact and_l (by unfold jok; decide)
theorem qX7_state_21 : ey FX7 ini rt fin K0 K (decode cX7_state 21) 21 L (st) h cs ss = (K 22 L (.int 0 :: st) h cs ss) := by
  rw [dX7_state_21, ey_ok, nx_iconst_11] <;> rfl
theorem qX7_state_22 : ey FX7 ini rt fin K0 K (decode cX7_state 22) 22 L ([.int x]) h cs ss = (rokI rt x ∧ fin (some (.int x)) h cs ss) := by
  rw [dX7_state_22, ey_ok, nx_ireturn_68]
theorem qX7_about_0 : ey FX7 ini rt fin K0 K (decode cX7_about 0) 0 L (st) h cs ss = (lhas L 0 ∧ isRf (lgt L 0) ∧ K 1 L (lgt L 0 :: st) h cs ss) := by
  rw [dX7_about_0, ey_ok, nx_aload_n_3] <;> rfl
theorem qX7_about_1 : ey FX7 ini rt fin K0 K (decode cX7_about 1) 1 L (st) h cs ss = (lhas L 0 ∧ isRf (lgt L 0) ∧ K 2 L (lgt L 0 :: st) h cs ss) := by
  rw [dX7_about_1, ey_ok, nx_aload_n_3] <;> rfl
theorem qX7_about_2 : ey FX7 ini rt fin K0 K (decode cX7_about 2) 2 L (st) h cs ss = (lhas L 1 ∧ isI (lgt L 1) ∧ K 3 L (lgt L 1 :: st) h cs ss) := by
  rw [dX7_about_2, ey_ok, nx_iload_n_1] <;> rfl
theorem qX7_about_3 : ey FX7 ini rt fin K0 K (decode cX7_about 3) 3 L (st) h cs ss = (K0 3 L st h cs ss) := by
  rw [dX7_about_3, ey_ok, nx_invokevirtual_72]
theorem qX7_about_6 : ey FX7 ini rt fin K0 K (decode cX7_about 6) 6 L (st) h cs ss = (K0 6 L st h cs ss) := by
  rw [dX7_about_6, ey_ok, nx_invokevirtual_72]
theorem qX7_about_9 : ey FX7 ini rt fin K0 K (decode cX7_about 9) 9 L (.int x :: r) h cs ss = (if x = 0 then K 42 L r h cs ss else K 12 L r h cs ss) := by
  rw [dX7_about_9, ey_ok, nx_ifond_30]
  exact and_l (by unfold jok; decide)
theorem qX7_about_12 : ey FX7 ini rt fin K0 K (decode cX7_about 12) 12 L (st) h cs ss = (K 15 L (.int 10000 :: st) h cs ss) := by
  rw [dX7_about_12, ey_ok, nx_sipush_13] <;> rfl
theorem qX7_about_15 : ey FX7 ini rt fin K0 K (decode cX7_about 15) 15 L (st) h cs ss = (lhas L 0 ∧ isRf (lgt L 0) ∧ K 16 L (lgt L 0 :: st) h cs ss) := by
  rw [dX7_about_15, ey_ok, nx_aload_n_3] <;> rfl
theorem qX7_about_16 : ey FX7 ini rt fin K0 K (decode cX7_about 16) 16 L (.ref a :: r) h cs ss = (h.1 a = some (.inl 7) ∧ K 19 L (h.2 a 23 :: r) h cs ss) := by
  rw [dX7_about_16, ey_ok, nx_getfield_54]
  exact and_l rfl
theorem qX7_about_19 : ey FX7 ini rt fin K0 K (decode cX7_about 19) 19 L (st) h cs ss = (lhas L 1 ∧ isI (lgt L 1) ∧ K 20 L (lgt L 1 :: st) h cs ss) := by
  rw [dX7_about_19, ey_ok, nx_iload_n_1] <;> rfl
theorem qX7_about_20 : ey FX7 ini rt fin K0 K (decode cX7_about 20) 20 L (.int i :: .ref a :: r) h cs ss = (isA (h.1 a) (fun k m => k = 0 ∧ vp_in i m) ∧ K 21 L (h.2 a i.toNatClampNeg :: r) h cs ss) := by
  rw [dX7_about_20, ey_ok, nx_iaload_57]
theorem qX7_about_21 : ey FX7 ini rt fin K0 K (decode cX7_about 21) 21 L (.int y :: .int x :: r) h cs ss = (K 22 L (.int (x * y) :: r) h cs ss) := by
  rw [dX7_about_21, ey_ok, nx_imul_18]
theorem qX7_about_22 : ey FX7 ini rt fin K0 K (decode cX7_about 22) 22 L (st) h cs ss = (K 24 L (.int 100 :: st) h cs ss) := by
  rw [dX7_about_22, ey_ok, nx_bipush_12] <;> rfl
theorem qX7_about_24 : ey FX7 ini rt fin K0 K (decode cX7_about 24) 24 L (st) h cs ss = (lhas L 0 ∧ isRf (lgt L 0) ∧ K 25 L (lgt L 0 :: st) h cs ss) := by
  rw [dX7_about_24, ey_ok, nx_aload_n_3] <;> rfl
theorem qX7_about_25 : ey FX7 ini rt fin K0 K (decode cX7_about 25) 25 L (.ref a :: r) h cs ss = (h.1 a = some (.inl 7) ∧ K 28 L (h.2 a 24 :: r) h cs ss) := by
  rw [dX7_about_25, ey_ok, nx_getfield_54]
  exact and_l rfl
theorem qX7_about_28 : ey FX7 ini rt fin K0 K (decode cX7_about 28) 28 L (st) h cs ss = (lhas L 1 ∧ isI (lgt L 1) ∧ K 29 L (lgt L 1 :: st) h cs ss) := by
  rw [dX7_about_28, ey_ok, nx_iload_n_1] <;> rfl
theorem qX7_about_29 : ey FX7 ini rt fin K0 K (decode cX7_about 29) 29 L (.int i :: .ref a :: r) h cs ss = (isA (h.1 a) (fun k m => k = 0 ∧ vp_in i m) ∧ K 30 L (h.2 a i.toNatClampNeg :: r) h cs ss) := by
  rw [dX7_about_29, ey_ok, nx_iaload_57]
theorem qX7_about_30 : ey FX7 ini rt fin K0 K (decode cX7_about 30) 30 L (.int y :: .int x :: r) h cs ss = (K 31 L (.int (x * y) :: r) h cs ss) := by
  rw [dX7_about_30, ey_ok, nx_imul_18]
theorem qX7_about_31 : ey FX7 ini rt fin K0 K (decode cX7_about 31) 31 L (.int y :: .int x :: r) h cs ss = (K 32 L (.int (x + y) :: r) h cs ss) := by
  rw [dX7_about_31, ey_ok, nx_iadd_16]
theorem qX7_about_32 : ey FX7 ini rt fin K0 K (decode cX7_about 32) 32 L (st) h cs ss = (lhas L 0 ∧ isRf (lgt L 0) ∧ K 33 L (lgt L 0 :: st) h cs ss) := by
  rw [dX7_about_32, ey_ok, nx_aload_n_3] <;> rfl
theorem qX7_about_33 : ey FX7 ini rt fin K0 K (decode cX7_about 33) 33 L (.ref a :: r) h cs ss = (h.1 a = some (.inl 7) ∧ K 36 L (h.2 a 25 :: r) h cs ss) := by
  rw [dX7_about_33, ey_ok, nx_getfield_54]
  exact and_l rfl
theorem qX7_about_36 : ey FX7 ini rt fin K0 K (decode cX7_about 36) 36 L (st) h cs ss = (lhas L 1 ∧ isI (lgt L 1) ∧ K 37 L (lgt L 1 :: st) h cs ss) := by
  rw [dX7_about_36, ey_ok, nx_iload_n_1] <;> rfl
theorem qX7_about_37 : ey FX7 ini rt fin K0 K (decode cX7_about 37) 37 L (.int i :: .ref a :: r) h cs ss = (isA (h.1 a) (fun k m => k = 0 ∧ vp_in i m) ∧ K 38 L (h.2 a i.toNatClampNeg :: r) h cs ss) := by
  rw [dX7_about_37, ey_ok, nx_iaload_57]
theorem qX7_about_38 : ey FX7 ini rt fin K0 K (decode cX7_about 38) 38 L (.int y :: .int x :: r) h cs ss = (K 39 L (.int (x + y) :: r) h cs ss) := by
  rw [dX7_about_38, ey_ok, nx_iadd_16]
theorem qX7_about_39 : ey FX7 ini rt fin K0 K (decode cX7_about 39) 39 L (st) h cs ss = (K 43 L st h cs ss) := by
  rw [dX7_about_39, ey_ok, nx_goto_29]
  exact and_l (by unfold jok; decide)
theorem qX7_about_42 : ey FX7 ini rt fin K0 K (decode cX7_about 42) 42 L (st) h cs ss = (K 43 L (.int 0 :: st) h cs ss) := by
  rw [dX7_about_42, ey_ok, nx_iconst_11] <;> rfl
theorem qX7_about_43 : ey FX7 ini rt fin K0 K (decode cX7_about 43) 43 L ([.int x]) h cs ss = (rokI rt x ∧ fin (some (.int x)) h cs ss) := by
  rw [dX7_about_43, ey_ok, nx_ireturn_68]
theorem qX7_worthOf_0 : ey FX7 ini rt fin K0 K (decode cX7_worthOf 0) 0 L (st) h cs ss = (lhas L 0 ∧ isRf (lgt L 0) ∧ K 1 L (lgt L 0 :: st) h cs ss) := by
  rw [dX7_worthOf_0, ey_ok, nx_aload_n_3] <;> rfl
theorem qX7_worthOf_1 : ey FX7 ini rt fin K0 K (decode cX7_worthOf 1) 1 L (.ref a :: r) h cs ss = (h.1 a = some (.inl 7) ∧ K 4 L (h.2 a 24 :: r) h cs ss) := by
  rw [dX7_worthOf_1, ey_ok, nx_getfield_54]
  exact and_l rfl
theorem qX7_worthOf_4 : ey FX7 ini rt fin K0 K (decode cX7_worthOf 4) 4 L (st) h cs ss = (lhas L 1 ∧ isI (lgt L 1) ∧ K 5 L (lgt L 1 :: st) h cs ss) := by
  rw [dX7_worthOf_4, ey_ok, nx_iload_n_1] <;> rfl
theorem qX7_worthOf_5 : ey FX7 ini rt fin K0 K (decode cX7_worthOf 5) 5 L (.int i :: .ref a :: r) h cs ss = (isA (h.1 a) (fun k m => k = 0 ∧ vp_in i m) ∧ K 6 L (h.2 a i.toNatClampNeg :: r) h cs ss) := by
  rw [dX7_worthOf_5, ey_ok, nx_iaload_57]
theorem qX7_worthOf_6 : ey FX7 ini rt fin K0 K (decode cX7_worthOf 6) 6 L (.int x :: r) h cs ss = (2 < L.length ∧ K 7 (L.set 2 (some (.int x))) r h cs ss) := by
  rw [dX7_worthOf_6, ey_ok, nx_istore_n_5] <;> rfl
theorem qX7_worthOf_7 : ey FX7 ini rt fin K0 K (decode cX7_worthOf 7) 7 L (st) h cs ss = (lhas L 0 ∧ isRf (lgt L 0) ∧ K 8 L (lgt L 0 :: st) h cs ss) := by
  rw [dX7_worthOf_7, ey_ok, nx_aload_n_3] <;> rfl
theorem qX7_worthOf_8 : ey FX7 ini rt fin K0 K (decode cX7_worthOf 8) 8 L (.ref a :: r) h cs ss = (h.1 a = some (.inl 7) ∧ K 11 L (h.2 a 9 :: r) h cs ss) := by
  rw [dX7_worthOf_8, ey_ok, nx_getfield_54]
  exact and_l rfl
theorem qX7_worthOf_11 : ey FX7 ini rt fin K0 K (decode cX7_worthOf 11) 11 L (st) h cs ss = (lhas L 2 ∧ isI (lgt L 2) ∧ K 12 L (lgt L 2 :: st) h cs ss) := by
  rw [dX7_worthOf_11, ey_ok, nx_iload_n_1] <;> rfl
theorem qX7_worthOf_12 : ey FX7 ini rt fin K0 K (decode cX7_worthOf 12) 12 L (.int i :: .ref a :: r) h cs ss = (isA (h.1 a) (fun k m => k = 0 ∧ vp_in i m) ∧ K 13 L (h.2 a i.toNatClampNeg :: r) h cs ss) := by
  rw [dX7_worthOf_12, ey_ok, nx_iaload_57]
theorem qX7_worthOf_13 : ey FX7 ini rt fin K0 K (decode cX7_worthOf 13) 13 L (st) h cs ss = (lhas L 0 ∧ isRf (lgt L 0) ∧ K 14 L (lgt L 0 :: st) h cs ss) := by
  rw [dX7_worthOf_13, ey_ok, nx_aload_n_3] <;> rfl
theorem qX7_worthOf_14 : ey FX7 ini rt fin K0 K (decode cX7_worthOf 14) 14 L (.ref a :: r) h cs ss = (h.1 a = some (.inl 7) ∧ K 17 L (h.2 a 8 :: r) h cs ss) := by
  rw [dX7_worthOf_14, ey_ok, nx_getfield_54]
  exact and_l rfl
theorem qX7_worthOf_17 : ey FX7 ini rt fin K0 K (decode cX7_worthOf 17) 17 L (st) h cs ss = (lhas L 2 ∧ isI (lgt L 2) ∧ K 18 L (lgt L 2 :: st) h cs ss) := by
  rw [dX7_worthOf_17, ey_ok, nx_iload_n_1] <;> rfl
theorem qX7_worthOf_18 : ey FX7 ini rt fin K0 K (decode cX7_worthOf 18) 18 L (.int i :: .ref a :: r) h cs ss = (isA (h.1 a) (fun k m => k = 0 ∧ vp_in i m) ∧ K 19 L (h.2 a i.toNatClampNeg :: r) h cs ss) := by
  rw [dX7_worthOf_18, ey_ok, nx_iaload_57]
theorem qX7_worthOf_19 : ey FX7 ini rt fin K0 K (decode cX7_worthOf 19) 19 L (.int y :: .int x :: r) h cs ss = (K 20 L (.int (x - y) :: r) h cs ss) := by
  rw [dX7_worthOf_19, ey_ok, nx_isub_17]
theorem qX7_worthOf_20 : ey FX7 ini rt fin K0 K (decode cX7_worthOf 20) 20 L (st) h cs ss = (lhas L 0 ∧ isRf (lgt L 0) ∧ K 21 L (lgt L 0 :: st) h cs ss) := by
  rw [dX7_worthOf_20, ey_ok, nx_aload_n_3] <;> rfl
theorem qX7_worthOf_21 : ey FX7 ini rt fin K0 K (decode cX7_worthOf 21) 21 L (.ref a :: r) h cs ss = (h.1 a = some (.inl 7) ∧ K 24 L (h.2 a 2 :: r) h cs ss) := by
  rw [dX7_worthOf_21, ey_ok, nx_getfield_54]
  exact and_l rfl
theorem qX7_worthOf_24 : ey FX7 ini rt fin K0 K (decode cX7_worthOf 24) 24 L (st) h cs ss = (lhas L 0 ∧ isRf (lgt L 0) ∧ K 25 L (lgt L 0 :: st) h cs ss) := by
  rw [dX7_worthOf_24, ey_ok, nx_aload_n_3] <;> rfl
theorem qX7_worthOf_25 : ey FX7 ini rt fin K0 K (decode cX7_worthOf 25) 25 L (.ref a :: r) h cs ss = (h.1 a = some (.inl 7) ∧ K 28 L (h.2 a 23 :: r) h cs ss) := by
  rw [dX7_worthOf_25, ey_ok, nx_getfield_54]
  exact and_l rfl
theorem qX7_worthOf_28 : ey FX7 ini rt fin K0 K (decode cX7_worthOf 28) 28 L (st) h cs ss = (lhas L 1 ∧ isI (lgt L 1) ∧ K 29 L (lgt L 1 :: st) h cs ss) := by
  rw [dX7_worthOf_28, ey_ok, nx_iload_n_1] <;> rfl
theorem qX7_worthOf_29 : ey FX7 ini rt fin K0 K (decode cX7_worthOf 29) 29 L (.int i :: .ref a :: r) h cs ss = (isA (h.1 a) (fun k m => k = 0 ∧ vp_in i m) ∧ K 30 L (h.2 a i.toNatClampNeg :: r) h cs ss) := by
  rw [dX7_worthOf_29, ey_ok, nx_iaload_57]
theorem qX7_worthOf_30 : ey FX7 ini rt fin K0 K (decode cX7_worthOf 30) 30 L (.int i :: .ref a :: r) h cs ss = (isA (h.1 a) (fun k m => k = 0 ∧ vp_in i m) ∧ K 31 L (h.2 a i.toNatClampNeg :: r) h cs ss) := by
  rw [dX7_worthOf_30, ey_ok, nx_iaload_57]
theorem qX7_worthOf_31 : ey FX7 ini rt fin K0 K (decode cX7_worthOf 31) 31 L (.int y :: .int x :: r) h cs ss = (K 32 L (.int (x * y) :: r) h cs ss) := by
  rw [dX7_worthOf_31, ey_ok, nx_imul_18]
theorem qX7_worthOf_32 : ey FX7 ini rt fin K0 K (decode cX7_worthOf 32) 32 L (st) h cs ss = (lhas L 0 ∧ isRf (lgt L 0) ∧ K 33 L (lgt L 0 :: st) h cs ss) := by
  rw [dX7_worthOf_32, ey_ok, nx_aload_n_3] <;> rfl
theorem qX7_worthOf_33 : ey FX7 ini rt fin K0 K (decode cX7_worthOf 33) 33 L (.ref a :: r) h cs ss = (h.1 a = some (.inl 7) ∧ K 36 L (h.2 a 20 :: r) h cs ss) := by
  rw [dX7_worthOf_33, ey_ok, nx_getfield_54]
  exact and_l rfl
theorem qX7_worthOf_36 : ey FX7 ini rt fin K0 K (decode cX7_worthOf 36) 36 L (st) h cs ss = (lhas L 0 ∧ isRf (lgt L 0) ∧ K 37 L (lgt L 0 :: st) h cs ss) := by
  rw [dX7_worthOf_36, ey_ok, nx_aload_n_3] <;> rfl
theorem qX7_worthOf_37 : ey FX7 ini rt fin K0 K (decode cX7_worthOf 37) 37 L (.ref a :: r) h cs ss = (h.1 a = some (.inl 7) ∧ K 40 L (h.2 a 25 :: r) h cs ss) := by
  rw [dX7_worthOf_37, ey_ok, nx_getfield_54]
  exact and_l rfl
theorem qX7_worthOf_40 : ey FX7 ini rt fin K0 K (decode cX7_worthOf 40) 40 L (st) h cs ss = (lhas L 1 ∧ isI (lgt L 1) ∧ K 41 L (lgt L 1 :: st) h cs ss) := by
  rw [dX7_worthOf_40, ey_ok, nx_iload_n_1] <;> rfl
theorem qX7_worthOf_41 : ey FX7 ini rt fin K0 K (decode cX7_worthOf 41) 41 L (.int i :: .ref a :: r) h cs ss = (isA (h.1 a) (fun k m => k = 0 ∧ vp_in i m) ∧ K 42 L (h.2 a i.toNatClampNeg :: r) h cs ss) := by
  rw [dX7_worthOf_41, ey_ok, nx_iaload_57]
theorem qX7_worthOf_42 : ey FX7 ini rt fin K0 K (decode cX7_worthOf 42) 42 L (.int i :: .ref a :: r) h cs ss = (isA (h.1 a) (fun k m => k = 0 ∧ vp_in i m) ∧ K 43 L (h.2 a i.toNatClampNeg :: r) h cs ss) := by
  rw [dX7_worthOf_42, ey_ok, nx_iaload_57]
theorem qX7_worthOf_43 : ey FX7 ini rt fin K0 K (decode cX7_worthOf 43) 43 L (.int y :: .int x :: r) h cs ss = (K 44 L (.int (x * y) :: r) h cs ss) := by
  rw [dX7_worthOf_43, ey_ok, nx_imul_18]
theorem qX7_worthOf_44 : ey FX7 ini rt fin K0 K (decode cX7_worthOf 44) 44 L (st) h cs ss = (K 46 L (.int 100 :: st) h cs ss) := by
  rw [dX7_worthOf_44, ey_ok, nx_bipush_12] <;> rfl
theorem qX7_worthOf_46 : ey FX7 ini rt fin K0 K (decode cX7_worthOf 46) 46 L (.int y :: .int x :: r) h cs ss = (¬ y = 0 ∧ K 47 L (.int (x / y) :: r) h cs ss) := by
  rw [dX7_worthOf_46, ey_ok, nx_idiv_23]
theorem qX7_worthOf_47 : ey FX7 ini rt fin K0 K (decode cX7_worthOf 47) 47 L ([.int x]) h cs ss = (rokI rt x ∧ fin (some (.int x)) h cs ss) := by
  rw [dX7_worthOf_47, ey_ok, nx_ireturn_68]
theorem qX7_worth_0 : ey FX7 ini rt fin K0 K (decode cX7_worth 0) 0 L (st) h cs ss = (lhas L 0 ∧ isRf (lgt L 0) ∧ K 1 L (lgt L 0 :: st) h cs ss) := by
  rw [dX7_worth_0, ey_ok, nx_aload_n_3] <;> rfl
theorem qX7_worth_1 : ey FX7 ini rt fin K0 K (decode cX7_worth 1) 1 L (st) h cs ss = (lhas L 0 ∧ isRf (lgt L 0) ∧ K 2 L (lgt L 0 :: st) h cs ss) := by
  rw [dX7_worth_1, ey_ok, nx_aload_n_3] <;> rfl
theorem qX7_worth_2 : ey FX7 ini rt fin K0 K (decode cX7_worth 2) 2 L (st) h cs ss = (lhas L 1 ∧ isI (lgt L 1) ∧ K 3 L (lgt L 1 :: st) h cs ss) := by
  rw [dX7_worth_2, ey_ok, nx_iload_n_1] <;> rfl
theorem qX7_worth_3 : ey FX7 ini rt fin K0 K (decode cX7_worth 3) 3 L (st) h cs ss = (K0 3 L st h cs ss) := by
  rw [dX7_worth_3, ey_ok, nx_invokevirtual_72]
theorem qX7_worth_6 : ey FX7 ini rt fin K0 K (decode cX7_worth 6) 6 L (st) h cs ss = (K0 6 L st h cs ss) := by
  rw [dX7_worth_6, ey_ok, nx_invokevirtual_72]
theorem qX7_worth_9 : ey FX7 ini rt fin K0 K (decode cX7_worth 9) 9 L (.int x :: r) h cs ss = (if x = 0 then K 20 L r h cs ss else K 12 L r h cs ss) := by
  rw [dX7_worth_9, ey_ok, nx_ifond_30]
  exact and_l (by unfold jok; decide)
theorem qX7_worth_12 : ey FX7 ini rt fin K0 K (decode cX7_worth 12) 12 L (st) h cs ss = (lhas L 0 ∧ isRf (lgt L 0) ∧ K 13 L (lgt L 0 :: st) h cs ss) := by
  rw [dX7_worth_12, ey_ok, nx_aload_n_3] <;> rfl
theorem qX7_worth_13 : ey FX7 ini rt fin K0 K (decode cX7_worth 13) 13 L (st) h cs ss = (lhas L 1 ∧ isI (lgt L 1) ∧ K 14 L (lgt L 1 :: st) h cs ss) := by
  rw [dX7_worth_13, ey_ok, nx_iload_n_1] <;> rfl
theorem qX7_worth_14 : ey FX7 ini rt fin K0 K (decode cX7_worth 14) 14 L (st) h cs ss = (K0 14 L st h cs ss) := by
  rw [dX7_worth_14, ey_ok, nx_invokevirtual_72]
theorem qX7_worth_17 : ey FX7 ini rt fin K0 K (decode cX7_worth 17) 17 L (st) h cs ss = (K 21 L st h cs ss) := by
  rw [dX7_worth_17, ey_ok, nx_goto_29]
  exact and_l (by unfold jok; decide)
theorem qX7_worth_20 : ey FX7 ini rt fin K0 K (decode cX7_worth 20) 20 L (st) h cs ss = (K 21 L (.int 0 :: st) h cs ss) := by
  rw [dX7_worth_20, ey_ok, nx_iconst_11] <;> rfl
theorem qX7_worth_21 : ey FX7 ini rt fin K0 K (decode cX7_worth 21) 21 L ([.int x]) h cs ss = (rokI rt x ∧ fin (some (.int x)) h cs ss) := by
  rw [dX7_worth_21, ey_ok, nx_ireturn_68]
theorem qX7_pay_0 : ey FX7 ini rt fin K0 K (decode cX7_pay 0) 0 L (st) h cs ss = (lhas L 0 ∧ isRf (lgt L 0) ∧ K 1 L (lgt L 0 :: st) h cs ss) := by
  rw [dX7_pay_0, ey_ok, nx_aload_n_3] <;> rfl
theorem qX7_pay_1 : ey FX7 ini rt fin K0 K (decode cX7_pay 1) 1 L (st) h cs ss = (lhas L 1 ∧ isI (lgt L 1) ∧ K 2 L (lgt L 1 :: st) h cs ss) := by
  rw [dX7_pay_1, ey_ok, nx_iload_n_1] <;> rfl
theorem qX7_pay_2 : ey FX7 ini rt fin K0 K (decode cX7_pay 2) 2 L (st) h cs ss = (K0 2 L st h cs ss) := by
  rw [dX7_pay_2, ey_ok, nx_invokevirtual_72]
theorem qX7_pay_5 : ey FX7 ini rt fin K0 K (decode cX7_pay 5) 5 L (.int x :: r) h cs ss = (2 < L.length ∧ K 6 (L.set 2 (some (.int x))) r h cs ss) := by
  rw [dX7_pay_5, ey_ok, nx_istore_n_5] <;> rfl
theorem qX7_pay_6 : ey FX7 ini rt fin K0 K (decode cX7_pay 6) 6 L (st) h cs ss = (lhas L 0 ∧ isRf (lgt L 0) ∧ K 7 L (lgt L 0 :: st) h cs ss) := by
  rw [dX7_pay_6, ey_ok, nx_aload_n_3] <;> rfl
theorem qX7_pay_7 : ey FX7 ini rt fin K0 K (decode cX7_pay 7) 7 L (st) h cs ss = (lhas L 2 ∧ isI (lgt L 2) ∧ K 8 L (lgt L 2 :: st) h cs ss) := by
  rw [dX7_pay_7, ey_ok, nx_iload_n_1] <;> rfl
theorem qX7_pay_8 : ey FX7 ini rt fin K0 K (decode cX7_pay 8) 8 L (st) h cs ss = (lhas L 2 ∧ isI (lgt L 2) ∧ K 9 L (lgt L 2 :: st) h cs ss) := by
  rw [dX7_pay_8, ey_ok, nx_iload_n_1] <;> rfl
theorem qX7_pay_9 : ey FX7 ini rt fin K0 K (decode cX7_pay 9) 9 L (.int x :: r) h cs ss = (if x = 0 then K 25 L r h cs ss else K 12 L r h cs ss) := by
  rw [dX7_pay_9, ey_ok, nx_ifond_30]
  exact and_l (by unfold jok; decide)
theorem qX7_pay_12 : ey FX7 ini rt fin K0 K (decode cX7_pay 12) 12 L (st) h cs ss = (lhas L 0 ∧ isRf (lgt L 0) ∧ K 13 L (lgt L 0 :: st) h cs ss) := by
  rw [dX7_pay_12, ey_ok, nx_aload_n_3] <;> rfl
theorem qX7_pay_13 : ey FX7 ini rt fin K0 K (decode cX7_pay 13) 13 L (.ref a :: r) h cs ss = (h.1 a = some (.inl 7) ∧ K 16 L (h.2 a 26 :: r) h cs ss) := by
  rw [dX7_pay_13, ey_ok, nx_getfield_54]
  exact and_l rfl
theorem qX7_pay_16 : ey FX7 ini rt fin K0 K (decode cX7_pay 16) 16 L (st) h cs ss = (lhas L 1 ∧ isI (lgt L 1) ∧ K 17 L (lgt L 1 :: st) h cs ss) := by
  rw [dX7_pay_16, ey_ok, nx_iload_n_1] <;> rfl
theorem qX7_pay_17 : ey FX7 ini rt fin K0 K (decode cX7_pay 17) 17 L (.int i :: .ref a :: r) h cs ss = (isA (h.1 a) (fun k m => k = 0 ∧ vp_in i m) ∧ K 18 L (h.2 a i.toNatClampNeg :: r) h cs ss) := by
  rw [dX7_pay_17, ey_ok, nx_iaload_57]
theorem qX7_pay_18 : ey FX7 ini rt fin K0 K (decode cX7_pay 18) 18 L (.int x :: r) h cs ss = (if ¬ x = 0 then K 25 L r h cs ss else K 21 L r h cs ss) := by
  rw [dX7_pay_18, ey_ok, nx_ifond_31]
  exact and_l (by unfold jok; decide)
theorem qX7_pay_21 : ey FX7 ini rt fin K0 K (decode cX7_pay 21) 21 L (st) h cs ss = (K 22 L (.int 1 :: st) h cs ss) := by
  rw [dX7_pay_21, ey_ok, nx_iconst_11] <;> rfl
theorem qX7_pay_22 : ey FX7 ini rt fin K0 K (decode cX7_pay 22) 22 L (st) h cs ss = (K 26 L st h cs ss) := by
  rw [dX7_pay_22, ey_ok, nx_goto_29]
  exact and_l (by unfold jok; decide)
theorem qX7_pay_25 : ey FX7 ini rt fin K0 K (decode cX7_pay 25) 25 L (st) h cs ss = (K 26 L (.int 0 :: st) h cs ss) := by
  rw [dX7_pay_25, ey_ok, nx_iconst_11] <;> rfl
theorem qX7_pay_26 : ey FX7 ini rt fin K0 K (decode cX7_pay 26) 26 L (st) h cs ss = (K0 26 L st h cs ss) := by
  rw [dX7_pay_26, ey_ok, nx_invokevirtual_72]
theorem qX7_pay_29 : ey FX7 ini rt fin K0 K (decode cX7_pay 29) 29 L (.int x :: r) h cs ss = (if ¬ x = 0 then K 34 L r h cs ss else K 32 L r h cs ss) := by
  rw [dX7_pay_29, ey_ok, nx_ifond_31]
  exact and_l (by unfold jok; decide)
theorem qX7_pay_32 : ey FX7 ini rt fin K0 K (decode cX7_pay 32) 32 L (st) h cs ss = (K 33 L (.int 0 :: st) h cs ss) := by
  rw [dX7_pay_32, ey_ok, nx_iconst_11] <;> rfl
theorem qX7_pay_33 : ey FX7 ini rt fin K0 K (decode cX7_pay 33) 33 L ([.int x]) h cs ss = (rokI rt x ∧ fin (some (.int x)) h cs ss) := by
  rw [dX7_pay_33, ey_ok, nx_ireturn_68]
theorem qX7_pay_34 : ey FX7 ini rt fin K0 K (decode cX7_pay 34) 34 L (st) h cs ss = (lhas L 0 ∧ isRf (lgt L 0) ∧ K 35 L (lgt L 0 :: st) h cs ss) := by
  rw [dX7_pay_34, ey_ok, nx_aload_n_3] <;> rfl
theorem qX7_pay_35 : ey FX7 ini rt fin K0 K (decode cX7_pay 35) 35 L (.ref a :: r) h cs ss = (h.1 a = some (.inl 7) ∧ K 38 L (h.2 a 26 :: r) h cs ss) := by
  rw [dX7_pay_35, ey_ok, nx_getfield_54]
  exact and_l rfl
theorem qX7_pay_38 : ey FX7 ini rt fin K0 K (decode cX7_pay 38) 38 L (st) h cs ss = (lhas L 1 ∧ isI (lgt L 1) ∧ K 39 L (lgt L 1 :: st) h cs ss) := by
  rw [dX7_pay_38, ey_ok, nx_iload_n_1] <;> rfl
theorem qX7_pay_39 : ey FX7 ini rt fin K0 K (decode cX7_pay 39) 39 L (st) h cs ss = (K 40 L (.int 1 :: st) h cs ss) := by
  rw [dX7_pay_39, ey_ok, nx_iconst_11] <;> rfl
theorem qX7_pay_40 : ey FX7 ini rt fin K0 K (decode cX7_pay 40) 40 L (.int x :: .int i :: .ref a :: r) h cs ss = (isA (h.1 a) (fun k m => k = 0 ∧ vp_in i m) ∧ K 41 L r (h.1, hup h.2 a i.toNatClampNeg (.int x)) cs ss) := by
  rw [dX7_pay_40, ey_ok, nx_iastore_62]
theorem qX7_pay_41 : ey FX7 ini rt fin K0 K (decode cX7_pay 41) 41 L (st) h cs ss = (lhas L 0 ∧ isRf (lgt L 0) ∧ K 42 L (lgt L 0 :: st) h cs ss) := by
  rw [dX7_pay_41, ey_ok, nx_aload_n_3] <;> rfl
theorem qX7_pay_42 : ey FX7 ini rt fin K0 K (decode cX7_pay 42) 42 L (.ref a :: r) h cs ss = (h.1 a = some (.inl 7) ∧ K 45 L (h.2 a 27 :: r) h cs ss) := by
  rw [dX7_pay_42, ey_ok, nx_getfield_54]
  exact and_l rfl
theorem qX7_pay_45 : ey FX7 ini rt fin K0 K (decode cX7_pay 45) 45 L (st) h cs ss = (lhas L 1 ∧ isI (lgt L 1) ∧ K 46 L (lgt L 1 :: st) h cs ss) := by
  rw [dX7_pay_45, ey_ok, nx_iload_n_1] <;> rfl
theorem qX7_pay_46 : ey FX7 ini rt fin K0 K (decode cX7_pay 46) 46 L (st) h cs ss = (lhas L 0 ∧ isRf (lgt L 0) ∧ K 47 L (lgt L 0 :: st) h cs ss) := by
  rw [dX7_pay_46, ey_ok, nx_aload_n_3] <;> rfl
theorem qX7_pay_47 : ey FX7 ini rt fin K0 K (decode cX7_pay 47) 47 L (st) h cs ss = (lhas L 1 ∧ isI (lgt L 1) ∧ K 48 L (lgt L 1 :: st) h cs ss) := by
  rw [dX7_pay_47, ey_ok, nx_iload_n_1] <;> rfl
theorem qX7_pay_48 : ey FX7 ini rt fin K0 K (decode cX7_pay 48) 48 L (st) h cs ss = (K0 48 L st h cs ss) := by
  rw [dX7_pay_48, ey_ok, nx_invokevirtual_72]
theorem qX7_pay_51 : ey FX7 ini rt fin K0 K (decode cX7_pay 51) 51 L (.int x :: .int i :: .ref a :: r) h cs ss = (isA (h.1 a) (fun k m => k = 0 ∧ vp_in i m) ∧ K 52 L r (h.1, hup h.2 a i.toNatClampNeg (.int x)) cs ss) := by
  rw [dX7_pay_51, ey_ok, nx_iastore_62]
theorem qX7_pay_52 : ey FX7 ini rt fin K0 K (decode cX7_pay 52) 52 L (st) h cs ss = (lhas L 0 ∧ isRf (lgt L 0) ∧ K 53 L (lgt L 0 :: st) h cs ss) := by
  rw [dX7_pay_52, ey_ok, nx_aload_n_3] <;> rfl
theorem qX7_pay_53 : ey FX7 ini rt fin K0 K (decode cX7_pay 53) 53 L (.ref a :: r) h cs ss = (h.1 a = some (.inl 7) ∧ K 56 L (h.2 a 27 :: r) h cs ss) := by
  rw [dX7_pay_53, ey_ok, nx_getfield_54]
  exact and_l rfl
theorem qX7_pay_56 : ey FX7 ini rt fin K0 K (decode cX7_pay 56) 56 L (st) h cs ss = (lhas L 1 ∧ isI (lgt L 1) ∧ K 57 L (lgt L 1 :: st) h cs ss) := by
  rw [dX7_pay_56, ey_ok, nx_iload_n_1] <;> rfl
theorem qX7_pay_57 : ey FX7 ini rt fin K0 K (decode cX7_pay 57) 57 L (.int i :: .ref a :: r) h cs ss = (isA (h.1 a) (fun k m => k = 0 ∧ vp_in i m) ∧ K 58 L (h.2 a i.toNatClampNeg :: r) h cs ss) := by
  rw [dX7_pay_57, ey_ok, nx_iaload_57]
theorem qX7_pay_58 : ey FX7 ini rt fin K0 K (decode cX7_pay 58) 58 L ([.int x]) h cs ss = (rokI rt x ∧ fin (some (.int x)) h cs ss) := by
  rw [dX7_pay_58, ey_ok, nx_ireturn_68]
theorem qX7_takeBack_0 : ey FX7 ini rt fin K0 K (decode cX7_takeBack 0) 0 L (st) h cs ss = (lhas L 0 ∧ isRf (lgt L 0) ∧ K 1 L (lgt L 0 :: st) h cs ss) := by
  rw [dX7_takeBack_0, ey_ok, nx_aload_n_3] <;> rfl
theorem qX7_takeBack_1 : ey FX7 ini rt fin K0 K (decode cX7_takeBack 1) 1 L (st) h cs ss = (lhas L 1 ∧ isI (lgt L 1) ∧ K 2 L (lgt L 1 :: st) h cs ss) := by
  rw [dX7_takeBack_1, ey_ok, nx_iload_n_1] <;> rfl
theorem qX7_takeBack_2 : ey FX7 ini rt fin K0 K (decode cX7_takeBack 2) 2 L (st) h cs ss = (K0 2 L st h cs ss) := by
  rw [dX7_takeBack_2, ey_ok, nx_invokevirtual_72]
theorem qX7_takeBack_5 : ey FX7 ini rt fin K0 K (decode cX7_takeBack 5) 5 L (.int x :: r) h cs ss = (2 < L.length ∧ K 6 (L.set 2 (some (.int x))) r h cs ss) := by
  rw [dX7_takeBack_5, ey_ok, nx_istore_n_5] <;> rfl
theorem qX7_takeBack_6 : ey FX7 ini rt fin K0 K (decode cX7_takeBack 6) 6 L (st) h cs ss = (lhas L 0 ∧ isRf (lgt L 0) ∧ K 7 L (lgt L 0 :: st) h cs ss) := by
  rw [dX7_takeBack_6, ey_ok, nx_aload_n_3] <;> rfl
theorem qX7_takeBack_7 : ey FX7 ini rt fin K0 K (decode cX7_takeBack 7) 7 L (st) h cs ss = (lhas L 2 ∧ isI (lgt L 2) ∧ K 8 L (lgt L 2 :: st) h cs ss) := by
  rw [dX7_takeBack_7, ey_ok, nx_iload_n_1] <;> rfl
theorem qX7_takeBack_8 : ey FX7 ini rt fin K0 K (decode cX7_takeBack 8) 8 L (st) h cs ss = (lhas L 2 ∧ isI (lgt L 2) ∧ K 9 L (lgt L 2 :: st) h cs ss) := by
  rw [dX7_takeBack_8, ey_ok, nx_iload_n_1] <;> rfl
theorem qX7_takeBack_9 : ey FX7 ini rt fin K0 K (decode cX7_takeBack 9) 9 L (.int x :: r) h cs ss = (if x = 0 then K 26 L r h cs ss else K 12 L r h cs ss) := by
  rw [dX7_takeBack_9, ey_ok, nx_ifond_30]
  exact and_l (by unfold jok; decide)
theorem qX7_takeBack_12 : ey FX7 ini rt fin K0 K (decode cX7_takeBack 12) 12 L (st) h cs ss = (lhas L 0 ∧ isRf (lgt L 0) ∧ K 13 L (lgt L 0 :: st) h cs ss) := by
  rw [dX7_takeBack_12, ey_ok, nx_aload_n_3] <;> rfl
theorem qX7_takeBack_13 : ey FX7 ini rt fin K0 K (decode cX7_takeBack 13) 13 L (.ref a :: r) h cs ss = (h.1 a = some (.inl 7) ∧ K 16 L (h.2 a 26 :: r) h cs ss) := by
  rw [dX7_takeBack_13, ey_ok, nx_getfield_54]
  exact and_l rfl
theorem qX7_takeBack_16 : ey FX7 ini rt fin K0 K (decode cX7_takeBack 16) 16 L (st) h cs ss = (lhas L 1 ∧ isI (lgt L 1) ∧ K 17 L (lgt L 1 :: st) h cs ss) := by
  rw [dX7_takeBack_16, ey_ok, nx_iload_n_1] <;> rfl
theorem qX7_takeBack_17 : ey FX7 ini rt fin K0 K (decode cX7_takeBack 17) 17 L (.int i :: .ref a :: r) h cs ss = (isA (h.1 a) (fun k m => k = 0 ∧ vp_in i m) ∧ K 18 L (h.2 a i.toNatClampNeg :: r) h cs ss) := by
  rw [dX7_takeBack_17, ey_ok, nx_iaload_57]
theorem qX7_takeBack_18 : ey FX7 ini rt fin K0 K (decode cX7_takeBack 18) 18 L (st) h cs ss = (K 19 L (.int 3 :: st) h cs ss) := by
  rw [dX7_takeBack_18, ey_ok, nx_iconst_11] <;> rfl
theorem qX7_takeBack_19 : ey FX7 ini rt fin K0 K (decode cX7_takeBack 19) 19 L (.int y :: .int x :: r) h cs ss = (if ¬ x = y then K 26 L r h cs ss else K 22 L r h cs ss) := by
  rw [dX7_takeBack_19, ey_ok, nx_if_icmp_37]
  exact and_l (by unfold jok; decide)
theorem qX7_takeBack_22 : ey FX7 ini rt fin K0 K (decode cX7_takeBack 22) 22 L (st) h cs ss = (K 23 L (.int 1 :: st) h cs ss) := by
  rw [dX7_takeBack_22, ey_ok, nx_iconst_11] <;> rfl
theorem qX7_takeBack_23 : ey FX7 ini rt fin K0 K (decode cX7_takeBack 23) 23 L (st) h cs ss = (K 27 L st h cs ss) := by
  rw [dX7_takeBack_23, ey_ok, nx_goto_29]
  exact and_l (by unfold jok; decide)
theorem qX7_takeBack_26 : ey FX7 ini rt fin K0 K (decode cX7_takeBack 26) 26 L (st) h cs ss = (K 27 L (.int 0 :: st) h cs ss) := by
  rw [dX7_takeBack_26, ey_ok, nx_iconst_11] <;> rfl
theorem qX7_takeBack_27 : ey FX7 ini rt fin K0 K (decode cX7_takeBack 27) 27 L (st) h cs ss = (K0 27 L st h cs ss) := by
  rw [dX7_takeBack_27, ey_ok, nx_invokevirtual_72]
theorem qX7_takeBack_30 : ey FX7 ini rt fin K0 K (decode cX7_takeBack 30) 30 L (.int x :: r) h cs ss = (if ¬ x = 0 then K 35 L r h cs ss else K 33 L r h cs ss) := by
  rw [dX7_takeBack_30, ey_ok, nx_ifond_31]
  exact and_l (by unfold jok; decide)
theorem qX7_takeBack_33 : ey FX7 ini rt fin K0 K (decode cX7_takeBack 33) 33 L (st) h cs ss = (K 34 L (.int 0 :: st) h cs ss) := by
  rw [dX7_takeBack_33, ey_ok, nx_iconst_11] <;> rfl
theorem qX7_takeBack_34 : ey FX7 ini rt fin K0 K (decode cX7_takeBack 34) 34 L ([.int x]) h cs ss = (rokI rt x ∧ fin (some (.int x)) h cs ss) := by
  rw [dX7_takeBack_34, ey_ok, nx_ireturn_68]
theorem qX7_takeBack_35 : ey FX7 ini rt fin K0 K (decode cX7_takeBack 35) 35 L (st) h cs ss = (lhas L 0 ∧ isRf (lgt L 0) ∧ K 36 L (lgt L 0 :: st) h cs ss) := by
  rw [dX7_takeBack_35, ey_ok, nx_aload_n_3] <;> rfl
theorem qX7_takeBack_36 : ey FX7 ini rt fin K0 K (decode cX7_takeBack 36) 36 L (.ref a :: r) h cs ss = (h.1 a = some (.inl 7) ∧ K 39 L (h.2 a 26 :: r) h cs ss) := by
  rw [dX7_takeBack_36, ey_ok, nx_getfield_54]
  exact and_l rfl
theorem qX7_takeBack_39 : ey FX7 ini rt fin K0 K (decode cX7_takeBack 39) 39 L (st) h cs ss = (lhas L 1 ∧ isI (lgt L 1) ∧ K 40 L (lgt L 1 :: st) h cs ss) := by
  rw [dX7_takeBack_39, ey_ok, nx_iload_n_1] <;> rfl
theorem qX7_takeBack_40 : ey FX7 ini rt fin K0 K (decode cX7_takeBack 40) 40 L (st) h cs ss = (K 41 L (.int 2 :: st) h cs ss) := by
  rw [dX7_takeBack_40, ey_ok, nx_iconst_11] <;> rfl
theorem qX7_takeBack_41 : ey FX7 ini rt fin K0 K (decode cX7_takeBack 41) 41 L (.int x :: .int i :: .ref a :: r) h cs ss = (isA (h.1 a) (fun k m => k = 0 ∧ vp_in i m) ∧ K 42 L r (h.1, hup h.2 a i.toNatClampNeg (.int x)) cs ss) := by
  rw [dX7_takeBack_41, ey_ok, nx_iastore_62]
theorem qX7_takeBack_42 : ey FX7 ini rt fin K0 K (decode cX7_takeBack 42) 42 L (st) h cs ss = (lhas L 0 ∧ isRf (lgt L 0) ∧ K 43 L (lgt L 0 :: st) h cs ss) := by
  rw [dX7_takeBack_42, ey_ok, nx_aload_n_3] <;> rfl
theorem qX7_takeBack_43 : ey FX7 ini rt fin K0 K (decode cX7_takeBack 43) 43 L (.ref a :: r) h cs ss = (h.1 a = some (.inl 7) ∧ K 46 L (h.2 a 27 :: r) h cs ss) := by
  rw [dX7_takeBack_43, ey_ok, nx_getfield_54]
  exact and_l rfl
theorem qX7_takeBack_46 : ey FX7 ini rt fin K0 K (decode cX7_takeBack 46) 46 L (st) h cs ss = (lhas L 1 ∧ isI (lgt L 1) ∧ K 47 L (lgt L 1 :: st) h cs ss) := by
  rw [dX7_takeBack_46, ey_ok, nx_iload_n_1] <;> rfl
theorem qX7_takeBack_47 : ey FX7 ini rt fin K0 K (decode cX7_takeBack 47) 47 L (.int i :: .ref a :: r) h cs ss = (isA (h.1 a) (fun k m => k = 0 ∧ vp_in i m) ∧ K 48 L (h.2 a i.toNatClampNeg :: r) h cs ss) := by
  rw [dX7_takeBack_47, ey_ok, nx_iaload_57]
theorem qX7_takeBack_48 : ey FX7 ini rt fin K0 K (decode cX7_takeBack 48) 48 L ([.int x]) h cs ss = (rokI rt x ∧ fin (some (.int x)) h cs ss) := by
  rw [dX7_takeBack_48, ey_ok, nx_ireturn_68]
theorem qX7_wages_0 : ey FX7 ini rt fin K0 K (decode cX7_wages 0) 0 L (st) h cs ss = (lhas L 0 ∧ isRf (lgt L 0) ∧ K 1 L (lgt L 0 :: st) h cs ss) := by
  rw [dX7_wages_0, ey_ok, nx_aload_n_3] <;> rfl
theorem qX7_wages_1 : ey FX7 ini rt fin K0 K (decode cX7_wages 1) 1 L (st) h cs ss = (lhas L 1 ∧ isI (lgt L 1) ∧ K 2 L (lgt L 1 :: st) h cs ss) := by
  rw [dX7_wages_1, ey_ok, nx_iload_n_1] <;> rfl
theorem qX7_wages_2 : ey FX7 ini rt fin K0 K (decode cX7_wages 2) 2 L (st) h cs ss = (K0 2 L st h cs ss) := by
  rw [dX7_wages_2, ey_ok, nx_invokestatic_73]
theorem qX7_wages_5 : ey FX7 ini rt fin K0 K (decode cX7_wages 5) 5 L (st) h cs ss = (K0 5 L st h cs ss) := by
  rw [dX7_wages_5, ey_ok, nx_invokevirtual_72]
theorem qX7_wages_8 : ey FX7 ini rt fin K0 K (decode cX7_wages 8) 8 L (.int x :: r) h cs ss = (if ¬ x = 0 then K 13 L r h cs ss else K 11 L r h cs ss) := by
  rw [dX7_wages_8, ey_ok, nx_ifond_31]
  exact and_l (by unfold jok; decide)
theorem qX7_wages_11 : ey FX7 ini rt fin K0 K (decode cX7_wages 11) 11 L (st) h cs ss = (K 12 L (.int 0 :: st) h cs ss) := by
  rw [dX7_wages_11, ey_ok, nx_iconst_11] <;> rfl
theorem qX7_wages_12 : ey FX7 ini rt fin K0 K (decode cX7_wages 12) 12 L ([.int x]) h cs ss = (rokI rt x ∧ fin (some (.int x)) h cs ss) := by
  rw [dX7_wages_12, ey_ok, nx_ireturn_68]
theorem qX7_wages_13 : ey FX7 ini rt fin K0 K (decode cX7_wages 13) 13 L (st) h cs ss = (K 14 L (.int 0 :: st) h cs ss) := by
  rw [dX7_wages_13, ey_ok, nx_iconst_11] <;> rfl
theorem qX7_wages_14 : ey FX7 ini rt fin K0 K (decode cX7_wages 14) 14 L (.int x :: r) h cs ss = (2 < L.length ∧ K 15 (L.set 2 (some (.int x))) r h cs ss) := by
  rw [dX7_wages_14, ey_ok, nx_istore_n_5] <;> rfl
theorem qX7_wages_15 : ey FX7 ini rt fin K0 K (decode cX7_wages 15) 15 L (st) h cs ss = (K 16 L (.int 0 :: st) h cs ss) := by
  rw [dX7_wages_15, ey_ok, nx_iconst_11] <;> rfl
theorem qX7_wages_16 : ey FX7 ini rt fin K0 K (decode cX7_wages 16) 16 L (.int x :: r) h cs ss = (3 < L.length ∧ K 17 (L.set 3 (some (.int x))) r h cs ss) := by
  rw [dX7_wages_16, ey_ok, nx_istore_n_5] <;> rfl
theorem qX7_wages_17 : ey FX7 ini rt fin K0 K (decode cX7_wages 17) 17 L (st) h cs ss = (lhas L 3 ∧ isI (lgt L 3) ∧ K 18 L (lgt L 3 :: st) h cs ss) := by
  rw [dX7_wages_17, ey_ok, nx_iload_n_1] <;> rfl
theorem qX7_wages_18 : ey FX7 ini rt fin K0 K (decode cX7_wages 18) 18 L (st) h cs ss = (lhas L 0 ∧ isRf (lgt L 0) ∧ K 19 L (lgt L 0 :: st) h cs ss) := by
  rw [dX7_wages_18, ey_ok, nx_aload_n_3] <;> rfl
theorem qX7_wages_19 : ey FX7 ini rt fin K0 K (decode cX7_wages 19) 19 L (.ref a :: r) h cs ss = (h.1 a = some (.inl 7) ∧ K 22 L (h.2 a 3 :: r) h cs ss) := by
  rw [dX7_wages_19, ey_ok, nx_getfield_54]
  exact and_l rfl
theorem qX7_wages_22 : ey FX7 ini rt fin K0 K (decode cX7_wages 22) 22 L (.int y :: .int x :: r) h cs ss = (if y ≤ x then K 74 L r h cs ss else K 25 L r h cs ss) := by
  rw [dX7_wages_22, ey_ok, nx_if_icmp_39]
  exact and_l (by unfold jok; decide)
theorem qX7_wages_25 : ey FX7 ini rt fin K0 K (decode cX7_wages 25) 25 L (st) h cs ss = (lhas L 2 ∧ isI (lgt L 2) ∧ K 26 L (lgt L 2 :: st) h cs ss) := by
  rw [dX7_wages_25, ey_ok, nx_iload_n_1] <;> rfl
theorem qX7_wages_26 : ey FX7 ini rt fin K0 K (decode cX7_wages 26) 26 L (st) h cs ss = (lhas L 0 ∧ isRf (lgt L 0) ∧ K 27 L (lgt L 0 :: st) h cs ss) := by
  rw [dX7_wages_26, ey_ok, nx_aload_n_3] <;> rfl
theorem qX7_wages_27 : ey FX7 ini rt fin K0 K (decode cX7_wages 27) 27 L (.ref a :: r) h cs ss = (h.1 a = some (.inl 7) ∧ K 30 L (h.2 a 7 :: r) h cs ss) := by
  rw [dX7_wages_27, ey_ok, nx_getfield_54]
  exact and_l rfl
theorem qX7_wages_30 : ey FX7 ini rt fin K0 K (decode cX7_wages 30) 30 L (st) h cs ss = (lhas L 3 ∧ isI (lgt L 3) ∧ K 31 L (lgt L 3 :: st) h cs ss) := by
  rw [dX7_wages_30, ey_ok, nx_iload_n_1] <;> rfl
theorem qX7_wages_31 : ey FX7 ini rt fin K0 K (decode cX7_wages 31) 31 L (.int i :: .ref a :: r) h cs ss = (isA (h.1 a) (fun k m => k = 0 ∧ vp_in i m) ∧ K 32 L (h.2 a i.toNatClampNeg :: r) h cs ss) := by
  rw [dX7_wages_31, ey_ok, nx_iaload_57]
theorem qX7_wages_32 : ey FX7 ini rt fin K0 K (decode cX7_wages 32) 32 L (st) h cs ss = (lhas L 1 ∧ isI (lgt L 1) ∧ K 33 L (lgt L 1 :: st) h cs ss) := by
  rw [dX7_wages_32, ey_ok, nx_iload_n_1] <;> rfl
theorem qX7_wages_33 : ey FX7 ini rt fin K0 K (decode cX7_wages 33) 33 L (.int y :: .int x :: r) h cs ss = (if ¬ x = y then K 65 L r h cs ss else K 36 L r h cs ss) := by
  rw [dX7_wages_33, ey_ok, nx_if_icmp_37]
  exact and_l (by unfold jok; decide)
theorem qX7_wages_36 : ey FX7 ini rt fin K0 K (decode cX7_wages 36) 36 L (st) h cs ss = (lhas L 0 ∧ isRf (lgt L 0) ∧ K 37 L (lgt L 0 :: st) h cs ss) := by
  rw [dX7_wages_36, ey_ok, nx_aload_n_3] <;> rfl
theorem qX7_wages_37 : ey FX7 ini rt fin K0 K (decode cX7_wages 37) 37 L (.ref a :: r) h cs ss = (h.1 a = some (.inl 7) ∧ K 40 L (h.2 a 9 :: r) h cs ss) := by
  rw [dX7_wages_37, ey_ok, nx_getfield_54]
  exact and_l rfl
theorem qX7_wages_40 : ey FX7 ini rt fin K0 K (decode cX7_wages 40) 40 L (st) h cs ss = (lhas L 3 ∧ isI (lgt L 3) ∧ K 41 L (lgt L 3 :: st) h cs ss) := by
  rw [dX7_wages_40, ey_ok, nx_iload_n_1] <;> rfl
theorem qX7_wages_41 : ey FX7 ini rt fin K0 K (decode cX7_wages 41) 41 L (.int i :: .ref a :: r) h cs ss = (isA (h.1 a) (fun k m => k = 0 ∧ vp_in i m) ∧ K 42 L (h.2 a i.toNatClampNeg :: r) h cs ss) := by
  rw [dX7_wages_41, ey_ok, nx_iaload_57]
theorem qX7_wages_42 : ey FX7 ini rt fin K0 K (decode cX7_wages 42) 42 L (st) h cs ss = (lhas L 0 ∧ isRf (lgt L 0) ∧ K 43 L (lgt L 0 :: st) h cs ss) := by
  rw [dX7_wages_42, ey_ok, nx_aload_n_3] <;> rfl
theorem qX7_wages_43 : ey FX7 ini rt fin K0 K (decode cX7_wages 43) 43 L (.ref a :: r) h cs ss = (h.1 a = some (.inl 7) ∧ K 46 L (h.2 a 0 :: r) h cs ss) := by
  rw [dX7_wages_43, ey_ok, nx_getfield_54]
  exact and_l rfl
theorem qX7_wages_46 : ey FX7 ini rt fin K0 K (decode cX7_wages 46) 46 L (.int y :: .int x :: r) h cs ss = (if y < x then K 65 L r h cs ss else K 49 L r h cs ss) := by
  rw [dX7_wages_46, ey_ok, nx_if_icmp_40]
  exact and_l (by unfold jok; decide)
theorem qX7_wages_49 : ey FX7 ini rt fin K0 K (decode cX7_wages 49) 49 L (st) h cs ss = (lhas L 0 ∧ isRf (lgt L 0) ∧ K 50 L (lgt L 0 :: st) h cs ss) := by
  rw [dX7_wages_49, ey_ok, nx_aload_n_3] <;> rfl
theorem qX7_wages_50 : ey FX7 ini rt fin K0 K (decode cX7_wages 50) 50 L (.ref a :: r) h cs ss = (h.1 a = some (.inl 7) ∧ K 53 L (h.2 a 9 :: r) h cs ss) := by
  rw [dX7_wages_50, ey_ok, nx_getfield_54]
  exact and_l rfl
theorem qX7_wages_53 : ey FX7 ini rt fin K0 K (decode cX7_wages 53) 53 L (st) h cs ss = (lhas L 3 ∧ isI (lgt L 3) ∧ K 54 L (lgt L 3 :: st) h cs ss) := by
  rw [dX7_wages_53, ey_ok, nx_iload_n_1] <;> rfl
theorem qX7_wages_54 : ey FX7 ini rt fin K0 K (decode cX7_wages 54) 54 L (.int i :: .ref a :: r) h cs ss = (isA (h.1 a) (fun k m => k = 0 ∧ vp_in i m) ∧ K 55 L (h.2 a i.toNatClampNeg :: r) h cs ss) := by
  rw [dX7_wages_54, ey_ok, nx_iaload_57]
theorem qX7_wages_55 : ey FX7 ini rt fin K0 K (decode cX7_wages 55) 55 L (st) h cs ss = (lhas L 0 ∧ isRf (lgt L 0) ∧ K 56 L (lgt L 0 :: st) h cs ss) := by
  rw [dX7_wages_55, ey_ok, nx_aload_n_3] <;> rfl
theorem qX7_wages_56 : ey FX7 ini rt fin K0 K (decode cX7_wages 56) 56 L (.ref a :: r) h cs ss = (h.1 a = some (.inl 7) ∧ K 59 L (h.2 a 8 :: r) h cs ss) := by
  rw [dX7_wages_56, ey_ok, nx_getfield_54]
  exact and_l rfl
theorem qX7_wages_59 : ey FX7 ini rt fin K0 K (decode cX7_wages 59) 59 L (st) h cs ss = (lhas L 3 ∧ isI (lgt L 3) ∧ K 60 L (lgt L 3 :: st) h cs ss) := by
  rw [dX7_wages_59, ey_ok, nx_iload_n_1] <;> rfl
theorem qX7_wages_60 : ey FX7 ini rt fin K0 K (decode cX7_wages 60) 60 L (.int i :: .ref a :: r) h cs ss = (isA (h.1 a) (fun k m => k = 0 ∧ vp_in i m) ∧ K 61 L (h.2 a i.toNatClampNeg :: r) h cs ss) := by
  rw [dX7_wages_60, ey_ok, nx_iaload_57]
theorem qX7_wages_61 : ey FX7 ini rt fin K0 K (decode cX7_wages 61) 61 L (.int y :: .int x :: r) h cs ss = (K 62 L (.int (x - y) :: r) h cs ss) := by
  rw [dX7_wages_61, ey_ok, nx_isub_17]
theorem qX7_wages_62 : ey FX7 ini rt fin K0 K (decode cX7_wages 62) 62 L (st) h cs ss = (K 66 L st h cs ss) := by
  rw [dX7_wages_62, ey_ok, nx_goto_29]
  exact and_l (by unfold jok; decide)
theorem qX7_wages_65 : ey FX7 ini rt fin K0 K (decode cX7_wages 65) 65 L (st) h cs ss = (K 66 L (.int 0 :: st) h cs ss) := by
  rw [dX7_wages_65, ey_ok, nx_iconst_11] <;> rfl
theorem qX7_wages_66 : ey FX7 ini rt fin K0 K (decode cX7_wages 66) 66 L (.int y :: .int x :: r) h cs ss = (K 67 L (.int (x + y) :: r) h cs ss) := by
  rw [dX7_wages_66, ey_ok, nx_iadd_16]
theorem qX7_wages_67 : ey FX7 ini rt fin K0 K (decode cX7_wages 67) 67 L (.int x :: r) h cs ss = (2 < L.length ∧ K 68 (L.set 2 (some (.int x))) r h cs ss) := by
  rw [dX7_wages_67, ey_ok, nx_istore_n_5] <;> rfl
theorem qX7_wages_68 : ey FX7 ini rt fin K0 K (decode cX7_wages 68) 68 L (st) h cs ss = (lhas L 3 ∧ isI (lgt L 3) ∧ K 71 (L.set 3 (some (inc (lgt L 3) 1))) st h cs ss) := by
  rw [dX7_wages_68, ey_ok, nx_iinc_10] <;> rfl
theorem qX7_wages_71 : ey FX7 ini rt fin K0 K (decode cX7_wages 71) 71 L (st) h cs ss = (K 17 L st h cs ss) := by
  rw [dX7_wages_71, ey_ok, nx_goto_29]
  exact and_l (by unfold jok; decide)
theorem qX7_wages_74 : ey FX7 ini rt fin K0 K (decode cX7_wages 74) 74 L (st) h cs ss = (lhas L 2 ∧ isI (lgt L 2) ∧ K 75 L (lgt L 2 :: st) h cs ss) := by
  rw [dX7_wages_74, ey_ok, nx_iload_n_1] <;> rfl
theorem qX7_wages_75 : ey FX7 ini rt fin K0 K (decode cX7_wages 75) 75 L (st) h cs ss = (lhas L 0 ∧ isRf (lgt L 0) ∧ K 76 L (lgt L 0 :: st) h cs ss) := by
  rw [dX7_wages_75, ey_ok, nx_aload_n_3] <;> rfl
theorem qX7_wages_76 : ey FX7 ini rt fin K0 K (decode cX7_wages 76) 76 L (.ref a :: r) h cs ss = (h.1 a = some (.inl 7) ∧ K 79 L (h.2 a 2 :: r) h cs ss) := by
  rw [dX7_wages_76, ey_ok, nx_getfield_54]
  exact and_l rfl
theorem qX7_wages_79 : ey FX7 ini rt fin K0 K (decode cX7_wages 79) 79 L (st) h cs ss = (lhas L 1 ∧ isI (lgt L 1) ∧ K 80 L (lgt L 1 :: st) h cs ss) := by
  rw [dX7_wages_79, ey_ok, nx_iload_n_1] <;> rfl
theorem qX7_wages_80 : ey FX7 ini rt fin K0 K (decode cX7_wages 80) 80 L (.int i :: .ref a :: r) h cs ss = (isA (h.1 a) (fun k m => k = 0 ∧ vp_in i m) ∧ K 81 L (h.2 a i.toNatClampNeg :: r) h cs ss) := by
  rw [dX7_wages_80, ey_ok, nx_iaload_57]
theorem qX7_wages_81 : ey FX7 ini rt fin K0 K (decode cX7_wages 81) 81 L (.int y :: .int x :: r) h cs ss = (K 82 L (.int (x * y) :: r) h cs ss) := by
  rw [dX7_wages_81, ey_ok, nx_imul_18]
theorem qX7_wages_82 : ey FX7 ini rt fin K0 K (decode cX7_wages 82) 82 L (.int x :: r) h cs ss = (3 < L.length ∧ K 83 (L.set 3 (some (.int x))) r h cs ss) := by
  rw [dX7_wages_82, ey_ok, nx_istore_n_5] <;> rfl
theorem qX7_wages_83 : ey FX7 ini rt fin K0 K (decode cX7_wages 83) 83 L (st) h cs ss = (K 84 L (.int 0 :: st) h cs ss) := by
  rw [dX7_wages_83, ey_ok, nx_iconst_11] <;> rfl
theorem qX7_wages_84 : ey FX7 ini rt fin K0 K (decode cX7_wages 84) 84 L (.int x :: r) h cs ss = (4 < L.length ∧ K 86 (L.set 4 (some (.int x))) r h cs ss) := by
  rw [dX7_wages_84, ey_ok, nx_istore_4] <;> rfl
theorem qX7_wages_86 : ey FX7 ini rt fin K0 K (decode cX7_wages 86) 86 L (st) h cs ss = (lhas L 4 ∧ isI (lgt L 4) ∧ K 88 L (lgt L 4 :: st) h cs ss) := by
  rw [dX7_wages_86, ey_ok, nx_iload_0] <;> rfl
theorem qX7_wages_88 : ey FX7 ini rt fin K0 K (decode cX7_wages 88) 88 L (st) h cs ss = (lhas L 0 ∧ isRf (lgt L 0) ∧ K 89 L (lgt L 0 :: st) h cs ss) := by
  rw [dX7_wages_88, ey_ok, nx_aload_n_3] <;> rfl
theorem qX7_wages_89 : ey FX7 ini rt fin K0 K (decode cX7_wages 89) 89 L (.ref a :: r) h cs ss = (h.1 a = some (.inl 7) ∧ K 92 L (h.2 a 22 :: r) h cs ss) := by
  rw [dX7_wages_89, ey_ok, nx_getfield_54]
  exact and_l rfl
theorem qX7_wages_92 : ey FX7 ini rt fin K0 K (decode cX7_wages 92) 92 L (.int y :: .int x :: r) h cs ss = (if y ≤ x then K 148 L r h cs ss else K 95 L r h cs ss) := by
  rw [dX7_wages_92, ey_ok, nx_if_icmp_39]
  exact and_l (by unfold jok; decide)
theorem qX7_wages_95 : ey FX7 ini rt fin K0 K (decode cX7_wages 95) 95 L (st) h cs ss = (lhas L 3 ∧ isI (lgt L 3) ∧ K 96 L (lgt L 3 :: st) h cs ss) := by
  rw [dX7_wages_95, ey_ok, nx_iload_n_1] <;> rfl
theorem qX7_wages_96 : ey FX7 ini rt fin K0 K (decode cX7_wages 96) 96 L (st) h cs ss = (lhas L 0 ∧ isRf (lgt L 0) ∧ K 97 L (lgt L 0 :: st) h cs ss) := by
  rw [dX7_wages_96, ey_ok, nx_aload_n_3] <;> rfl
theorem qX7_wages_97 : ey FX7 ini rt fin K0 K (decode cX7_wages 97) 97 L (.ref a :: r) h cs ss = (h.1 a = some (.inl 7) ∧ K 100 L (h.2 a 23 :: r) h cs ss) := by
  rw [dX7_wages_97, ey_ok, nx_getfield_54]
  exact and_l rfl
theorem qX7_wages_100 : ey FX7 ini rt fin K0 K (decode cX7_wages 100) 100 L (st) h cs ss = (lhas L 4 ∧ isI (lgt L 4) ∧ K 102 L (lgt L 4 :: st) h cs ss) := by
  rw [dX7_wages_100, ey_ok, nx_iload_0] <;> rfl
theorem qX7_wages_102 : ey FX7 ini rt fin K0 K (decode cX7_wages 102) 102 L (.int i :: .ref a :: r) h cs ss = (isA (h.1 a) (fun k m => k = 0 ∧ vp_in i m) ∧ K 103 L (h.2 a i.toNatClampNeg :: r) h cs ss) := by
  rw [dX7_wages_102, ey_ok, nx_iaload_57]
theorem qX7_wages_103 : ey FX7 ini rt fin K0 K (decode cX7_wages 103) 103 L (st) h cs ss = (lhas L 1 ∧ isI (lgt L 1) ∧ K 104 L (lgt L 1 :: st) h cs ss) := by
  rw [dX7_wages_103, ey_ok, nx_iload_n_1] <;> rfl
theorem qX7_wages_104 : ey FX7 ini rt fin K0 K (decode cX7_wages 104) 104 L (.int y :: .int x :: r) h cs ss = (if ¬ x = y then K 139 L r h cs ss else K 107 L r h cs ss) := by
  rw [dX7_wages_104, ey_ok, nx_if_icmp_37]
  exact and_l (by unfold jok; decide)
theorem qX7_wages_107 : ey FX7 ini rt fin K0 K (decode cX7_wages 107) 107 L (st) h cs ss = (lhas L 0 ∧ isRf (lgt L 0) ∧ K 108 L (lgt L 0 :: st) h cs ss) := by
  rw [dX7_wages_107, ey_ok, nx_aload_n_3] <;> rfl
theorem qX7_wages_108 : ey FX7 ini rt fin K0 K (decode cX7_wages 108) 108 L (.ref a :: r) h cs ss = (h.1 a = some (.inl 7) ∧ K 111 L (h.2 a 26 :: r) h cs ss) := by
  rw [dX7_wages_108, ey_ok, nx_getfield_54]
  exact and_l rfl
theorem qX7_wages_111 : ey FX7 ini rt fin K0 K (decode cX7_wages 111) 111 L (st) h cs ss = (lhas L 4 ∧ isI (lgt L 4) ∧ K 113 L (lgt L 4 :: st) h cs ss) := by
  rw [dX7_wages_111, ey_ok, nx_iload_0] <;> rfl
theorem qX7_wages_113 : ey FX7 ini rt fin K0 K (decode cX7_wages 113) 113 L (.int i :: .ref a :: r) h cs ss = (isA (h.1 a) (fun k m => k = 0 ∧ vp_in i m) ∧ K 114 L (h.2 a i.toNatClampNeg :: r) h cs ss) := by
  rw [dX7_wages_113, ey_ok, nx_iaload_57]
theorem qX7_wages_114 : ey FX7 ini rt fin K0 K (decode cX7_wages 114) 114 L (st) h cs ss = (K 115 L (.int 1 :: st) h cs ss) := by
  rw [dX7_wages_114, ey_ok, nx_iconst_11] <;> rfl
theorem qX7_wages_115 : ey FX7 ini rt fin K0 K (decode cX7_wages 115) 115 L (.int y :: .int x :: r) h cs ss = (if x = y then K 129 L r h cs ss else K 118 L r h cs ss) := by
  rw [dX7_wages_115, ey_ok, nx_if_icmp_36]
  exact and_l (by unfold jok; decide)
theorem qX7_wages_118 : ey FX7 ini rt fin K0 K (decode cX7_wages 118) 118 L (st) h cs ss = (lhas L 0 ∧ isRf (lgt L 0) ∧ K 119 L (lgt L 0 :: st) h cs ss) := by
  rw [dX7_wages_118, ey_ok, nx_aload_n_3] <;> rfl
theorem qX7_wages_119 : ey FX7 ini rt fin K0 K (decode cX7_wages 119) 119 L (.ref a :: r) h cs ss = (h.1 a = some (.inl 7) ∧ K 122 L (h.2 a 26 :: r) h cs ss) := by
  rw [dX7_wages_119, ey_ok, nx_getfield_54]
  exact and_l rfl
theorem qX7_wages_122 : ey FX7 ini rt fin K0 K (decode cX7_wages 122) 122 L (st) h cs ss = (lhas L 4 ∧ isI (lgt L 4) ∧ K 124 L (lgt L 4 :: st) h cs ss) := by
  rw [dX7_wages_122, ey_ok, nx_iload_0] <;> rfl
theorem qX7_wages_124 : ey FX7 ini rt fin K0 K (decode cX7_wages 124) 124 L (.int i :: .ref a :: r) h cs ss = (isA (h.1 a) (fun k m => k = 0 ∧ vp_in i m) ∧ K 125 L (h.2 a i.toNatClampNeg :: r) h cs ss) := by
  rw [dX7_wages_124, ey_ok, nx_iaload_57]
theorem qX7_wages_125 : ey FX7 ini rt fin K0 K (decode cX7_wages 125) 125 L (st) h cs ss = (K 126 L (.int 3 :: st) h cs ss) := by
  rw [dX7_wages_125, ey_ok, nx_iconst_11] <;> rfl
theorem qX7_wages_126 : ey FX7 ini rt fin K0 K (decode cX7_wages 126) 126 L (.int y :: .int x :: r) h cs ss = (if ¬ x = y then K 139 L r h cs ss else K 129 L r h cs ss) := by
  rw [dX7_wages_126, ey_ok, nx_if_icmp_37]
  exact and_l (by unfold jok; decide)
theorem qX7_wages_129 : ey FX7 ini rt fin K0 K (decode cX7_wages 129) 129 L (st) h cs ss = (lhas L 0 ∧ isRf (lgt L 0) ∧ K 130 L (lgt L 0 :: st) h cs ss) := by
  rw [dX7_wages_129, ey_ok, nx_aload_n_3] <;> rfl
theorem qX7_wages_130 : ey FX7 ini rt fin K0 K (decode cX7_wages 130) 130 L (.ref a :: r) h cs ss = (h.1 a = some (.inl 7) ∧ K 133 L (h.2 a 27 :: r) h cs ss) := by
  rw [dX7_wages_130, ey_ok, nx_getfield_54]
  exact and_l rfl
theorem qX7_wages_133 : ey FX7 ini rt fin K0 K (decode cX7_wages 133) 133 L (st) h cs ss = (lhas L 4 ∧ isI (lgt L 4) ∧ K 135 L (lgt L 4 :: st) h cs ss) := by
  rw [dX7_wages_133, ey_ok, nx_iload_0] <;> rfl
theorem qX7_wages_135 : ey FX7 ini rt fin K0 K (decode cX7_wages 135) 135 L (.int i :: .ref a :: r) h cs ss = (isA (h.1 a) (fun k m => k = 0 ∧ vp_in i m) ∧ K 136 L (h.2 a i.toNatClampNeg :: r) h cs ss) := by
  rw [dX7_wages_135, ey_ok, nx_iaload_57]
theorem qX7_wages_136 : ey FX7 ini rt fin K0 K (decode cX7_wages 136) 136 L (st) h cs ss = (K 140 L st h cs ss) := by
  rw [dX7_wages_136, ey_ok, nx_goto_29]
  exact and_l (by unfold jok; decide)
theorem qX7_wages_139 : ey FX7 ini rt fin K0 K (decode cX7_wages 139) 139 L (st) h cs ss = (K 140 L (.int 0 :: st) h cs ss) := by
  rw [dX7_wages_139, ey_ok, nx_iconst_11] <;> rfl
theorem qX7_wages_140 : ey FX7 ini rt fin K0 K (decode cX7_wages 140) 140 L (.int y :: .int x :: r) h cs ss = (K 141 L (.int (x + y) :: r) h cs ss) := by
  rw [dX7_wages_140, ey_ok, nx_iadd_16]
theorem qX7_wages_141 : ey FX7 ini rt fin K0 K (decode cX7_wages 141) 141 L (.int x :: r) h cs ss = (3 < L.length ∧ K 142 (L.set 3 (some (.int x))) r h cs ss) := by
  rw [dX7_wages_141, ey_ok, nx_istore_n_5] <;> rfl
theorem qX7_wages_142 : ey FX7 ini rt fin K0 K (decode cX7_wages 142) 142 L (st) h cs ss = (lhas L 4 ∧ isI (lgt L 4) ∧ K 145 (L.set 4 (some (inc (lgt L 4) 1))) st h cs ss) := by
  rw [dX7_wages_142, ey_ok, nx_iinc_10] <;> rfl
theorem qX7_wages_145 : ey FX7 ini rt fin K0 K (decode cX7_wages 145) 145 L (st) h cs ss = (K 86 L st h cs ss) := by
  rw [dX7_wages_145, ey_ok, nx_goto_29]
  exact and_l (by unfold jok; decide)
theorem qX7_wages_148 : ey FX7 ini rt fin K0 K (decode cX7_wages 148) 148 L (st) h cs ss = (lhas L 3 ∧ isI (lgt L 3) ∧ K 149 L (lgt L 3 :: st) h cs ss) := by
  rw [dX7_wages_148, ey_ok, nx_iload_n_1] <;> rfl
theorem qX7_wages_149 : ey FX7 ini rt fin K0 K (decode cX7_wages 149) 149 L ([.int x]) h cs ss = (rokI rt x ∧ fin (some (.int x)) h cs ss) := by
  rw [dX7_wages_149, ey_ok, nx_ireturn_68]
theorem qX7_offer_0 : ey FX7 ini rt fin K0 K (decode cX7_offer 0) 0 L (st) h cs ss = (lhas L 0 ∧ isRf (lgt L 0) ∧ K 1 L (lgt L 0 :: st) h cs ss) := by
  rw [dX7_offer_0, ey_ok, nx_aload_n_3] <;> rfl
theorem qX7_offer_1 : ey FX7 ini rt fin K0 K (decode cX7_offer 1) 1 L (st) h cs ss = (lhas L 1 ∧ isI (lgt L 1) ∧ K 2 L (lgt L 1 :: st) h cs ss) := by
  rw [dX7_offer_1, ey_ok, nx_iload_n_1] <;> rfl
theorem qX7_offer_2 : ey FX7 ini rt fin K0 K (decode cX7_offer 2) 2 L (st) h cs ss = (K0 2 L st h cs ss) := by
  rw [dX7_offer_2, ey_ok, nx_invokevirtual_72]
theorem qX7_offer_5 : ey FX7 ini rt fin K0 K (decode cX7_offer 5) 5 L (.int x :: r) h cs ss = (if x = 0 then K 20 L r h cs ss else K 8 L r h cs ss) := by
  rw [dX7_offer_5, ey_ok, nx_ifond_30]
  exact and_l (by unfold jok; decide)
theorem qX7_offer_8 : ey FX7 ini rt fin K0 K (decode cX7_offer 8) 8 L (st) h cs ss = (lhas L 0 ∧ isRf (lgt L 0) ∧ K 9 L (lgt L 0 :: st) h cs ss) := by
  rw [dX7_offer_8, ey_ok, nx_aload_n_3] <;> rfl
theorem qX7_offer_9 : ey FX7 ini rt fin K0 K (decode cX7_offer 9) 9 L (st) h cs ss = (lhas L 2 ∧ isI (lgt L 2) ∧ K 10 L (lgt L 2 :: st) h cs ss) := by
  rw [dX7_offer_9, ey_ok, nx_iload_n_1] <;> rfl
theorem qX7_offer_10 : ey FX7 ini rt fin K0 K (decode cX7_offer 10) 10 L (st) h cs ss = (K0 10 L st h cs ss) := by
  rw [dX7_offer_10, ey_ok, nx_invokevirtual_72]
theorem qX7_offer_13 : ey FX7 ini rt fin K0 K (decode cX7_offer 13) 13 L (.int x :: r) h cs ss = (if x = 0 then K 20 L r h cs ss else K 16 L r h cs ss) := by
  rw [dX7_offer_13, ey_ok, nx_ifond_30]
  exact and_l (by unfold jok; decide)
theorem qX7_offer_16 : ey FX7 ini rt fin K0 K (decode cX7_offer 16) 16 L (st) h cs ss = (K 17 L (.int 1 :: st) h cs ss) := by
  rw [dX7_offer_16, ey_ok, nx_iconst_11] <;> rfl
theorem qX7_offer_17 : ey FX7 ini rt fin K0 K (decode cX7_offer 17) 17 L (st) h cs ss = (K 21 L st h cs ss) := by
  rw [dX7_offer_17, ey_ok, nx_goto_29]
  exact and_l (by unfold jok; decide)
theorem qX7_offer_20 : ey FX7 ini rt fin K0 K (decode cX7_offer 20) 20 L (st) h cs ss = (K 21 L (.int 0 :: st) h cs ss) := by
  rw [dX7_offer_20, ey_ok, nx_iconst_11] <;> rfl
theorem qX7_offer_21 : ey FX7 ini rt fin K0 K (decode cX7_offer 21) 21 L (.int x :: r) h cs ss = (3 < L.length ∧ K 22 (L.set 3 (some (.int x))) r h cs ss) := by
  rw [dX7_offer_21, ey_ok, nx_istore_n_5] <;> rfl
theorem qX7_offer_22 : ey FX7 ini rt fin K0 K (decode cX7_offer 22) 22 L (st) h cs ss = (lhas L 3 ∧ isI (lgt L 3) ∧ K 23 L (lgt L 3 :: st) h cs ss) := by
  rw [dX7_offer_22, ey_ok, nx_iload_n_1] <;> rfl
theorem qX7_offer_23 : ey FX7 ini rt fin K0 K (decode cX7_offer 23) 23 L (.int x :: r) h cs ss = (if x = 0 then K 91 L r h cs ss else K 26 L r h cs ss) := by
  rw [dX7_offer_23, ey_ok, nx_ifond_30]
  exact and_l (by unfold jok; decide)
theorem qX7_offer_26 : ey FX7 ini rt fin K0 K (decode cX7_offer 26) 26 L (st) h cs ss = (lhas L 0 ∧ isRf (lgt L 0) ∧ K 27 L (lgt L 0 :: st) h cs ss) := by
  rw [dX7_offer_26, ey_ok, nx_aload_n_3] <;> rfl
theorem qX7_offer_27 : ey FX7 ini rt fin K0 K (decode cX7_offer 27) 27 L (.ref a :: r) h cs ss = (h.1 a = some (.inl 7) ∧ K 30 L (h.2 a 7 :: r) h cs ss) := by
  rw [dX7_offer_27, ey_ok, nx_getfield_54]
  exact and_l rfl
theorem qX7_offer_30 : ey FX7 ini rt fin K0 K (decode cX7_offer 30) 30 L (st) h cs ss = (lhas L 1 ∧ isI (lgt L 1) ∧ K 31 L (lgt L 1 :: st) h cs ss) := by
  rw [dX7_offer_30, ey_ok, nx_iload_n_1] <;> rfl
theorem qX7_offer_31 : ey FX7 ini rt fin K0 K (decode cX7_offer 31) 31 L (.int i :: .ref a :: r) h cs ss = (isA (h.1 a) (fun k m => k = 0 ∧ vp_in i m) ∧ K 32 L (h.2 a i.toNatClampNeg :: r) h cs ss) := by
  rw [dX7_offer_31, ey_ok, nx_iaload_57]
theorem qX7_offer_32 : ey FX7 ini rt fin K0 K (decode cX7_offer 32) 32 L (st) h cs ss = (K 33 L (.int (-1) :: st) h cs ss) := by
  rw [dX7_offer_32, ey_ok, nx_iconst_11] <;> rfl
theorem qX7_offer_33 : ey FX7 ini rt fin K0 K (decode cX7_offer 33) 33 L (.int y :: .int x :: r) h cs ss = (if x = y then K 91 L r h cs ss else K 36 L r h cs ss) := by
  rw [dX7_offer_33, ey_ok, nx_if_icmp_36]
  exact and_l (by unfold jok; decide)
theorem qX7_offer_36 : ey FX7 ini rt fin K0 K (decode cX7_offer 36) 36 L (st) h cs ss = (lhas L 0 ∧ isRf (lgt L 0) ∧ K 37 L (lgt L 0 :: st) h cs ss) := by
  rw [dX7_offer_36, ey_ok, nx_aload_n_3] <;> rfl
theorem qX7_offer_37 : ey FX7 ini rt fin K0 K (decode cX7_offer 37) 37 L (.ref a :: r) h cs ss = (h.1 a = some (.inl 7) ∧ K 40 L (h.2 a 7 :: r) h cs ss) := by
  rw [dX7_offer_37, ey_ok, nx_getfield_54]
  exact and_l rfl
theorem qX7_offer_40 : ey FX7 ini rt fin K0 K (decode cX7_offer 40) 40 L (st) h cs ss = (lhas L 2 ∧ isI (lgt L 2) ∧ K 41 L (lgt L 2 :: st) h cs ss) := by
  rw [dX7_offer_40, ey_ok, nx_iload_n_1] <;> rfl
theorem qX7_offer_41 : ey FX7 ini rt fin K0 K (decode cX7_offer 41) 41 L (.int i :: .ref a :: r) h cs ss = (isA (h.1 a) (fun k m => k = 0 ∧ vp_in i m) ∧ K 42 L (h.2 a i.toNatClampNeg :: r) h cs ss) := by
  rw [dX7_offer_41, ey_ok, nx_iaload_57]
theorem qX7_offer_42 : ey FX7 ini rt fin K0 K (decode cX7_offer 42) 42 L (st) h cs ss = (K 43 L (.int (-1) :: st) h cs ss) := by
  rw [dX7_offer_42, ey_ok, nx_iconst_11] <;> rfl
theorem qX7_offer_43 : ey FX7 ini rt fin K0 K (decode cX7_offer 43) 43 L (.int y :: .int x :: r) h cs ss = (if x = y then K 91 L r h cs ss else K 46 L r h cs ss) := by
  rw [dX7_offer_43, ey_ok, nx_if_icmp_36]
  exact and_l (by unfold jok; decide)
theorem qX7_offer_46 : ey FX7 ini rt fin K0 K (decode cX7_offer 46) 46 L (st) h cs ss = (lhas L 0 ∧ isRf (lgt L 0) ∧ K 47 L (lgt L 0 :: st) h cs ss) := by
  rw [dX7_offer_46, ey_ok, nx_aload_n_3] <;> rfl
theorem qX7_offer_47 : ey FX7 ini rt fin K0 K (decode cX7_offer 47) 47 L (.ref a :: r) h cs ss = (h.1 a = some (.inl 7) ∧ K 50 L (h.2 a 7 :: r) h cs ss) := by
  rw [dX7_offer_47, ey_ok, nx_getfield_54]
  exact and_l rfl
theorem qX7_offer_50 : ey FX7 ini rt fin K0 K (decode cX7_offer 50) 50 L (st) h cs ss = (lhas L 1 ∧ isI (lgt L 1) ∧ K 51 L (lgt L 1 :: st) h cs ss) := by
  rw [dX7_offer_50, ey_ok, nx_iload_n_1] <;> rfl
theorem qX7_offer_51 : ey FX7 ini rt fin K0 K (decode cX7_offer 51) 51 L (.int i :: .ref a :: r) h cs ss = (isA (h.1 a) (fun k m => k = 0 ∧ vp_in i m) ∧ K 52 L (h.2 a i.toNatClampNeg :: r) h cs ss) := by
  rw [dX7_offer_51, ey_ok, nx_iaload_57]
theorem qX7_offer_52 : ey FX7 ini rt fin K0 K (decode cX7_offer 52) 52 L (st) h cs ss = (lhas L 0 ∧ isRf (lgt L 0) ∧ K 53 L (lgt L 0 :: st) h cs ss) := by
  rw [dX7_offer_52, ey_ok, nx_aload_n_3] <;> rfl
theorem qX7_offer_53 : ey FX7 ini rt fin K0 K (decode cX7_offer 53) 53 L (.ref a :: r) h cs ss = (h.1 a = some (.inl 7) ∧ K 56 L (h.2 a 7 :: r) h cs ss) := by
  rw [dX7_offer_53, ey_ok, nx_getfield_54]
  exact and_l rfl
theorem qX7_offer_56 : ey FX7 ini rt fin K0 K (decode cX7_offer 56) 56 L (st) h cs ss = (lhas L 2 ∧ isI (lgt L 2) ∧ K 57 L (lgt L 2 :: st) h cs ss) := by
  rw [dX7_offer_56, ey_ok, nx_iload_n_1] <;> rfl
theorem qX7_offer_57 : ey FX7 ini rt fin K0 K (decode cX7_offer 57) 57 L (.int i :: .ref a :: r) h cs ss = (isA (h.1 a) (fun k m => k = 0 ∧ vp_in i m) ∧ K 58 L (h.2 a i.toNatClampNeg :: r) h cs ss) := by
  rw [dX7_offer_57, ey_ok, nx_iaload_57]
theorem qX7_offer_58 : ey FX7 ini rt fin K0 K (decode cX7_offer 58) 58 L (.int y :: .int x :: r) h cs ss = (if x = y then K 91 L r h cs ss else K 61 L r h cs ss) := by
  rw [dX7_offer_58, ey_ok, nx_if_icmp_36]
  exact and_l (by unfold jok; decide)
theorem qX7_offer_61 : ey FX7 ini rt fin K0 K (decode cX7_offer 61) 61 L (st) h cs ss = (lhas L 0 ∧ isRf (lgt L 0) ∧ K 62 L (lgt L 0 :: st) h cs ss) := by
  rw [dX7_offer_61, ey_ok, nx_aload_n_3] <;> rfl
theorem qX7_offer_62 : ey FX7 ini rt fin K0 K (decode cX7_offer 62) 62 L (.ref a :: r) h cs ss = (h.1 a = some (.inl 7) ∧ K 65 L (h.2 a 4 :: r) h cs ss) := by
  rw [dX7_offer_62, ey_ok, nx_getfield_54]
  exact and_l rfl
theorem qX7_offer_65 : ey FX7 ini rt fin K0 K (decode cX7_offer 65) 65 L (st) h cs ss = (lhas L 1 ∧ isI (lgt L 1) ∧ K 66 L (lgt L 1 :: st) h cs ss) := by
  rw [dX7_offer_65, ey_ok, nx_iload_n_1] <;> rfl
theorem qX7_offer_66 : ey FX7 ini rt fin K0 K (decode cX7_offer 66) 66 L (.int i :: .ref a :: r) h cs ss = (isA (h.1 a) (fun k m => k = 0 ∧ vp_in i m) ∧ K 67 L (h.2 a i.toNatClampNeg :: r) h cs ss) := by
  rw [dX7_offer_66, ey_ok, nx_iaload_57]
theorem qX7_offer_67 : ey FX7 ini rt fin K0 K (decode cX7_offer 67) 67 L (st) h cs ss = (lhas L 0 ∧ isRf (lgt L 0) ∧ K 68 L (lgt L 0 :: st) h cs ss) := by
  rw [dX7_offer_67, ey_ok, nx_aload_n_3] <;> rfl
theorem qX7_offer_68 : ey FX7 ini rt fin K0 K (decode cX7_offer 68) 68 L (.ref a :: r) h cs ss = (h.1 a = some (.inl 7) ∧ K 71 L (h.2 a 0 :: r) h cs ss) := by
  rw [dX7_offer_68, ey_ok, nx_getfield_54]
  exact and_l rfl
theorem qX7_offer_71 : ey FX7 ini rt fin K0 K (decode cX7_offer 71) 71 L (.int y :: .int x :: r) h cs ss = (if x ≤ y then K 91 L r h cs ss else K 74 L r h cs ss) := by
  rw [dX7_offer_71, ey_ok, nx_if_icmp_41]
  exact and_l (by unfold jok; decide)
theorem qX7_offer_74 : ey FX7 ini rt fin K0 K (decode cX7_offer 74) 74 L (st) h cs ss = (lhas L 0 ∧ isRf (lgt L 0) ∧ K 75 L (lgt L 0 :: st) h cs ss) := by
  rw [dX7_offer_74, ey_ok, nx_aload_n_3] <;> rfl
theorem qX7_offer_75 : ey FX7 ini rt fin K0 K (decode cX7_offer 75) 75 L (.ref a :: r) h cs ss = (h.1 a = some (.inl 7) ∧ K 78 L (h.2 a 4 :: r) h cs ss) := by
  rw [dX7_offer_75, ey_ok, nx_getfield_54]
  exact and_l rfl
theorem qX7_offer_78 : ey FX7 ini rt fin K0 K (decode cX7_offer 78) 78 L (st) h cs ss = (lhas L 2 ∧ isI (lgt L 2) ∧ K 79 L (lgt L 2 :: st) h cs ss) := by
  rw [dX7_offer_78, ey_ok, nx_iload_n_1] <;> rfl
theorem qX7_offer_79 : ey FX7 ini rt fin K0 K (decode cX7_offer 79) 79 L (.int i :: .ref a :: r) h cs ss = (isA (h.1 a) (fun k m => k = 0 ∧ vp_in i m) ∧ K 80 L (h.2 a i.toNatClampNeg :: r) h cs ss) := by
  rw [dX7_offer_79, ey_ok, nx_iaload_57]
theorem qX7_offer_80 : ey FX7 ini rt fin K0 K (decode cX7_offer 80) 80 L (st) h cs ss = (lhas L 0 ∧ isRf (lgt L 0) ∧ K 81 L (lgt L 0 :: st) h cs ss) := by
  rw [dX7_offer_80, ey_ok, nx_aload_n_3] <;> rfl
theorem qX7_offer_81 : ey FX7 ini rt fin K0 K (decode cX7_offer 81) 81 L (.ref a :: r) h cs ss = (h.1 a = some (.inl 7) ∧ K 84 L (h.2 a 0 :: r) h cs ss) := by
  rw [dX7_offer_81, ey_ok, nx_getfield_54]
  exact and_l rfl
theorem qX7_offer_84 : ey FX7 ini rt fin K0 K (decode cX7_offer 84) 84 L (.int y :: .int x :: r) h cs ss = (if x ≤ y then K 91 L r h cs ss else K 87 L r h cs ss) := by
  rw [dX7_offer_84, ey_ok, nx_if_icmp_41]
  exact and_l (by unfold jok; decide)
theorem qX7_offer_87 : ey FX7 ini rt fin K0 K (decode cX7_offer 87) 87 L (st) h cs ss = (K 88 L (.int 1 :: st) h cs ss) := by
  rw [dX7_offer_87, ey_ok, nx_iconst_11] <;> rfl
theorem qX7_offer_88 : ey FX7 ini rt fin K0 K (decode cX7_offer 88) 88 L (st) h cs ss = (K 92 L st h cs ss) := by
  rw [dX7_offer_88, ey_ok, nx_goto_29]
  exact and_l (by unfold jok; decide)
theorem qX7_offer_91 : ey FX7 ini rt fin K0 K (decode cX7_offer 91) 91 L (st) h cs ss = (K 92 L (.int 0 :: st) h cs ss) := by
  rw [dX7_offer_91, ey_ok, nx_iconst_11] <;> rfl
theorem qX7_offer_92 : ey FX7 ini rt fin K0 K (decode cX7_offer 92) 92 L (.int x :: r) h cs ss = (4 < L.length ∧ K 94 (L.set 4 (some (.int x))) r h cs ss) := by
  rw [dX7_offer_92, ey_ok, nx_istore_4] <;> rfl
theorem qX7_offer_94 : ey FX7 ini rt fin K0 K (decode cX7_offer 94) 94 L (st) h cs ss = (lhas L 0 ∧ isRf (lgt L 0) ∧ K 95 L (lgt L 0 :: st) h cs ss) := by
  rw [dX7_offer_94, ey_ok, nx_aload_n_3] <;> rfl
theorem qX7_offer_95 : ey FX7 ini rt fin K0 K (decode cX7_offer 95) 95 L (st) h cs ss = (lhas L 3 ∧ isI (lgt L 3) ∧ K 96 L (lgt L 3 :: st) h cs ss) := by
  rw [dX7_offer_95, ey_ok, nx_iload_n_1] <;> rfl
theorem qX7_offer_96 : ey FX7 ini rt fin K0 K (decode cX7_offer 96) 96 L (st) h cs ss = (lhas L 4 ∧ isI (lgt L 4) ∧ K 98 L (lgt L 4 :: st) h cs ss) := by
  rw [dX7_offer_96, ey_ok, nx_iload_0] <;> rfl
theorem qX7_offer_98 : ey FX7 ini rt fin K0 K (decode cX7_offer 98) 98 L (.int x :: r) h cs ss = (if x = 0 then K 114 L r h cs ss else K 101 L r h cs ss) := by
  rw [dX7_offer_98, ey_ok, nx_ifond_30]
  exact and_l (by unfold jok; decide)
theorem qX7_offer_101 : ey FX7 ini rt fin K0 K (decode cX7_offer 101) 101 L (st) h cs ss = (lhas L 0 ∧ isRf (lgt L 0) ∧ K 102 L (lgt L 0 :: st) h cs ss) := by
  rw [dX7_offer_101, ey_ok, nx_aload_n_3] <;> rfl
theorem qX7_offer_102 : ey FX7 ini rt fin K0 K (decode cX7_offer 102) 102 L (.ref a :: r) h cs ss = (h.1 a = some (.inl 7) ∧ K 105 L (h.2 a 28 :: r) h cs ss) := by
  rw [dX7_offer_102, ey_ok, nx_getfield_54]
  exact and_l rfl
theorem qX7_offer_105 : ey FX7 ini rt fin K0 K (decode cX7_offer 105) 105 L (st) h cs ss = (K 107 L (.int 40 :: st) h cs ss) := by
  rw [dX7_offer_105, ey_ok, nx_bipush_12] <;> rfl
theorem qX7_offer_107 : ey FX7 ini rt fin K0 K (decode cX7_offer 107) 107 L (.int y :: .int x :: r) h cs ss = (if y ≤ x then K 114 L r h cs ss else K 110 L r h cs ss) := by
  rw [dX7_offer_107, ey_ok, nx_if_icmp_39]
  exact and_l (by unfold jok; decide)
theorem qX7_offer_110 : ey FX7 ini rt fin K0 K (decode cX7_offer 110) 110 L (st) h cs ss = (K 111 L (.int 1 :: st) h cs ss) := by
  rw [dX7_offer_110, ey_ok, nx_iconst_11] <;> rfl
theorem qX7_offer_111 : ey FX7 ini rt fin K0 K (decode cX7_offer 111) 111 L (st) h cs ss = (K 115 L st h cs ss) := by
  rw [dX7_offer_111, ey_ok, nx_goto_29]
  exact and_l (by unfold jok; decide)
theorem qX7_offer_114 : ey FX7 ini rt fin K0 K (decode cX7_offer 114) 114 L (st) h cs ss = (K 115 L (.int 0 :: st) h cs ss) := by
  rw [dX7_offer_114, ey_ok, nx_iconst_11] <;> rfl
theorem qX7_offer_115 : ey FX7 ini rt fin K0 K (decode cX7_offer 115) 115 L (st) h cs ss = (K0 115 L st h cs ss) := by
  rw [dX7_offer_115, ey_ok, nx_invokevirtual_72]
theorem qX7_offer_118 : ey FX7 ini rt fin K0 K (decode cX7_offer 118) 118 L (.int x :: r) h cs ss = (if ¬ x = 0 then K 123 L r h cs ss else K 121 L r h cs ss) := by
  rw [dX7_offer_118, ey_ok, nx_ifond_31]
  exact and_l (by unfold jok; decide)
theorem qX7_offer_121 : ey FX7 ini rt fin K0 K (decode cX7_offer 121) 121 L (st) h cs ss = (K 122 L (.int 0 :: st) h cs ss) := by
  rw [dX7_offer_121, ey_ok, nx_iconst_11] <;> rfl
theorem qX7_offer_122 : ey FX7 ini rt fin K0 K (decode cX7_offer 122) 122 L ([.int x]) h cs ss = (rokI rt x ∧ fin (some (.int x)) h cs ss) := by
  rw [dX7_offer_122, ey_ok, nx_ireturn_68]
theorem qX7_offer_123 : ey FX7 ini rt fin K0 K (decode cX7_offer 123) 123 L (st) h cs ss = (lhas L 0 ∧ isRf (lgt L 0) ∧ K 124 L (lgt L 0 :: st) h cs ss) := by
  rw [dX7_offer_123, ey_ok, nx_aload_n_3] <;> rfl
theorem qX7_offer_124 : ey FX7 ini rt fin K0 K (decode cX7_offer 124) 124 L (.ref a :: r) h cs ss = (h.1 a = some (.inl 7) ∧ K 127 L (h.2 a 29 :: r) h cs ss) := by
  rw [dX7_offer_124, ey_ok, nx_getfield_54]
  exact and_l rfl
theorem qX7_offer_127 : ey FX7 ini rt fin K0 K (decode cX7_offer 127) 127 L (st) h cs ss = (lhas L 0 ∧ isRf (lgt L 0) ∧ K 128 L (lgt L 0 :: st) h cs ss) := by
  rw [dX7_offer_127, ey_ok, nx_aload_n_3] <;> rfl
theorem qX7_offer_128 : ey FX7 ini rt fin K0 K (decode cX7_offer 128) 128 L (.ref a :: r) h cs ss = (h.1 a = some (.inl 7) ∧ K 131 L (h.2 a 28 :: r) h cs ss) := by
  rw [dX7_offer_128, ey_ok, nx_getfield_54]
  exact and_l rfl
theorem qX7_offer_131 : ey FX7 ini rt fin K0 K (decode cX7_offer 131) 131 L (st) h cs ss = (lhas L 1 ∧ isI (lgt L 1) ∧ K 132 L (lgt L 1 :: st) h cs ss) := by
  rw [dX7_offer_131, ey_ok, nx_iload_n_1] <;> rfl
theorem qX7_offer_132 : ey FX7 ini rt fin K0 K (decode cX7_offer 132) 132 L (.int x :: .int i :: .ref a :: r) h cs ss = (isA (h.1 a) (fun k m => k = 0 ∧ vp_in i m) ∧ K 133 L r (h.1, hup h.2 a i.toNatClampNeg (.int x)) cs ss) := by
  rw [dX7_offer_132, ey_ok, nx_iastore_62]
theorem qX7_offer_133 : ey FX7 ini rt fin K0 K (decode cX7_offer 133) 133 L (st) h cs ss = (lhas L 0 ∧ isRf (lgt L 0) ∧ K 134 L (lgt L 0 :: st) h cs ss) := by
  rw [dX7_offer_133, ey_ok, nx_aload_n_3] <;> rfl
theorem qX7_offer_134 : ey FX7 ini rt fin K0 K (decode cX7_offer 134) 134 L (.ref a :: r) h cs ss = (h.1 a = some (.inl 7) ∧ K 137 L (h.2 a 30 :: r) h cs ss) := by
  rw [dX7_offer_134, ey_ok, nx_getfield_54]
  exact and_l rfl
theorem qX7_offer_137 : ey FX7 ini rt fin K0 K (decode cX7_offer 137) 137 L (st) h cs ss = (lhas L 0 ∧ isRf (lgt L 0) ∧ K 138 L (lgt L 0 :: st) h cs ss) := by
  rw [dX7_offer_137, ey_ok, nx_aload_n_3] <;> rfl
theorem qX7_offer_138 : ey FX7 ini rt fin K0 K (decode cX7_offer 138) 138 L (.ref a :: r) h cs ss = (h.1 a = some (.inl 7) ∧ K 141 L (h.2 a 28 :: r) h cs ss) := by
  rw [dX7_offer_138, ey_ok, nx_getfield_54]
  exact and_l rfl
theorem qX7_offer_141 : ey FX7 ini rt fin K0 K (decode cX7_offer 141) 141 L (st) h cs ss = (lhas L 2 ∧ isI (lgt L 2) ∧ K 142 L (lgt L 2 :: st) h cs ss) := by
  rw [dX7_offer_141, ey_ok, nx_iload_n_1] <;> rfl
theorem qX7_offer_142 : ey FX7 ini rt fin K0 K (decode cX7_offer 142) 142 L (.int x :: .int i :: .ref a :: r) h cs ss = (isA (h.1 a) (fun k m => k = 0 ∧ vp_in i m) ∧ K 143 L r (h.1, hup h.2 a i.toNatClampNeg (.int x)) cs ss) := by
  rw [dX7_offer_142, ey_ok, nx_iastore_62]
theorem qX7_offer_143 : ey FX7 ini rt fin K0 K (decode cX7_offer 143) 143 L (st) h cs ss = (lhas L 0 ∧ isRf (lgt L 0) ∧ K 144 L (lgt L 0 :: st) h cs ss) := by
  rw [dX7_offer_143, ey_ok, nx_aload_n_3] <;> rfl
theorem qX7_offer_144 : ey FX7 ini rt fin K0 K (decode cX7_offer 144) 144 L (.ref a :: r) h cs ss = (h.1 a = some (.inl 7) ∧ K 147 L (h.2 a 31 :: r) h cs ss) := by
  rw [dX7_offer_144, ey_ok, nx_getfield_54]
  exact and_l rfl
theorem qX7_offer_147 : ey FX7 ini rt fin K0 K (decode cX7_offer 147) 147 L (st) h cs ss = (lhas L 0 ∧ isRf (lgt L 0) ∧ K 148 L (lgt L 0 :: st) h cs ss) := by
  rw [dX7_offer_147, ey_ok, nx_aload_n_3] <;> rfl
theorem qX7_offer_148 : ey FX7 ini rt fin K0 K (decode cX7_offer 148) 148 L (.ref a :: r) h cs ss = (h.1 a = some (.inl 7) ∧ K 151 L (h.2 a 28 :: r) h cs ss) := by
  rw [dX7_offer_148, ey_ok, nx_getfield_54]
  exact and_l rfl
theorem qX7_offer_151 : ey FX7 ini rt fin K0 K (decode cX7_offer 151) 151 L (st) h cs ss = (K 152 L (.int 1 :: st) h cs ss) := by
  rw [dX7_offer_151, ey_ok, nx_iconst_11] <;> rfl
theorem qX7_offer_152 : ey FX7 ini rt fin K0 K (decode cX7_offer 152) 152 L (.int x :: .int i :: .ref a :: r) h cs ss = (isA (h.1 a) (fun k m => k = 1 ∧ vp_in i m) ∧ K 153 L r (h.1, hup h.2 a i.toNatClampNeg (narrow .boolean (.int x))) cs ss) := by
  rw [dX7_offer_152, ey_ok, nx_bastore_63]
theorem qX7_offer_153 : ey FX7 ini rt fin K0 K (decode cX7_offer 153) 153 L (st) h cs ss = (lhas L 0 ∧ isRf (lgt L 0) ∧ K 154 L (lgt L 0 :: st) h cs ss) := by
  rw [dX7_offer_153, ey_ok, nx_aload_n_3] <;> rfl
theorem qX7_offer_154 : ey FX7 ini rt fin K0 K (decode cX7_offer 154) 154 L (v :: r) h cs ss = (v.category = 1 ∧ K 155 L (v :: v :: r) h cs ss) := by
  rw [dX7_offer_154, ey_ok, nx_dup_27]
theorem qX7_offer_155 : ey FX7 ini rt fin K0 K (decode cX7_offer 155) 155 L (.ref a :: r) h cs ss = (h.1 a = some (.inl 7) ∧ K 158 L (h.2 a 28 :: r) h cs ss) := by
  rw [dX7_offer_155, ey_ok, nx_getfield_54]
  exact and_l rfl
theorem qX7_offer_158 : ey FX7 ini rt fin K0 K (decode cX7_offer 158) 158 L (st) h cs ss = (K 159 L (.int 1 :: st) h cs ss) := by
  rw [dX7_offer_158, ey_ok, nx_iconst_11] <;> rfl
theorem qX7_offer_159 : ey FX7 ini rt fin K0 K (decode cX7_offer 159) 159 L (.int y :: .int x :: r) h cs ss = (K 160 L (.int (x + y) :: r) h cs ss) := by
  rw [dX7_offer_159, ey_ok, nx_iadd_16]
theorem qX7_offer_160 : ey FX7 ini rt fin K0 K (decode cX7_offer 160) 160 L (v :: .ref a :: r) h cs ss = (h.1 a = some (.inl 7) ∧ okv (.int) v ∧ K 163 L r (h.1, hup h.2 a 28 v) cs ss) := by
  rw [dX7_offer_160, ey_ok, nx_putfield_55]
  exact (and_l rfl).trans (and_m (fun z => nomatch z))
theorem qX7_offer_163 : ey FX7 ini rt fin K0 K (decode cX7_offer 163) 163 L (st) h cs ss = (lhas L 0 ∧ isRf (lgt L 0) ∧ K 164 L (lgt L 0 :: st) h cs ss) := by
  rw [dX7_offer_163, ey_ok, nx_aload_n_3] <;> rfl
theorem qX7_offer_164 : ey FX7 ini rt fin K0 K (decode cX7_offer 164) 164 L (.ref a :: r) h cs ss = (h.1 a = some (.inl 7) ∧ K 167 L (h.2 a 28 :: r) h cs ss) := by
  rw [dX7_offer_164, ey_ok, nx_getfield_54]
  exact and_l rfl
theorem qX7_offer_167 : ey FX7 ini rt fin K0 K (decode cX7_offer 167) 167 L (st) h cs ss = (K 168 L (.int 1 :: st) h cs ss) := by
  rw [dX7_offer_167, ey_ok, nx_iconst_11] <;> rfl
theorem qX7_offer_168 : ey FX7 ini rt fin K0 K (decode cX7_offer 168) 168 L (.int y :: .int x :: r) h cs ss = (K 169 L (.int (x - y) :: r) h cs ss) := by
  rw [dX7_offer_168, ey_ok, nx_isub_17]
theorem qX7_offer_169 : ey FX7 ini rt fin K0 K (decode cX7_offer 169) 169 L ([.int x]) h cs ss = (rokI rt x ∧ fin (some (.int x)) h cs ss) := by
  rw [dX7_offer_169, ey_ok, nx_ireturn_68]
theorem qX7_countOffers_0 : ey FX7 ini rt fin K0 K (decode cX7_countOffers 0) 0 L (st) h cs ss = (K 1 L (.int 0 :: st) h cs ss) := by
  rw [dX7_countOffers_0, ey_ok, nx_iconst_11] <;> rfl
theorem qX7_countOffers_1 : ey FX7 ini rt fin K0 K (decode cX7_countOffers 1) 1 L (.int x :: r) h cs ss = (1 < L.length ∧ K 2 (L.set 1 (some (.int x))) r h cs ss) := by
  rw [dX7_countOffers_1, ey_ok, nx_istore_n_5] <;> rfl
theorem qX7_countOffers_2 : ey FX7 ini rt fin K0 K (decode cX7_countOffers 2) 2 L (st) h cs ss = (K 3 L (.int 0 :: st) h cs ss) := by
  rw [dX7_countOffers_2, ey_ok, nx_iconst_11] <;> rfl
theorem qX7_countOffers_3 : ey FX7 ini rt fin K0 K (decode cX7_countOffers 3) 3 L (.int x :: r) h cs ss = (2 < L.length ∧ K 4 (L.set 2 (some (.int x))) r h cs ss) := by
  rw [dX7_countOffers_3, ey_ok, nx_istore_n_5] <;> rfl
theorem qX7_countOffers_4 : ey FX7 ini rt fin K0 K (decode cX7_countOffers 4) 4 L (st) h cs ss = (lhas L 2 ∧ isI (lgt L 2) ∧ K 5 L (lgt L 2 :: st) h cs ss) := by
  rw [dX7_countOffers_4, ey_ok, nx_iload_n_1] <;> rfl
theorem qX7_countOffers_5 : ey FX7 ini rt fin K0 K (decode cX7_countOffers 5) 5 L (st) h cs ss = (lhas L 0 ∧ isRf (lgt L 0) ∧ K 6 L (lgt L 0 :: st) h cs ss) := by
  rw [dX7_countOffers_5, ey_ok, nx_aload_n_3] <;> rfl
theorem qX7_countOffers_6 : ey FX7 ini rt fin K0 K (decode cX7_countOffers 6) 6 L (.ref a :: r) h cs ss = (h.1 a = some (.inl 7) ∧ K 9 L (h.2 a 28 :: r) h cs ss) := by
  rw [dX7_countOffers_6, ey_ok, nx_getfield_54]
  exact and_l rfl
theorem qX7_countOffers_9 : ey FX7 ini rt fin K0 K (decode cX7_countOffers 9) 9 L (.int y :: .int x :: r) h cs ss = (if y ≤ x then K 35 L r h cs ss else K 12 L r h cs ss) := by
  rw [dX7_countOffers_9, ey_ok, nx_if_icmp_39]
  exact and_l (by unfold jok; decide)
theorem qX7_countOffers_12 : ey FX7 ini rt fin K0 K (decode cX7_countOffers 12) 12 L (st) h cs ss = (lhas L 1 ∧ isI (lgt L 1) ∧ K 13 L (lgt L 1 :: st) h cs ss) := by
  rw [dX7_countOffers_12, ey_ok, nx_iload_n_1] <;> rfl
theorem qX7_countOffers_13 : ey FX7 ini rt fin K0 K (decode cX7_countOffers 13) 13 L (st) h cs ss = (lhas L 0 ∧ isRf (lgt L 0) ∧ K 14 L (lgt L 0 :: st) h cs ss) := by
  rw [dX7_countOffers_13, ey_ok, nx_aload_n_3] <;> rfl
theorem qX7_countOffers_14 : ey FX7 ini rt fin K0 K (decode cX7_countOffers 14) 14 L (.ref a :: r) h cs ss = (h.1 a = some (.inl 7) ∧ K 17 L (h.2 a 31 :: r) h cs ss) := by
  rw [dX7_countOffers_14, ey_ok, nx_getfield_54]
  exact and_l rfl
theorem qX7_countOffers_17 : ey FX7 ini rt fin K0 K (decode cX7_countOffers 17) 17 L (st) h cs ss = (lhas L 2 ∧ isI (lgt L 2) ∧ K 18 L (lgt L 2 :: st) h cs ss) := by
  rw [dX7_countOffers_17, ey_ok, nx_iload_n_1] <;> rfl
theorem qX7_countOffers_18 : ey FX7 ini rt fin K0 K (decode cX7_countOffers 18) 18 L (.int i :: .ref a :: r) h cs ss = (isA (h.1 a) (fun k m => k = 1 ∧ vp_in i m) ∧ K 19 L (h.2 a i.toNatClampNeg :: r) h cs ss) := by
  rw [dX7_countOffers_18, ey_ok, nx_baload_58]
theorem qX7_countOffers_19 : ey FX7 ini rt fin K0 K (decode cX7_countOffers 19) 19 L (.int x :: r) h cs ss = (if x = 0 then K 26 L r h cs ss else K 22 L r h cs ss) := by
  rw [dX7_countOffers_19, ey_ok, nx_ifond_30]
  exact and_l (by unfold jok; decide)
theorem qX7_countOffers_22 : ey FX7 ini rt fin K0 K (decode cX7_countOffers 22) 22 L (st) h cs ss = (K 23 L (.int 1 :: st) h cs ss) := by
  rw [dX7_countOffers_22, ey_ok, nx_iconst_11] <;> rfl
theorem qX7_countOffers_23 : ey FX7 ini rt fin K0 K (decode cX7_countOffers 23) 23 L (st) h cs ss = (K 27 L st h cs ss) := by
  rw [dX7_countOffers_23, ey_ok, nx_goto_29]
  exact and_l (by unfold jok; decide)
theorem qX7_countOffers_26 : ey FX7 ini rt fin K0 K (decode cX7_countOffers 26) 26 L (st) h cs ss = (K 27 L (.int 0 :: st) h cs ss) := by
  rw [dX7_countOffers_26, ey_ok, nx_iconst_11] <;> rfl
theorem qX7_countOffers_27 : ey FX7 ini rt fin K0 K (decode cX7_countOffers 27) 27 L (.int y :: .int x :: r) h cs ss = (K 28 L (.int (x + y) :: r) h cs ss) := by
  rw [dX7_countOffers_27, ey_ok, nx_iadd_16]
theorem qX7_countOffers_28 : ey FX7 ini rt fin K0 K (decode cX7_countOffers 28) 28 L (.int x :: r) h cs ss = (1 < L.length ∧ K 29 (L.set 1 (some (.int x))) r h cs ss) := by
  rw [dX7_countOffers_28, ey_ok, nx_istore_n_5] <;> rfl
theorem qX7_countOffers_29 : ey FX7 ini rt fin K0 K (decode cX7_countOffers 29) 29 L (st) h cs ss = (lhas L 2 ∧ isI (lgt L 2) ∧ K 32 (L.set 2 (some (inc (lgt L 2) 1))) st h cs ss) := by
  rw [dX7_countOffers_29, ey_ok, nx_iinc_10] <;> rfl
theorem qX7_countOffers_32 : ey FX7 ini rt fin K0 K (decode cX7_countOffers 32) 32 L (st) h cs ss = (K 4 L st h cs ss) := by
  rw [dX7_countOffers_32, ey_ok, nx_goto_29]
  exact and_l (by unfold jok; decide)
theorem qX7_countOffers_35 : ey FX7 ini rt fin K0 K (decode cX7_countOffers 35) 35 L (st) h cs ss = (lhas L 1 ∧ isI (lgt L 1) ∧ K 36 L (lgt L 1 :: st) h cs ss) := by
  rw [dX7_countOffers_35, ey_ok, nx_iload_n_1] <;> rfl
theorem qX7_countOffers_36 : ey FX7 ini rt fin K0 K (decode cX7_countOffers 36) 36 L ([.int x]) h cs ss = (rokI rt x ∧ fin (some (.int x)) h cs ss) := by
  rw [dX7_countOffers_36, ey_ok, nx_ireturn_68]
theorem qX7_withdraw_0 : ey FX7 ini rt fin K0 K (decode cX7_withdraw 0) 0 L (st) h cs ss = (lhas L 0 ∧ isRf (lgt L 0) ∧ K 1 L (lgt L 0 :: st) h cs ss) := by
  rw [dX7_withdraw_0, ey_ok, nx_aload_n_3] <;> rfl
theorem qX7_withdraw_1 : ey FX7 ini rt fin K0 K (decode cX7_withdraw 1) 1 L (st) h cs ss = (lhas L 1 ∧ isI (lgt L 1) ∧ K 2 L (lgt L 1 :: st) h cs ss) := by
  rw [dX7_withdraw_1, ey_ok, nx_iload_n_1] <;> rfl
theorem qX7_withdraw_2 : ey FX7 ini rt fin K0 K (decode cX7_withdraw 2) 2 L (st) h cs ss = (K0 2 L st h cs ss) := by
  rw [dX7_withdraw_2, ey_ok, nx_invokevirtual_72]
theorem qX7_withdraw_5 : ey FX7 ini rt fin K0 K (decode cX7_withdraw 5) 5 L (.int x :: r) h cs ss = (2 < L.length ∧ K 6 (L.set 2 (some (.int x))) r h cs ss) := by
  rw [dX7_withdraw_5, ey_ok, nx_istore_n_5] <;> rfl
theorem qX7_withdraw_6 : ey FX7 ini rt fin K0 K (decode cX7_withdraw 6) 6 L (st) h cs ss = (lhas L 0 ∧ isRf (lgt L 0) ∧ K 7 L (lgt L 0 :: st) h cs ss) := by
  rw [dX7_withdraw_6, ey_ok, nx_aload_n_3] <;> rfl
theorem qX7_withdraw_7 : ey FX7 ini rt fin K0 K (decode cX7_withdraw 7) 7 L (st) h cs ss = (lhas L 2 ∧ isI (lgt L 2) ∧ K 8 L (lgt L 2 :: st) h cs ss) := by
  rw [dX7_withdraw_7, ey_ok, nx_iload_n_1] <;> rfl
theorem qX7_withdraw_8 : ey FX7 ini rt fin K0 K (decode cX7_withdraw 8) 8 L (st) h cs ss = (lhas L 2 ∧ isI (lgt L 2) ∧ K 9 L (lgt L 2 :: st) h cs ss) := by
  rw [dX7_withdraw_8, ey_ok, nx_iload_n_1] <;> rfl
theorem qX7_withdraw_9 : ey FX7 ini rt fin K0 K (decode cX7_withdraw 9) 9 L (.int x :: r) h cs ss = (if x = 0 then K 25 L r h cs ss else K 12 L r h cs ss) := by
  rw [dX7_withdraw_9, ey_ok, nx_ifond_30]
  exact and_l (by unfold jok; decide)
theorem qX7_withdraw_12 : ey FX7 ini rt fin K0 K (decode cX7_withdraw 12) 12 L (st) h cs ss = (lhas L 0 ∧ isRf (lgt L 0) ∧ K 13 L (lgt L 0 :: st) h cs ss) := by
  rw [dX7_withdraw_12, ey_ok, nx_aload_n_3] <;> rfl
theorem qX7_withdraw_13 : ey FX7 ini rt fin K0 K (decode cX7_withdraw 13) 13 L (.ref a :: r) h cs ss = (h.1 a = some (.inl 7) ∧ K 16 L (h.2 a 31 :: r) h cs ss) := by
  rw [dX7_withdraw_13, ey_ok, nx_getfield_54]
  exact and_l rfl
theorem qX7_withdraw_16 : ey FX7 ini rt fin K0 K (decode cX7_withdraw 16) 16 L (st) h cs ss = (lhas L 1 ∧ isI (lgt L 1) ∧ K 17 L (lgt L 1 :: st) h cs ss) := by
  rw [dX7_withdraw_16, ey_ok, nx_iload_n_1] <;> rfl
theorem qX7_withdraw_17 : ey FX7 ini rt fin K0 K (decode cX7_withdraw 17) 17 L (.int i :: .ref a :: r) h cs ss = (isA (h.1 a) (fun k m => k = 1 ∧ vp_in i m) ∧ K 18 L (h.2 a i.toNatClampNeg :: r) h cs ss) := by
  rw [dX7_withdraw_17, ey_ok, nx_baload_58]
theorem qX7_withdraw_18 : ey FX7 ini rt fin K0 K (decode cX7_withdraw 18) 18 L (.int x :: r) h cs ss = (if x = 0 then K 25 L r h cs ss else K 21 L r h cs ss) := by
  rw [dX7_withdraw_18, ey_ok, nx_ifond_30]
  exact and_l (by unfold jok; decide)
theorem qX7_withdraw_21 : ey FX7 ini rt fin K0 K (decode cX7_withdraw 21) 21 L (st) h cs ss = (K 22 L (.int 1 :: st) h cs ss) := by
  rw [dX7_withdraw_21, ey_ok, nx_iconst_11] <;> rfl
theorem qX7_withdraw_22 : ey FX7 ini rt fin K0 K (decode cX7_withdraw 22) 22 L (st) h cs ss = (K 26 L st h cs ss) := by
  rw [dX7_withdraw_22, ey_ok, nx_goto_29]
  exact and_l (by unfold jok; decide)
theorem qX7_withdraw_25 : ey FX7 ini rt fin K0 K (decode cX7_withdraw 25) 25 L (st) h cs ss = (K 26 L (.int 0 :: st) h cs ss) := by
  rw [dX7_withdraw_25, ey_ok, nx_iconst_11] <;> rfl
theorem qX7_withdraw_26 : ey FX7 ini rt fin K0 K (decode cX7_withdraw 26) 26 L (st) h cs ss = (K0 26 L st h cs ss) := by
  rw [dX7_withdraw_26, ey_ok, nx_invokevirtual_72]
theorem qX7_withdraw_29 : ey FX7 ini rt fin K0 K (decode cX7_withdraw 29) 29 L (.int x :: r) h cs ss = (if ¬ x = 0 then K 34 L r h cs ss else K 32 L r h cs ss) := by
  rw [dX7_withdraw_29, ey_ok, nx_ifond_31]
  exact and_l (by unfold jok; decide)
theorem qX7_withdraw_32 : ey FX7 ini rt fin K0 K (decode cX7_withdraw 32) 32 L (st) h cs ss = (K 33 L (.int 0 :: st) h cs ss) := by
  rw [dX7_withdraw_32, ey_ok, nx_iconst_11] <;> rfl
theorem qX7_withdraw_33 : ey FX7 ini rt fin K0 K (decode cX7_withdraw 33) 33 L ([.int x]) h cs ss = (rokI rt x ∧ fin (some (.int x)) h cs ss) := by
  rw [dX7_withdraw_33, ey_ok, nx_ireturn_68]
theorem qX7_withdraw_34 : ey FX7 ini rt fin K0 K (decode cX7_withdraw 34) 34 L (st) h cs ss = (lhas L 0 ∧ isRf (lgt L 0) ∧ K 35 L (lgt L 0 :: st) h cs ss) := by
  rw [dX7_withdraw_34, ey_ok, nx_aload_n_3] <;> rfl
theorem qX7_withdraw_35 : ey FX7 ini rt fin K0 K (decode cX7_withdraw 35) 35 L (.ref a :: r) h cs ss = (h.1 a = some (.inl 7) ∧ K 38 L (h.2 a 31 :: r) h cs ss) := by
  rw [dX7_withdraw_35, ey_ok, nx_getfield_54]
  exact and_l rfl
theorem qX7_withdraw_38 : ey FX7 ini rt fin K0 K (decode cX7_withdraw 38) 38 L (st) h cs ss = (lhas L 1 ∧ isI (lgt L 1) ∧ K 39 L (lgt L 1 :: st) h cs ss) := by
  rw [dX7_withdraw_38, ey_ok, nx_iload_n_1] <;> rfl
theorem qX7_withdraw_39 : ey FX7 ini rt fin K0 K (decode cX7_withdraw 39) 39 L (st) h cs ss = (K 40 L (.int 0 :: st) h cs ss) := by
  rw [dX7_withdraw_39, ey_ok, nx_iconst_11] <;> rfl
theorem qX7_withdraw_40 : ey FX7 ini rt fin K0 K (decode cX7_withdraw 40) 40 L (.int x :: .int i :: .ref a :: r) h cs ss = (isA (h.1 a) (fun k m => k = 1 ∧ vp_in i m) ∧ K 41 L r (h.1, hup h.2 a i.toNatClampNeg (narrow .boolean (.int x))) cs ss) := by
  rw [dX7_withdraw_40, ey_ok, nx_bastore_63]
theorem qX7_withdraw_41 : ey FX7 ini rt fin K0 K (decode cX7_withdraw 41) 41 L (st) h cs ss = (lhas L 0 ∧ isRf (lgt L 0) ∧ K 42 L (lgt L 0 :: st) h cs ss) := by
  rw [dX7_withdraw_41, ey_ok, nx_aload_n_3] <;> rfl
theorem qX7_withdraw_42 : ey FX7 ini rt fin K0 K (decode cX7_withdraw 42) 42 L (st) h cs ss = (K0 42 L st h cs ss) := by
  rw [dX7_withdraw_42, ey_ok, nx_invokevirtual_72]
theorem qX7_withdraw_45 : ey FX7 ini rt fin K0 K (decode cX7_withdraw 45) 45 L ([.int x]) h cs ss = (rokI rt x ∧ fin (some (.int x)) h cs ss) := by
  rw [dX7_withdraw_45, ey_ok, nx_ireturn_68]
theorem qX7_offers_0 : ey FX7 ini rt fin K0 K (decode cX7_offers 0) 0 L (st) h cs ss = (lhas L 0 ∧ isRf (lgt L 0) ∧ K 1 L (lgt L 0 :: st) h cs ss) := by
  rw [dX7_offers_0, ey_ok, nx_aload_n_3] <;> rfl
theorem qX7_offers_1 : ey FX7 ini rt fin K0 K (decode cX7_offers 1) 1 L (st) h cs ss = (K 2 L (.int 0 :: st) h cs ss) := by
  rw [dX7_offers_1, ey_ok, nx_iconst_11] <;> rfl
theorem qX7_offers_2 : ey FX7 ini rt fin K0 K (decode cX7_offers 2) 2 L (v :: .ref a :: r) h cs ss = (h.1 a = some (.inl 7) ∧ okv (.int) v ∧ K 5 L r (h.1, hup h.2 a 34 v) cs ss) := by
  rw [dX7_offers_2, ey_ok, nx_putfield_55]
  exact (and_l rfl).trans (and_m (fun z => nomatch z))
theorem qX7_offers_5 : ey FX7 ini rt fin K0 K (decode cX7_offers 5) 5 L (st) h cs ss = (lhas L 0 ∧ isRf (lgt L 0) ∧ K 6 L (lgt L 0 :: st) h cs ss) := by
  rw [dX7_offers_5, ey_ok, nx_aload_n_3] <;> rfl
theorem qX7_offers_6 : ey FX7 ini rt fin K0 K (decode cX7_offers 6) 6 L (st) h cs ss = (K0 6 L st h cs ss) := by
  rw [dX7_offers_6, ey_ok, nx_invokevirtual_72]
theorem qX7_offers_9 : ey FX7 ini rt fin K0 K (decode cX7_offers 9) 9 L ([.int x]) h cs ss = (rokI rt x ∧ fin (some (.int x)) h cs ss) := by
  rw [dX7_offers_9, ey_ok, nx_ireturn_68]
theorem qX7_giver_0 : ey FX7 ini rt fin K0 K (decode cX7_giver 0) 0 L (st) h cs ss = (K 1 L (.int 0 :: st) h cs ss) := by
  rw [dX7_giver_0, ey_ok, nx_iconst_11] <;> rfl
theorem qX7_giver_1 : ey FX7 ini rt fin K0 K (decode cX7_giver 1) 1 L (.int x :: r) h cs ss = (2 < L.length ∧ K 2 (L.set 2 (some (.int x))) r h cs ss) := by
  rw [dX7_giver_1, ey_ok, nx_istore_n_5] <;> rfl
theorem qX7_giver_2 : ey FX7 ini rt fin K0 K (decode cX7_giver 2) 2 L (st) h cs ss = (lhas L 2 ∧ isI (lgt L 2) ∧ K 3 L (lgt L 2 :: st) h cs ss) := by
  rw [dX7_giver_2, ey_ok, nx_iload_n_1] <;> rfl
theorem qX7_giver_3 : ey FX7 ini rt fin K0 K (decode cX7_giver 3) 3 L (st) h cs ss = (lhas L 0 ∧ isRf (lgt L 0) ∧ K 4 L (lgt L 0 :: st) h cs ss) := by
  rw [dX7_giver_3, ey_ok, nx_aload_n_3] <;> rfl
theorem qX7_giver_4 : ey FX7 ini rt fin K0 K (decode cX7_giver 4) 4 L (.ref a :: r) h cs ss = (h.1 a = some (.inl 7) ∧ K 7 L (h.2 a 28 :: r) h cs ss) := by
  rw [dX7_giver_4, ey_ok, nx_getfield_54]
  exact and_l rfl
theorem qX7_giver_7 : ey FX7 ini rt fin K0 K (decode cX7_giver 7) 7 L (.int y :: .int x :: r) h cs ss = (if y ≤ x then K 37 L r h cs ss else K 10 L r h cs ss) := by
  rw [dX7_giver_7, ey_ok, nx_if_icmp_39]
  exact and_l (by unfold jok; decide)
theorem qX7_giver_10 : ey FX7 ini rt fin K0 K (decode cX7_giver 10) 10 L (st) h cs ss = (lhas L 0 ∧ isRf (lgt L 0) ∧ K 11 L (lgt L 0 :: st) h cs ss) := by
  rw [dX7_giver_10, ey_ok, nx_aload_n_3] <;> rfl
theorem qX7_giver_11 : ey FX7 ini rt fin K0 K (decode cX7_giver 11) 11 L (.ref a :: r) h cs ss = (h.1 a = some (.inl 7) ∧ K 14 L (h.2 a 31 :: r) h cs ss) := by
  rw [dX7_giver_11, ey_ok, nx_getfield_54]
  exact and_l rfl
theorem qX7_giver_14 : ey FX7 ini rt fin K0 K (decode cX7_giver 14) 14 L (st) h cs ss = (lhas L 2 ∧ isI (lgt L 2) ∧ K 15 L (lgt L 2 :: st) h cs ss) := by
  rw [dX7_giver_14, ey_ok, nx_iload_n_1] <;> rfl
theorem qX7_giver_15 : ey FX7 ini rt fin K0 K (decode cX7_giver 15) 15 L (.int i :: .ref a :: r) h cs ss = (isA (h.1 a) (fun k m => k = 1 ∧ vp_in i m) ∧ K 16 L (h.2 a i.toNatClampNeg :: r) h cs ss) := by
  rw [dX7_giver_15, ey_ok, nx_baload_58]
theorem qX7_giver_16 : ey FX7 ini rt fin K0 K (decode cX7_giver 16) 16 L (.int x :: r) h cs ss = (if x = 0 then K 31 L r h cs ss else K 19 L r h cs ss) := by
  rw [dX7_giver_16, ey_ok, nx_ifond_30]
  exact and_l (by unfold jok; decide)
theorem qX7_giver_19 : ey FX7 ini rt fin K0 K (decode cX7_giver 19) 19 L (st) h cs ss = (lhas L 0 ∧ isRf (lgt L 0) ∧ K 20 L (lgt L 0 :: st) h cs ss) := by
  rw [dX7_giver_19, ey_ok, nx_aload_n_3] <;> rfl
theorem qX7_giver_20 : ey FX7 ini rt fin K0 K (decode cX7_giver 20) 20 L (.ref a :: r) h cs ss = (h.1 a = some (.inl 7) ∧ K 23 L (h.2 a 29 :: r) h cs ss) := by
  rw [dX7_giver_20, ey_ok, nx_getfield_54]
  exact and_l rfl
theorem qX7_giver_23 : ey FX7 ini rt fin K0 K (decode cX7_giver 23) 23 L (st) h cs ss = (lhas L 2 ∧ isI (lgt L 2) ∧ K 24 L (lgt L 2 :: st) h cs ss) := by
  rw [dX7_giver_23, ey_ok, nx_iload_n_1] <;> rfl
theorem qX7_giver_24 : ey FX7 ini rt fin K0 K (decode cX7_giver 24) 24 L (.int i :: .ref a :: r) h cs ss = (isA (h.1 a) (fun k m => k = 0 ∧ vp_in i m) ∧ K 25 L (h.2 a i.toNatClampNeg :: r) h cs ss) := by
  rw [dX7_giver_24, ey_ok, nx_iaload_57]
theorem qX7_giver_25 : ey FX7 ini rt fin K0 K (decode cX7_giver 25) 25 L (st) h cs ss = (lhas L 1 ∧ isI (lgt L 1) ∧ K 26 L (lgt L 1 :: st) h cs ss) := by
  rw [dX7_giver_25, ey_ok, nx_iload_n_1] <;> rfl
theorem qX7_giver_26 : ey FX7 ini rt fin K0 K (decode cX7_giver 26) 26 L (.int y :: .int x :: r) h cs ss = (if ¬ x = y then K 31 L r h cs ss else K 29 L r h cs ss) := by
  rw [dX7_giver_26, ey_ok, nx_if_icmp_37]
  exact and_l (by unfold jok; decide)
theorem qX7_giver_29 : ey FX7 ini rt fin K0 K (decode cX7_giver 29) 29 L (st) h cs ss = (lhas L 2 ∧ isI (lgt L 2) ∧ K 30 L (lgt L 2 :: st) h cs ss) := by
  rw [dX7_giver_29, ey_ok, nx_iload_n_1] <;> rfl
theorem qX7_giver_30 : ey FX7 ini rt fin K0 K (decode cX7_giver 30) 30 L ([.int x]) h cs ss = (rokI rt x ∧ fin (some (.int x)) h cs ss) := by
  rw [dX7_giver_30, ey_ok, nx_ireturn_68]
theorem qX7_giver_31 : ey FX7 ini rt fin K0 K (decode cX7_giver 31) 31 L (st) h cs ss = (lhas L 2 ∧ isI (lgt L 2) ∧ K 34 (L.set 2 (some (inc (lgt L 2) 1))) st h cs ss) := by
  rw [dX7_giver_31, ey_ok, nx_iinc_10] <;> rfl
theorem qX7_giver_34 : ey FX7 ini rt fin K0 K (decode cX7_giver 34) 34 L (st) h cs ss = (K 2 L st h cs ss) := by
  rw [dX7_giver_34, ey_ok, nx_goto_29]
  exact and_l (by unfold jok; decide)
theorem qX7_giver_37 : ey FX7 ini rt fin K0 K (decode cX7_giver 37) 37 L (st) h cs ss = (K 38 L (.int (-1) :: st) h cs ss) := by
  rw [dX7_giver_37, ey_ok, nx_iconst_11] <;> rfl
theorem qX7_giver_38 : ey FX7 ini rt fin K0 K (decode cX7_giver 38) 38 L ([.int x]) h cs ss = (rokI rt x ∧ fin (some (.int x)) h cs ss) := by
  rw [dX7_giver_38, ey_ok, nx_ireturn_68]
theorem qX7_isInRing_0 : ey FX7 ini rt fin K0 K (decode cX7_isInRing 0) 0 L (st) h cs ss = (K 1 L (.int 0 :: st) h cs ss) := by
  rw [dX7_isInRing_0, ey_ok, nx_iconst_11] <;> rfl
theorem qX7_isInRing_1 : ey FX7 ini rt fin K0 K (decode cX7_isInRing 1) 1 L (.int x :: r) h cs ss = (2 < L.length ∧ K 2 (L.set 2 (some (.int x))) r h cs ss) := by
  rw [dX7_isInRing_1, ey_ok, nx_istore_n_5] <;> rfl
theorem qX7_isInRing_2 : ey FX7 ini rt fin K0 K (decode cX7_isInRing 2) 2 L (st) h cs ss = (K 3 L (.int 0 :: st) h cs ss) := by
  rw [dX7_isInRing_2, ey_ok, nx_iconst_11] <;> rfl
theorem qX7_isInRing_3 : ey FX7 ini rt fin K0 K (decode cX7_isInRing 3) 3 L (.int x :: r) h cs ss = (3 < L.length ∧ K 4 (L.set 3 (some (.int x))) r h cs ss) := by
  rw [dX7_isInRing_3, ey_ok, nx_istore_n_5] <;> rfl
theorem qX7_isInRing_4 : ey FX7 ini rt fin K0 K (decode cX7_isInRing 4) 4 L (st) h cs ss = (lhas L 3 ∧ isI (lgt L 3) ∧ K 5 L (lgt L 3 :: st) h cs ss) := by
  rw [dX7_isInRing_4, ey_ok, nx_iload_n_1] <;> rfl
theorem qX7_isInRing_5 : ey FX7 ini rt fin K0 K (decode cX7_isInRing 5) 5 L (st) h cs ss = (lhas L 0 ∧ isRf (lgt L 0) ∧ K 6 L (lgt L 0 :: st) h cs ss) := by
  rw [dX7_isInRing_5, ey_ok, nx_aload_n_3] <;> rfl
theorem qX7_isInRing_6 : ey FX7 ini rt fin K0 K (decode cX7_isInRing 6) 6 L (.ref a :: r) h cs ss = (h.1 a = some (.inl 7) ∧ K 9 L (h.2 a 32 :: r) h cs ss) := by
  rw [dX7_isInRing_6, ey_ok, nx_getfield_54]
  exact and_l rfl
theorem qX7_isInRing_9 : ey FX7 ini rt fin K0 K (decode cX7_isInRing 9) 9 L (.int y :: .int x :: r) h cs ss = (if y ≤ x then K 48 L r h cs ss else K 12 L r h cs ss) := by
  rw [dX7_isInRing_9, ey_ok, nx_if_icmp_39]
  exact and_l (by unfold jok; decide)
theorem qX7_isInRing_12 : ey FX7 ini rt fin K0 K (decode cX7_isInRing 12) 12 L (st) h cs ss = (lhas L 2 ∧ isI (lgt L 2) ∧ K 13 L (lgt L 2 :: st) h cs ss) := by
  rw [dX7_isInRing_12, ey_ok, nx_iload_n_1] <;> rfl
theorem qX7_isInRing_13 : ey FX7 ini rt fin K0 K (decode cX7_isInRing 13) 13 L (.int x :: r) h cs ss = (if ¬ x = 0 then K 36 L r h cs ss else K 16 L r h cs ss) := by
  rw [dX7_isInRing_13, ey_ok, nx_ifond_31]
  exact and_l (by unfold jok; decide)
theorem qX7_isInRing_16 : ey FX7 ini rt fin K0 K (decode cX7_isInRing 16) 16 L (st) h cs ss = (lhas L 0 ∧ isRf (lgt L 0) ∧ K 17 L (lgt L 0 :: st) h cs ss) := by
  rw [dX7_isInRing_16, ey_ok, nx_aload_n_3] <;> rfl
theorem qX7_isInRing_17 : ey FX7 ini rt fin K0 K (decode cX7_isInRing 17) 17 L (.ref a :: r) h cs ss = (h.1 a = some (.inl 7) ∧ K 20 L (h.2 a 7 :: r) h cs ss) := by
  rw [dX7_isInRing_17, ey_ok, nx_getfield_54]
  exact and_l rfl
theorem qX7_isInRing_20 : ey FX7 ini rt fin K0 K (decode cX7_isInRing 20) 20 L (st) h cs ss = (lhas L 0 ∧ isRf (lgt L 0) ∧ K 21 L (lgt L 0 :: st) h cs ss) := by
  rw [dX7_isInRing_20, ey_ok, nx_aload_n_3] <;> rfl
theorem qX7_isInRing_21 : ey FX7 ini rt fin K0 K (decode cX7_isInRing 21) 21 L (.ref a :: r) h cs ss = (h.1 a = some (.inl 7) ∧ K 24 L (h.2 a 29 :: r) h cs ss) := by
  rw [dX7_isInRing_21, ey_ok, nx_getfield_54]
  exact and_l rfl
theorem qX7_isInRing_24 : ey FX7 ini rt fin K0 K (decode cX7_isInRing 24) 24 L (st) h cs ss = (lhas L 0 ∧ isRf (lgt L 0) ∧ K 25 L (lgt L 0 :: st) h cs ss) := by
  rw [dX7_isInRing_24, ey_ok, nx_aload_n_3] <;> rfl
theorem qX7_isInRing_25 : ey FX7 ini rt fin K0 K (decode cX7_isInRing 25) 25 L (.ref a :: r) h cs ss = (h.1 a = some (.inl 7) ∧ K 28 L (h.2 a 33 :: r) h cs ss) := by
  rw [dX7_isInRing_25, ey_ok, nx_getfield_54]
  exact and_l rfl
theorem qX7_isInRing_28 : ey FX7 ini rt fin K0 K (decode cX7_isInRing 28) 28 L (st) h cs ss = (lhas L 3 ∧ isI (lgt L 3) ∧ K 29 L (lgt L 3 :: st) h cs ss) := by
  rw [dX7_isInRing_28, ey_ok, nx_iload_n_1] <;> rfl
theorem qX7_isInRing_29 : ey FX7 ini rt fin K0 K (decode cX7_isInRing 29) 29 L (.int i :: .ref a :: r) h cs ss = (isA (h.1 a) (fun k m => k = 0 ∧ vp_in i m) ∧ K 30 L (h.2 a i.toNatClampNeg :: r) h cs ss) := by
  rw [dX7_isInRing_29, ey_ok, nx_iaload_57]
theorem qX7_isInRing_30 : ey FX7 ini rt fin K0 K (decode cX7_isInRing 30) 30 L (.int i :: .ref a :: r) h cs ss = (isA (h.1 a) (fun k m => k = 0 ∧ vp_in i m) ∧ K 31 L (h.2 a i.toNatClampNeg :: r) h cs ss) := by
  rw [dX7_isInRing_30, ey_ok, nx_iaload_57]
theorem qX7_isInRing_31 : ey FX7 ini rt fin K0 K (decode cX7_isInRing 31) 31 L (.int i :: .ref a :: r) h cs ss = (isA (h.1 a) (fun k m => k = 0 ∧ vp_in i m) ∧ K 32 L (h.2 a i.toNatClampNeg :: r) h cs ss) := by
  rw [dX7_isInRing_31, ey_ok, nx_iaload_57]
theorem qX7_isInRing_32 : ey FX7 ini rt fin K0 K (decode cX7_isInRing 32) 32 L (st) h cs ss = (lhas L 1 ∧ isI (lgt L 1) ∧ K 33 L (lgt L 1 :: st) h cs ss) := by
  rw [dX7_isInRing_32, ey_ok, nx_iload_n_1] <;> rfl
theorem qX7_isInRing_33 : ey FX7 ini rt fin K0 K (decode cX7_isInRing 33) 33 L (.int y :: .int x :: r) h cs ss = (if ¬ x = y then K 40 L r h cs ss else K 36 L r h cs ss) := by
  rw [dX7_isInRing_33, ey_ok, nx_if_icmp_37]
  exact and_l (by unfold jok; decide)
theorem qX7_isInRing_36 : ey FX7 ini rt fin K0 K (decode cX7_isInRing 36) 36 L (st) h cs ss = (K 37 L (.int 1 :: st) h cs ss) := by
  rw [dX7_isInRing_36, ey_ok, nx_iconst_11] <;> rfl
theorem qX7_isInRing_37 : ey FX7 ini rt fin K0 K (decode cX7_isInRing 37) 37 L (st) h cs ss = (K 41 L st h cs ss) := by
  rw [dX7_isInRing_37, ey_ok, nx_goto_29]
  exact and_l (by unfold jok; decide)
theorem qX7_isInRing_40 : ey FX7 ini rt fin K0 K (decode cX7_isInRing 40) 40 L (st) h cs ss = (K 41 L (.int 0 :: st) h cs ss) := by
  rw [dX7_isInRing_40, ey_ok, nx_iconst_11] <;> rfl
theorem qX7_isInRing_41 : ey FX7 ini rt fin K0 K (decode cX7_isInRing 41) 41 L (.int x :: r) h cs ss = (2 < L.length ∧ K 42 (L.set 2 (some (.int x))) r h cs ss) := by
  rw [dX7_isInRing_41, ey_ok, nx_istore_n_5] <;> rfl
theorem qX7_isInRing_42 : ey FX7 ini rt fin K0 K (decode cX7_isInRing 42) 42 L (st) h cs ss = (lhas L 3 ∧ isI (lgt L 3) ∧ K 45 (L.set 3 (some (inc (lgt L 3) 1))) st h cs ss) := by
  rw [dX7_isInRing_42, ey_ok, nx_iinc_10] <;> rfl
theorem qX7_isInRing_45 : ey FX7 ini rt fin K0 K (decode cX7_isInRing 45) 45 L (st) h cs ss = (K 4 L st h cs ss) := by
  rw [dX7_isInRing_45, ey_ok, nx_goto_29]
  exact and_l (by unfold jok; decide)
theorem qX7_isInRing_48 : ey FX7 ini rt fin K0 K (decode cX7_isInRing 48) 48 L (st) h cs ss = (lhas L 2 ∧ isI (lgt L 2) ∧ K 49 L (lgt L 2 :: st) h cs ss) := by
  rw [dX7_isInRing_48, ey_ok, nx_iload_n_1] <;> rfl
theorem qX7_isInRing_49 : ey FX7 ini rt fin K0 K (decode cX7_isInRing 49) 49 L ([.int x]) h cs ss = (rokI rt x ∧ fin (some (.int x)) h cs ss) := by
  rw [dX7_isInRing_49, ey_ok, nx_ireturn_68]
theorem qX7_find_0 : ey FX7 ini rt fin K0 K (decode cX7_find 0) 0 L (st) h cs ss = (lhas L 0 ∧ isRf (lgt L 0) ∧ K 1 L (lgt L 0 :: st) h cs ss) := by
  rw [dX7_find_0, ey_ok, nx_aload_n_3] <;> rfl
theorem qX7_find_1 : ey FX7 ini rt fin K0 K (decode cX7_find 1) 1 L (st) h cs ss = (K 2 L (.int 0 :: st) h cs ss) := by
  rw [dX7_find_1, ey_ok, nx_iconst_11] <;> rfl
theorem qX7_find_2 : ey FX7 ini rt fin K0 K (decode cX7_find 2) 2 L (v :: .ref a :: r) h cs ss = (h.1 a = some (.inl 7) ∧ okv (.int) v ∧ K 5 L r (h.1, hup h.2 a 32 v) cs ss) := by
  rw [dX7_find_2, ey_ok, nx_putfield_55]
  exact (and_l rfl).trans (and_m (fun z => nomatch z))
theorem qX7_find_5 : ey FX7 ini rt fin K0 K (decode cX7_find 5) 5 L (st) h cs ss = (lhas L 0 ∧ isRf (lgt L 0) ∧ K 6 L (lgt L 0 :: st) h cs ss) := by
  rw [dX7_find_5, ey_ok, nx_aload_n_3] <;> rfl
theorem qX7_find_6 : ey FX7 ini rt fin K0 K (decode cX7_find 6) 6 L (.ref a :: r) h cs ss = (h.1 a = some (.inl 7) ∧ K 9 L (h.2 a 31 :: r) h cs ss) := by
  rw [dX7_find_6, ey_ok, nx_getfield_54]
  exact and_l rfl
theorem qX7_find_9 : ey FX7 ini rt fin K0 K (decode cX7_find 9) 9 L (st) h cs ss = (lhas L 1 ∧ isI (lgt L 1) ∧ K 10 L (lgt L 1 :: st) h cs ss) := by
  rw [dX7_find_9, ey_ok, nx_iload_n_1] <;> rfl
theorem qX7_find_10 : ey FX7 ini rt fin K0 K (decode cX7_find 10) 10 L (.int i :: .ref a :: r) h cs ss = (isA (h.1 a) (fun k m => k = 1 ∧ vp_in i m) ∧ K 11 L (h.2 a i.toNatClampNeg :: r) h cs ss) := by
  rw [dX7_find_10, ey_ok, nx_baload_58]
theorem qX7_find_11 : ey FX7 ini rt fin K0 K (decode cX7_find 11) 11 L (.int x :: r) h cs ss = (if x = 0 then K 18 L r h cs ss else K 14 L r h cs ss) := by
  rw [dX7_find_11, ey_ok, nx_ifond_30]
  exact and_l (by unfold jok; decide)
theorem qX7_find_14 : ey FX7 ini rt fin K0 K (decode cX7_find 14) 14 L (st) h cs ss = (lhas L 1 ∧ isI (lgt L 1) ∧ K 15 L (lgt L 1 :: st) h cs ss) := by
  rw [dX7_find_14, ey_ok, nx_iload_n_1] <;> rfl
theorem qX7_find_15 : ey FX7 ini rt fin K0 K (decode cX7_find 15) 15 L (st) h cs ss = (K 19 L st h cs ss) := by
  rw [dX7_find_15, ey_ok, nx_goto_29]
  exact and_l (by unfold jok; decide)
theorem qX7_find_18 : ey FX7 ini rt fin K0 K (decode cX7_find 18) 18 L (st) h cs ss = (K 19 L (.int (-1) :: st) h cs ss) := by
  rw [dX7_find_18, ey_ok, nx_iconst_11] <;> rfl
theorem qX7_find_19 : ey FX7 ini rt fin K0 K (decode cX7_find 19) 19 L (.int x :: r) h cs ss = (2 < L.length ∧ K 20 (L.set 2 (some (.int x))) r h cs ss) := by
  rw [dX7_find_19, ey_ok, nx_istore_n_5] <;> rfl
theorem qX7_find_20 : ey FX7 ini rt fin K0 K (decode cX7_find 20) 20 L (st) h cs ss = (lhas L 2 ∧ isI (lgt L 2) ∧ K 21 L (lgt L 2 :: st) h cs ss) := by
  rw [dX7_find_20, ey_ok, nx_iload_n_1] <;> rfl
theorem qX7_find_21 : ey FX7 ini rt fin K0 K (decode cX7_find 21) 21 L (st) h cs ss = (K 22 L (.int (-1) :: st) h cs ss) := by
  rw [dX7_find_21, ey_ok, nx_iconst_11] <;> rfl
theorem qX7_find_22 : ey FX7 ini rt fin K0 K (decode cX7_find 22) 22 L (.int y :: .int x :: r) h cs ss = (if x = y then K 106 L r h cs ss else K 25 L r h cs ss) := by
  rw [dX7_find_22, ey_ok, nx_if_icmp_36]
  exact and_l (by unfold jok; decide)
theorem qX7_find_25 : ey FX7 ini rt fin K0 K (decode cX7_find 25) 25 L (st) h cs ss = (lhas L 0 ∧ isRf (lgt L 0) ∧ K 26 L (lgt L 0 :: st) h cs ss) := by
  rw [dX7_find_25, ey_ok, nx_aload_n_3] <;> rfl
theorem qX7_find_26 : ey FX7 ini rt fin K0 K (decode cX7_find 26) 26 L (.ref a :: r) h cs ss = (h.1 a = some (.inl 7) ∧ K 29 L (h.2 a 32 :: r) h cs ss) := by
  rw [dX7_find_26, ey_ok, nx_getfield_54]
  exact and_l rfl
theorem qX7_find_29 : ey FX7 ini rt fin K0 K (decode cX7_find 29) 29 L (st) h cs ss = (K 31 L (.int 8 :: st) h cs ss) := by
  rw [dX7_find_29, ey_ok, nx_bipush_12] <;> rfl
theorem qX7_find_31 : ey FX7 ini rt fin K0 K (decode cX7_find 31) 31 L (.int y :: .int x :: r) h cs ss = (if y ≤ x then K 106 L r h cs ss else K 34 L r h cs ss) := by
  rw [dX7_find_31, ey_ok, nx_if_icmp_39]
  exact and_l (by unfold jok; decide)
theorem qX7_find_34 : ey FX7 ini rt fin K0 K (decode cX7_find 34) 34 L (st) h cs ss = (lhas L 0 ∧ isRf (lgt L 0) ∧ K 35 L (lgt L 0 :: st) h cs ss) := by
  rw [dX7_find_34, ey_ok, nx_aload_n_3] <;> rfl
theorem qX7_find_35 : ey FX7 ini rt fin K0 K (decode cX7_find 35) 35 L (st) h cs ss = (lhas L 0 ∧ isRf (lgt L 0) ∧ K 36 L (lgt L 0 :: st) h cs ss) := by
  rw [dX7_find_35, ey_ok, nx_aload_n_3] <;> rfl
theorem qX7_find_36 : ey FX7 ini rt fin K0 K (decode cX7_find 36) 36 L (.ref a :: r) h cs ss = (h.1 a = some (.inl 7) ∧ K 39 L (h.2 a 7 :: r) h cs ss) := by
  rw [dX7_find_36, ey_ok, nx_getfield_54]
  exact and_l rfl
theorem qX7_find_39 : ey FX7 ini rt fin K0 K (decode cX7_find 39) 39 L (st) h cs ss = (lhas L 0 ∧ isRf (lgt L 0) ∧ K 40 L (lgt L 0 :: st) h cs ss) := by
  rw [dX7_find_39, ey_ok, nx_aload_n_3] <;> rfl
theorem qX7_find_40 : ey FX7 ini rt fin K0 K (decode cX7_find 40) 40 L (.ref a :: r) h cs ss = (h.1 a = some (.inl 7) ∧ K 43 L (h.2 a 29 :: r) h cs ss) := by
  rw [dX7_find_40, ey_ok, nx_getfield_54]
  exact and_l rfl
theorem qX7_find_43 : ey FX7 ini rt fin K0 K (decode cX7_find 43) 43 L (st) h cs ss = (lhas L 2 ∧ isI (lgt L 2) ∧ K 44 L (lgt L 2 :: st) h cs ss) := by
  rw [dX7_find_43, ey_ok, nx_iload_n_1] <;> rfl
theorem qX7_find_44 : ey FX7 ini rt fin K0 K (decode cX7_find 44) 44 L (.int i :: .ref a :: r) h cs ss = (isA (h.1 a) (fun k m => k = 0 ∧ vp_in i m) ∧ K 45 L (h.2 a i.toNatClampNeg :: r) h cs ss) := by
  rw [dX7_find_44, ey_ok, nx_iaload_57]
theorem qX7_find_45 : ey FX7 ini rt fin K0 K (decode cX7_find 45) 45 L (.int i :: .ref a :: r) h cs ss = (isA (h.1 a) (fun k m => k = 0 ∧ vp_in i m) ∧ K 46 L (h.2 a i.toNatClampNeg :: r) h cs ss) := by
  rw [dX7_find_45, ey_ok, nx_iaload_57]
theorem qX7_find_46 : ey FX7 ini rt fin K0 K (decode cX7_find 46) 46 L (st) h cs ss = (K0 46 L st h cs ss) := by
  rw [dX7_find_46, ey_ok, nx_invokevirtual_72]
theorem qX7_find_49 : ey FX7 ini rt fin K0 K (decode cX7_find 49) 49 L (.int x :: r) h cs ss = (if ¬ x = 0 then K 106 L r h cs ss else K 52 L r h cs ss) := by
  rw [dX7_find_49, ey_ok, nx_ifond_31]
  exact and_l (by unfold jok; decide)
theorem qX7_find_52 : ey FX7 ini rt fin K0 K (decode cX7_find 52) 52 L (st) h cs ss = (lhas L 0 ∧ isRf (lgt L 0) ∧ K 53 L (lgt L 0 :: st) h cs ss) := by
  rw [dX7_find_52, ey_ok, nx_aload_n_3] <;> rfl
theorem qX7_find_53 : ey FX7 ini rt fin K0 K (decode cX7_find 53) 53 L (.ref a :: r) h cs ss = (h.1 a = some (.inl 7) ∧ K 56 L (h.2 a 33 :: r) h cs ss) := by
  rw [dX7_find_53, ey_ok, nx_getfield_54]
  exact and_l rfl
theorem qX7_find_56 : ey FX7 ini rt fin K0 K (decode cX7_find 56) 56 L (st) h cs ss = (lhas L 0 ∧ isRf (lgt L 0) ∧ K 57 L (lgt L 0 :: st) h cs ss) := by
  rw [dX7_find_56, ey_ok, nx_aload_n_3] <;> rfl
theorem qX7_find_57 : ey FX7 ini rt fin K0 K (decode cX7_find 57) 57 L (.ref a :: r) h cs ss = (h.1 a = some (.inl 7) ∧ K 60 L (h.2 a 32 :: r) h cs ss) := by
  rw [dX7_find_57, ey_ok, nx_getfield_54]
  exact and_l rfl
theorem qX7_find_60 : ey FX7 ini rt fin K0 K (decode cX7_find 60) 60 L (st) h cs ss = (lhas L 2 ∧ isI (lgt L 2) ∧ K 61 L (lgt L 2 :: st) h cs ss) := by
  rw [dX7_find_60, ey_ok, nx_iload_n_1] <;> rfl
theorem qX7_find_61 : ey FX7 ini rt fin K0 K (decode cX7_find 61) 61 L (.int x :: .int i :: .ref a :: r) h cs ss = (isA (h.1 a) (fun k m => k = 0 ∧ vp_in i m) ∧ K 62 L r (h.1, hup h.2 a i.toNatClampNeg (.int x)) cs ss) := by
  rw [dX7_find_61, ey_ok, nx_iastore_62]
theorem qX7_find_62 : ey FX7 ini rt fin K0 K (decode cX7_find 62) 62 L (st) h cs ss = (lhas L 0 ∧ isRf (lgt L 0) ∧ K 63 L (lgt L 0 :: st) h cs ss) := by
  rw [dX7_find_62, ey_ok, nx_aload_n_3] <;> rfl
theorem qX7_find_63 : ey FX7 ini rt fin K0 K (decode cX7_find 63) 63 L (v :: r) h cs ss = (v.category = 1 ∧ K 64 L (v :: v :: r) h cs ss) := by
  rw [dX7_find_63, ey_ok, nx_dup_27]
theorem qX7_find_64 : ey FX7 ini rt fin K0 K (decode cX7_find 64) 64 L (.ref a :: r) h cs ss = (h.1 a = some (.inl 7) ∧ K 67 L (h.2 a 32 :: r) h cs ss) := by
  rw [dX7_find_64, ey_ok, nx_getfield_54]
  exact and_l rfl
theorem qX7_find_67 : ey FX7 ini rt fin K0 K (decode cX7_find 67) 67 L (st) h cs ss = (K 68 L (.int 1 :: st) h cs ss) := by
  rw [dX7_find_67, ey_ok, nx_iconst_11] <;> rfl
theorem qX7_find_68 : ey FX7 ini rt fin K0 K (decode cX7_find 68) 68 L (.int y :: .int x :: r) h cs ss = (K 69 L (.int (x + y) :: r) h cs ss) := by
  rw [dX7_find_68, ey_ok, nx_iadd_16]
theorem qX7_find_69 : ey FX7 ini rt fin K0 K (decode cX7_find 69) 69 L (v :: .ref a :: r) h cs ss = (h.1 a = some (.inl 7) ∧ okv (.int) v ∧ K 72 L r (h.1, hup h.2 a 32 v) cs ss) := by
  rw [dX7_find_69, ey_ok, nx_putfield_55]
  exact (and_l rfl).trans (and_m (fun z => nomatch z))
theorem qX7_find_72 : ey FX7 ini rt fin K0 K (decode cX7_find 72) 72 L (st) h cs ss = (lhas L 0 ∧ isRf (lgt L 0) ∧ K 73 L (lgt L 0 :: st) h cs ss) := by
  rw [dX7_find_72, ey_ok, nx_aload_n_3] <;> rfl
theorem qX7_find_73 : ey FX7 ini rt fin K0 K (decode cX7_find 73) 73 L (.ref a :: r) h cs ss = (h.1 a = some (.inl 7) ∧ K 76 L (h.2 a 30 :: r) h cs ss) := by
  rw [dX7_find_73, ey_ok, nx_getfield_54]
  exact and_l rfl
theorem qX7_find_76 : ey FX7 ini rt fin K0 K (decode cX7_find 76) 76 L (st) h cs ss = (lhas L 2 ∧ isI (lgt L 2) ∧ K 77 L (lgt L 2 :: st) h cs ss) := by
  rw [dX7_find_76, ey_ok, nx_iload_n_1] <;> rfl
theorem qX7_find_77 : ey FX7 ini rt fin K0 K (decode cX7_find 77) 77 L (.int i :: .ref a :: r) h cs ss = (isA (h.1 a) (fun k m => k = 0 ∧ vp_in i m) ∧ K 78 L (h.2 a i.toNatClampNeg :: r) h cs ss) := by
  rw [dX7_find_77, ey_ok, nx_iaload_57]
theorem qX7_find_78 : ey FX7 ini rt fin K0 K (decode cX7_find 78) 78 L (st) h cs ss = (lhas L 0 ∧ isRf (lgt L 0) ∧ K 79 L (lgt L 0 :: st) h cs ss) := by
  rw [dX7_find_78, ey_ok, nx_aload_n_3] <;> rfl
theorem qX7_find_79 : ey FX7 ini rt fin K0 K (decode cX7_find 79) 79 L (.ref a :: r) h cs ss = (h.1 a = some (.inl 7) ∧ K 82 L (h.2 a 29 :: r) h cs ss) := by
  rw [dX7_find_79, ey_ok, nx_getfield_54]
  exact and_l rfl
theorem qX7_find_82 : ey FX7 ini rt fin K0 K (decode cX7_find 82) 82 L (st) h cs ss = (lhas L 1 ∧ isI (lgt L 1) ∧ K 83 L (lgt L 1 :: st) h cs ss) := by
  rw [dX7_find_82, ey_ok, nx_iload_n_1] <;> rfl
theorem qX7_find_83 : ey FX7 ini rt fin K0 K (decode cX7_find 83) 83 L (.int i :: .ref a :: r) h cs ss = (isA (h.1 a) (fun k m => k = 0 ∧ vp_in i m) ∧ K 84 L (h.2 a i.toNatClampNeg :: r) h cs ss) := by
  rw [dX7_find_83, ey_ok, nx_iaload_57]
theorem qX7_find_84 : ey FX7 ini rt fin K0 K (decode cX7_find 84) 84 L (.int y :: .int x :: r) h cs ss = (if ¬ x = y then K 92 L r h cs ss else K 87 L r h cs ss) := by
  rw [dX7_find_84, ey_ok, nx_if_icmp_37]
  exact and_l (by unfold jok; decide)
theorem qX7_find_87 : ey FX7 ini rt fin K0 K (decode cX7_find 87) 87 L (st) h cs ss = (lhas L 0 ∧ isRf (lgt L 0) ∧ K 88 L (lgt L 0 :: st) h cs ss) := by
  rw [dX7_find_87, ey_ok, nx_aload_n_3] <;> rfl
theorem qX7_find_88 : ey FX7 ini rt fin K0 K (decode cX7_find 88) 88 L (.ref a :: r) h cs ss = (h.1 a = some (.inl 7) ∧ K 91 L (h.2 a 32 :: r) h cs ss) := by
  rw [dX7_find_88, ey_ok, nx_getfield_54]
  exact and_l rfl
theorem qX7_find_91 : ey FX7 ini rt fin K0 K (decode cX7_find 91) 91 L ([.int x]) h cs ss = (rokI rt x ∧ fin (some (.int x)) h cs ss) := by
  rw [dX7_find_91, ey_ok, nx_ireturn_68]
theorem qX7_find_92 : ey FX7 ini rt fin K0 K (decode cX7_find 92) 92 L (st) h cs ss = (lhas L 0 ∧ isRf (lgt L 0) ∧ K 93 L (lgt L 0 :: st) h cs ss) := by
  rw [dX7_find_92, ey_ok, nx_aload_n_3] <;> rfl
theorem qX7_find_93 : ey FX7 ini rt fin K0 K (decode cX7_find 93) 93 L (st) h cs ss = (lhas L 0 ∧ isRf (lgt L 0) ∧ K 94 L (lgt L 0 :: st) h cs ss) := by
  rw [dX7_find_93, ey_ok, nx_aload_n_3] <;> rfl
theorem qX7_find_94 : ey FX7 ini rt fin K0 K (decode cX7_find 94) 94 L (.ref a :: r) h cs ss = (h.1 a = some (.inl 7) ∧ K 97 L (h.2 a 30 :: r) h cs ss) := by
  rw [dX7_find_94, ey_ok, nx_getfield_54]
  exact and_l rfl
theorem qX7_find_97 : ey FX7 ini rt fin K0 K (decode cX7_find 97) 97 L (st) h cs ss = (lhas L 2 ∧ isI (lgt L 2) ∧ K 98 L (lgt L 2 :: st) h cs ss) := by
  rw [dX7_find_97, ey_ok, nx_iload_n_1] <;> rfl
theorem qX7_find_98 : ey FX7 ini rt fin K0 K (decode cX7_find 98) 98 L (.int i :: .ref a :: r) h cs ss = (isA (h.1 a) (fun k m => k = 0 ∧ vp_in i m) ∧ K 99 L (h.2 a i.toNatClampNeg :: r) h cs ss) := by
  rw [dX7_find_98, ey_ok, nx_iaload_57]
theorem qX7_find_99 : ey FX7 ini rt fin K0 K (decode cX7_find 99) 99 L (st) h cs ss = (K0 99 L st h cs ss) := by
  rw [dX7_find_99, ey_ok, nx_invokevirtual_72]
theorem qX7_find_102 : ey FX7 ini rt fin K0 K (decode cX7_find 102) 102 L (.int x :: r) h cs ss = (2 < L.length ∧ K 103 (L.set 2 (some (.int x))) r h cs ss) := by
  rw [dX7_find_102, ey_ok, nx_istore_n_5] <;> rfl
theorem qX7_find_103 : ey FX7 ini rt fin K0 K (decode cX7_find 103) 103 L (st) h cs ss = (K 20 L st h cs ss) := by
  rw [dX7_find_103, ey_ok, nx_goto_29]
  exact and_l (by unfold jok; decide)
theorem qX7_find_106 : ey FX7 ini rt fin K0 K (decode cX7_find 106) 106 L (st) h cs ss = (K 107 L (.int 0 :: st) h cs ss) := by
  rw [dX7_find_106, ey_ok, nx_iconst_11] <;> rfl
theorem qX7_find_107 : ey FX7 ini rt fin K0 K (decode cX7_find 107) 107 L ([.int x]) h cs ss = (rokI rt x ∧ fin (some (.int x)) h cs ss) := by
  rw [dX7_find_107, ey_ok, nx_ireturn_68]
theorem qX7_ring_0 : ey FX7 ini rt fin K0 K (decode cX7_ring 0) 0 L (st) h cs ss = (lhas L 0 ∧ isRf (lgt L 0) ∧ K 1 L (lgt L 0 :: st) h cs ss) := by
  rw [dX7_ring_0, ey_ok, nx_aload_n_3] <;> rfl
theorem qX7_ring_1 : ey FX7 ini rt fin K0 K (decode cX7_ring 1) 1 L (st) h cs ss = (lhas L 0 ∧ isRf (lgt L 0) ∧ K 2 L (lgt L 0 :: st) h cs ss) := by
  rw [dX7_ring_1, ey_ok, nx_aload_n_3] <;> rfl
theorem qX7_ring_2 : ey FX7 ini rt fin K0 K (decode cX7_ring 2) 2 L (st) h cs ss = (lhas L 1 ∧ isI (lgt L 1) ∧ K 3 L (lgt L 1 :: st) h cs ss) := by
  rw [dX7_ring_2, ey_ok, nx_iload_n_1] <;> rfl
theorem qX7_ring_3 : ey FX7 ini rt fin K0 K (decode cX7_ring 3) 3 L (st) h cs ss = (K0 3 L st h cs ss) := by
  rw [dX7_ring_3, ey_ok, nx_invokevirtual_72]
theorem qX7_ring_6 : ey FX7 ini rt fin K0 K (decode cX7_ring 6) 6 L (st) h cs ss = (K0 6 L st h cs ss) := by
  rw [dX7_ring_6, ey_ok, nx_invokevirtual_72]
theorem qX7_ring_9 : ey FX7 ini rt fin K0 K (decode cX7_ring 9) 9 L (.int x :: r) h cs ss = (if x = 0 then K 20 L r h cs ss else K 12 L r h cs ss) := by
  rw [dX7_ring_9, ey_ok, nx_ifond_30]
  exact and_l (by unfold jok; decide)
theorem qX7_ring_12 : ey FX7 ini rt fin K0 K (decode cX7_ring 12) 12 L (st) h cs ss = (lhas L 0 ∧ isRf (lgt L 0) ∧ K 13 L (lgt L 0 :: st) h cs ss) := by
  rw [dX7_ring_12, ey_ok, nx_aload_n_3] <;> rfl
theorem qX7_ring_13 : ey FX7 ini rt fin K0 K (decode cX7_ring 13) 13 L (st) h cs ss = (lhas L 1 ∧ isI (lgt L 1) ∧ K 14 L (lgt L 1 :: st) h cs ss) := by
  rw [dX7_ring_13, ey_ok, nx_iload_n_1] <;> rfl
theorem qX7_ring_14 : ey FX7 ini rt fin K0 K (decode cX7_ring 14) 14 L (st) h cs ss = (K0 14 L st h cs ss) := by
  rw [dX7_ring_14, ey_ok, nx_invokevirtual_72]
theorem qX7_ring_17 : ey FX7 ini rt fin K0 K (decode cX7_ring 17) 17 L (st) h cs ss = (K 21 L st h cs ss) := by
  rw [dX7_ring_17, ey_ok, nx_goto_29]
  exact and_l (by unfold jok; decide)
theorem qX7_ring_20 : ey FX7 ini rt fin K0 K (decode cX7_ring 20) 20 L (st) h cs ss = (K 21 L (.int 0 :: st) h cs ss) := by
  rw [dX7_ring_20, ey_ok, nx_iconst_11] <;> rfl
theorem qX7_ring_21 : ey FX7 ini rt fin K0 K (decode cX7_ring 21) 21 L ([.int x]) h cs ss = (rokI rt x ∧ fin (some (.int x)) h cs ss) := by
  rw [dX7_ring_21, ey_ok, nx_ireturn_68]
theorem qX7_canSwap_0 : ey FX7 ini rt fin K0 K (decode cX7_canSwap 0) 0 L (st) h cs ss = (lhas L 1 ∧ isI (lgt L 1) ∧ K 1 L (lgt L 1 :: st) h cs ss) := by
  rw [dX7_canSwap_0, ey_ok, nx_iload_n_1] <;> rfl
theorem qX7_canSwap_1 : ey FX7 ini rt fin K0 K (decode cX7_canSwap 1) 1 L (.int x :: r) h cs ss = (if x ≤ 0 then K 8 L r h cs ss else K 4 L r h cs ss) := by
  rw [dX7_canSwap_1, ey_ok, nx_ifond_35]
  exact and_l (by unfold jok; decide)
theorem qX7_canSwap_4 : ey FX7 ini rt fin K0 K (decode cX7_canSwap 4) 4 L (st) h cs ss = (K 5 L (.int 1 :: st) h cs ss) := by
  rw [dX7_canSwap_4, ey_ok, nx_iconst_11] <;> rfl
theorem qX7_canSwap_5 : ey FX7 ini rt fin K0 K (decode cX7_canSwap 5) 5 L (st) h cs ss = (K 9 L st h cs ss) := by
  rw [dX7_canSwap_5, ey_ok, nx_goto_29]
  exact and_l (by unfold jok; decide)
theorem qX7_canSwap_8 : ey FX7 ini rt fin K0 K (decode cX7_canSwap 8) 8 L (st) h cs ss = (K 9 L (.int 0 :: st) h cs ss) := by
  rw [dX7_canSwap_8, ey_ok, nx_iconst_11] <;> rfl
theorem qX7_canSwap_9 : ey FX7 ini rt fin K0 K (decode cX7_canSwap 9) 9 L (.int x :: r) h cs ss = (2 < L.length ∧ K 10 (L.set 2 (some (.int x))) r h cs ss) := by
  rw [dX7_canSwap_9, ey_ok, nx_istore_n_5] <;> rfl
theorem qX7_canSwap_10 : ey FX7 ini rt fin K0 K (decode cX7_canSwap 10) 10 L (st) h cs ss = (K 11 L (.int 0 :: st) h cs ss) := by
  rw [dX7_canSwap_10, ey_ok, nx_iconst_11] <;> rfl
theorem qX7_canSwap_11 : ey FX7 ini rt fin K0 K (decode cX7_canSwap 11) 11 L (.int x :: r) h cs ss = (3 < L.length ∧ K 12 (L.set 3 (some (.int x))) r h cs ss) := by
  rw [dX7_canSwap_11, ey_ok, nx_istore_n_5] <;> rfl
theorem qX7_canSwap_12 : ey FX7 ini rt fin K0 K (decode cX7_canSwap 12) 12 L (st) h cs ss = (lhas L 3 ∧ isI (lgt L 3) ∧ K 13 L (lgt L 3 :: st) h cs ss) := by
  rw [dX7_canSwap_12, ey_ok, nx_iload_n_1] <;> rfl
theorem qX7_canSwap_13 : ey FX7 ini rt fin K0 K (decode cX7_canSwap 13) 13 L (st) h cs ss = (lhas L 1 ∧ isI (lgt L 1) ∧ K 14 L (lgt L 1 :: st) h cs ss) := by
  rw [dX7_canSwap_13, ey_ok, nx_iload_n_1] <;> rfl
theorem qX7_canSwap_14 : ey FX7 ini rt fin K0 K (decode cX7_canSwap 14) 14 L (.int y :: .int x :: r) h cs ss = (if y ≤ x then K 91 L r h cs ss else K 17 L r h cs ss) := by
  rw [dX7_canSwap_14, ey_ok, nx_if_icmp_39]
  exact and_l (by unfold jok; decide)
theorem qX7_canSwap_17 : ey FX7 ini rt fin K0 K (decode cX7_canSwap 17) 17 L (st) h cs ss = (lhas L 0 ∧ isRf (lgt L 0) ∧ K 18 L (lgt L 0 :: st) h cs ss) := by
  rw [dX7_canSwap_17, ey_ok, nx_aload_n_3] <;> rfl
theorem qX7_canSwap_18 : ey FX7 ini rt fin K0 K (decode cX7_canSwap 18) 18 L (.ref a :: r) h cs ss = (h.1 a = some (.inl 7) ∧ K 21 L (h.2 a 29 :: r) h cs ss) := by
  rw [dX7_canSwap_18, ey_ok, nx_getfield_54]
  exact and_l rfl
theorem qX7_canSwap_21 : ey FX7 ini rt fin K0 K (decode cX7_canSwap 21) 21 L (st) h cs ss = (lhas L 0 ∧ isRf (lgt L 0) ∧ K 22 L (lgt L 0 :: st) h cs ss) := by
  rw [dX7_canSwap_21, ey_ok, nx_aload_n_3] <;> rfl
theorem qX7_canSwap_22 : ey FX7 ini rt fin K0 K (decode cX7_canSwap 22) 22 L (.ref a :: r) h cs ss = (h.1 a = some (.inl 7) ∧ K 25 L (h.2 a 33 :: r) h cs ss) := by
  rw [dX7_canSwap_22, ey_ok, nx_getfield_54]
  exact and_l rfl
theorem qX7_canSwap_25 : ey FX7 ini rt fin K0 K (decode cX7_canSwap 25) 25 L (st) h cs ss = (lhas L 3 ∧ isI (lgt L 3) ∧ K 26 L (lgt L 3 :: st) h cs ss) := by
  rw [dX7_canSwap_25, ey_ok, nx_iload_n_1] <;> rfl
theorem qX7_canSwap_26 : ey FX7 ini rt fin K0 K (decode cX7_canSwap 26) 26 L (.int i :: .ref a :: r) h cs ss = (isA (h.1 a) (fun k m => k = 0 ∧ vp_in i m) ∧ K 27 L (h.2 a i.toNatClampNeg :: r) h cs ss) := by
  rw [dX7_canSwap_26, ey_ok, nx_iaload_57]
theorem qX7_canSwap_27 : ey FX7 ini rt fin K0 K (decode cX7_canSwap 27) 27 L (.int i :: .ref a :: r) h cs ss = (isA (h.1 a) (fun k m => k = 0 ∧ vp_in i m) ∧ K 28 L (h.2 a i.toNatClampNeg :: r) h cs ss) := by
  rw [dX7_canSwap_27, ey_ok, nx_iaload_57]
theorem qX7_canSwap_28 : ey FX7 ini rt fin K0 K (decode cX7_canSwap 28) 28 L (.int x :: r) h cs ss = (4 < L.length ∧ K 30 (L.set 4 (some (.int x))) r h cs ss) := by
  rw [dX7_canSwap_28, ey_ok, nx_istore_4] <;> rfl
theorem qX7_canSwap_30 : ey FX7 ini rt fin K0 K (decode cX7_canSwap 30) 30 L (st) h cs ss = (lhas L 0 ∧ isRf (lgt L 0) ∧ K 31 L (lgt L 0 :: st) h cs ss) := by
  rw [dX7_canSwap_30, ey_ok, nx_aload_n_3] <;> rfl
theorem qX7_canSwap_31 : ey FX7 ini rt fin K0 K (decode cX7_canSwap 31) 31 L (.ref a :: r) h cs ss = (h.1 a = some (.inl 7) ∧ K 34 L (h.2 a 30 :: r) h cs ss) := by
  rw [dX7_canSwap_31, ey_ok, nx_getfield_54]
  exact and_l rfl
theorem qX7_canSwap_34 : ey FX7 ini rt fin K0 K (decode cX7_canSwap 34) 34 L (st) h cs ss = (lhas L 0 ∧ isRf (lgt L 0) ∧ K 35 L (lgt L 0 :: st) h cs ss) := by
  rw [dX7_canSwap_34, ey_ok, nx_aload_n_3] <;> rfl
theorem qX7_canSwap_35 : ey FX7 ini rt fin K0 K (decode cX7_canSwap 35) 35 L (.ref a :: r) h cs ss = (h.1 a = some (.inl 7) ∧ K 38 L (h.2 a 33 :: r) h cs ss) := by
  rw [dX7_canSwap_35, ey_ok, nx_getfield_54]
  exact and_l rfl
theorem qX7_canSwap_38 : ey FX7 ini rt fin K0 K (decode cX7_canSwap 38) 38 L (st) h cs ss = (lhas L 3 ∧ isI (lgt L 3) ∧ K 39 L (lgt L 3 :: st) h cs ss) := by
  rw [dX7_canSwap_38, ey_ok, nx_iload_n_1] <;> rfl
theorem qX7_canSwap_39 : ey FX7 ini rt fin K0 K (decode cX7_canSwap 39) 39 L (.int i :: .ref a :: r) h cs ss = (isA (h.1 a) (fun k m => k = 0 ∧ vp_in i m) ∧ K 40 L (h.2 a i.toNatClampNeg :: r) h cs ss) := by
  rw [dX7_canSwap_39, ey_ok, nx_iaload_57]
theorem qX7_canSwap_40 : ey FX7 ini rt fin K0 K (decode cX7_canSwap 40) 40 L (.int i :: .ref a :: r) h cs ss = (isA (h.1 a) (fun k m => k = 0 ∧ vp_in i m) ∧ K 41 L (h.2 a i.toNatClampNeg :: r) h cs ss) := by
  rw [dX7_canSwap_40, ey_ok, nx_iaload_57]
theorem qX7_canSwap_41 : ey FX7 ini rt fin K0 K (decode cX7_canSwap 41) 41 L (.int x :: r) h cs ss = (5 < L.length ∧ K 43 (L.set 5 (some (.int x))) r h cs ss) := by
  rw [dX7_canSwap_41, ey_ok, nx_istore_4] <;> rfl
theorem qX7_canSwap_43 : ey FX7 ini rt fin K0 K (decode cX7_canSwap 43) 43 L (st) h cs ss = (lhas L 2 ∧ isI (lgt L 2) ∧ K 44 L (lgt L 2 :: st) h cs ss) := by
  rw [dX7_canSwap_43, ey_ok, nx_iload_n_1] <;> rfl
theorem qX7_canSwap_44 : ey FX7 ini rt fin K0 K (decode cX7_canSwap 44) 44 L (.int x :: r) h cs ss = (if x = 0 then K 83 L r h cs ss else K 47 L r h cs ss) := by
  rw [dX7_canSwap_44, ey_ok, nx_ifond_30]
  exact and_l (by unfold jok; decide)
theorem qX7_canSwap_47 : ey FX7 ini rt fin K0 K (decode cX7_canSwap 47) 47 L (st) h cs ss = (lhas L 0 ∧ isRf (lgt L 0) ∧ K 48 L (lgt L 0 :: st) h cs ss) := by
  rw [dX7_canSwap_47, ey_ok, nx_aload_n_3] <;> rfl
theorem qX7_canSwap_48 : ey FX7 ini rt fin K0 K (decode cX7_canSwap 48) 48 L (.ref a :: r) h cs ss = (h.1 a = some (.inl 7) ∧ K 51 L (h.2 a 4 :: r) h cs ss) := by
  rw [dX7_canSwap_48, ey_ok, nx_getfield_54]
  exact and_l rfl
theorem qX7_canSwap_51 : ey FX7 ini rt fin K0 K (decode cX7_canSwap 51) 51 L (st) h cs ss = (lhas L 4 ∧ isI (lgt L 4) ∧ K 53 L (lgt L 4 :: st) h cs ss) := by
  rw [dX7_canSwap_51, ey_ok, nx_iload_0] <;> rfl
theorem qX7_canSwap_53 : ey FX7 ini rt fin K0 K (decode cX7_canSwap 53) 53 L (.int i :: .ref a :: r) h cs ss = (isA (h.1 a) (fun k m => k = 0 ∧ vp_in i m) ∧ K 54 L (h.2 a i.toNatClampNeg :: r) h cs ss) := by
  rw [dX7_canSwap_53, ey_ok, nx_iaload_57]
theorem qX7_canSwap_54 : ey FX7 ini rt fin K0 K (decode cX7_canSwap 54) 54 L (st) h cs ss = (lhas L 0 ∧ isRf (lgt L 0) ∧ K 55 L (lgt L 0 :: st) h cs ss) := by
  rw [dX7_canSwap_54, ey_ok, nx_aload_n_3] <;> rfl
theorem qX7_canSwap_55 : ey FX7 ini rt fin K0 K (decode cX7_canSwap 55) 55 L (.ref a :: r) h cs ss = (h.1 a = some (.inl 7) ∧ K 58 L (h.2 a 0 :: r) h cs ss) := by
  rw [dX7_canSwap_55, ey_ok, nx_getfield_54]
  exact and_l rfl
theorem qX7_canSwap_58 : ey FX7 ini rt fin K0 K (decode cX7_canSwap 58) 58 L (.int y :: .int x :: r) h cs ss = (if x ≤ y then K 83 L r h cs ss else K 61 L r h cs ss) := by
  rw [dX7_canSwap_58, ey_ok, nx_if_icmp_41]
  exact and_l (by unfold jok; decide)
theorem qX7_canSwap_61 : ey FX7 ini rt fin K0 K (decode cX7_canSwap 61) 61 L (st) h cs ss = (lhas L 0 ∧ isRf (lgt L 0) ∧ K 62 L (lgt L 0 :: st) h cs ss) := by
  rw [dX7_canSwap_61, ey_ok, nx_aload_n_3] <;> rfl
theorem qX7_canSwap_62 : ey FX7 ini rt fin K0 K (decode cX7_canSwap 62) 62 L (st) h cs ss = (lhas L 0 ∧ isRf (lgt L 0) ∧ K 63 L (lgt L 0 :: st) h cs ss) := by
  rw [dX7_canSwap_62, ey_ok, nx_aload_n_3] <;> rfl
theorem qX7_canSwap_63 : ey FX7 ini rt fin K0 K (decode cX7_canSwap 63) 63 L (.ref a :: r) h cs ss = (h.1 a = some (.inl 7) ∧ K 66 L (h.2 a 7 :: r) h cs ss) := by
  rw [dX7_canSwap_63, ey_ok, nx_getfield_54]
  exact and_l rfl
theorem qX7_canSwap_66 : ey FX7 ini rt fin K0 K (decode cX7_canSwap 66) 66 L (st) h cs ss = (lhas L 4 ∧ isI (lgt L 4) ∧ K 68 L (lgt L 4 :: st) h cs ss) := by
  rw [dX7_canSwap_66, ey_ok, nx_iload_0] <;> rfl
theorem qX7_canSwap_68 : ey FX7 ini rt fin K0 K (decode cX7_canSwap 68) 68 L (.int i :: .ref a :: r) h cs ss = (isA (h.1 a) (fun k m => k = 0 ∧ vp_in i m) ∧ K 69 L (h.2 a i.toNatClampNeg :: r) h cs ss) := by
  rw [dX7_canSwap_68, ey_ok, nx_iaload_57]
theorem qX7_canSwap_69 : ey FX7 ini rt fin K0 K (decode cX7_canSwap 69) 69 L (st) h cs ss = (lhas L 5 ∧ isI (lgt L 5) ∧ K 71 L (lgt L 5 :: st) h cs ss) := by
  rw [dX7_canSwap_69, ey_ok, nx_iload_0] <;> rfl
theorem qX7_canSwap_71 : ey FX7 ini rt fin K0 K (decode cX7_canSwap 71) 71 L (st) h cs ss = (lhas L 4 ∧ isI (lgt L 4) ∧ K 73 L (lgt L 4 :: st) h cs ss) := by
  rw [dX7_canSwap_71, ey_ok, nx_iload_0] <;> rfl
theorem qX7_canSwap_73 : ey FX7 ini rt fin K0 K (decode cX7_canSwap 73) 73 L (st) h cs ss = (K0 73 L st h cs ss) := by
  rw [dX7_canSwap_73, ey_ok, nx_invokevirtual_72]
theorem qX7_canSwap_76 : ey FX7 ini rt fin K0 K (decode cX7_canSwap 76) 76 L (.int x :: r) h cs ss = (if x = 0 then K 83 L r h cs ss else K 79 L r h cs ss) := by
  rw [dX7_canSwap_76, ey_ok, nx_ifond_30]
  exact and_l (by unfold jok; decide)
theorem qX7_canSwap_79 : ey FX7 ini rt fin K0 K (decode cX7_canSwap 79) 79 L (st) h cs ss = (K 80 L (.int 1 :: st) h cs ss) := by
  rw [dX7_canSwap_79, ey_ok, nx_iconst_11] <;> rfl
theorem qX7_canSwap_80 : ey FX7 ini rt fin K0 K (decode cX7_canSwap 80) 80 L (st) h cs ss = (K 84 L st h cs ss) := by
  rw [dX7_canSwap_80, ey_ok, nx_goto_29]
  exact and_l (by unfold jok; decide)
theorem qX7_canSwap_83 : ey FX7 ini rt fin K0 K (decode cX7_canSwap 83) 83 L (st) h cs ss = (K 84 L (.int 0 :: st) h cs ss) := by
  rw [dX7_canSwap_83, ey_ok, nx_iconst_11] <;> rfl
theorem qX7_canSwap_84 : ey FX7 ini rt fin K0 K (decode cX7_canSwap 84) 84 L (.int x :: r) h cs ss = (2 < L.length ∧ K 85 (L.set 2 (some (.int x))) r h cs ss) := by
  rw [dX7_canSwap_84, ey_ok, nx_istore_n_5] <;> rfl
theorem qX7_canSwap_85 : ey FX7 ini rt fin K0 K (decode cX7_canSwap 85) 85 L (st) h cs ss = (lhas L 3 ∧ isI (lgt L 3) ∧ K 88 (L.set 3 (some (inc (lgt L 3) 1))) st h cs ss) := by
  rw [dX7_canSwap_85, ey_ok, nx_iinc_10] <;> rfl
theorem qX7_canSwap_88 : ey FX7 ini rt fin K0 K (decode cX7_canSwap 88) 88 L (st) h cs ss = (K 12 L st h cs ss) := by
  rw [dX7_canSwap_88, ey_ok, nx_goto_29]
  exact and_l (by unfold jok; decide)
theorem qX7_canSwap_91 : ey FX7 ini rt fin K0 K (decode cX7_canSwap 91) 91 L (st) h cs ss = (lhas L 2 ∧ isI (lgt L 2) ∧ K 92 L (lgt L 2 :: st) h cs ss) := by
  rw [dX7_canSwap_91, ey_ok, nx_iload_n_1] <;> rfl
theorem qX7_canSwap_92 : ey FX7 ini rt fin K0 K (decode cX7_canSwap 92) 92 L ([.int x]) h cs ss = (rokI rt x ∧ fin (some (.int x)) h cs ss) := by
  rw [dX7_canSwap_92, ey_ok, nx_ireturn_68]
theorem qX7_swap_0 : ey FX7 ini rt fin K0 K (decode cX7_swap 0) 0 L (st) h cs ss = (lhas L 0 ∧ isRf (lgt L 0) ∧ K 1 L (lgt L 0 :: st) h cs ss) := by
  rw [dX7_swap_0, ey_ok, nx_aload_n_3] <;> rfl
theorem qX7_swap_1 : ey FX7 ini rt fin K0 K (decode cX7_swap 1) 1 L (st) h cs ss = (lhas L 1 ∧ isI (lgt L 1) ∧ K 2 L (lgt L 1 :: st) h cs ss) := by
  rw [dX7_swap_1, ey_ok, nx_iload_n_1] <;> rfl
theorem qX7_swap_2 : ey FX7 ini rt fin K0 K (decode cX7_swap 2) 2 L (st) h cs ss = (K0 2 L st h cs ss) := by
  rw [dX7_swap_2, ey_ok, nx_invokevirtual_72]
theorem qX7_swap_5 : ey FX7 ini rt fin K0 K (decode cX7_swap 5) 5 L (.int x :: r) h cs ss = (2 < L.length ∧ K 6 (L.set 2 (some (.int x))) r h cs ss) := by
  rw [dX7_swap_5, ey_ok, nx_istore_n_5] <;> rfl
theorem qX7_swap_6 : ey FX7 ini rt fin K0 K (decode cX7_swap 6) 6 L (st) h cs ss = (lhas L 2 ∧ isI (lgt L 2) ∧ K 7 L (lgt L 2 :: st) h cs ss) := by
  rw [dX7_swap_6, ey_ok, nx_iload_n_1] <;> rfl
theorem qX7_swap_7 : ey FX7 ini rt fin K0 K (decode cX7_swap 7) 7 L (.int x :: r) h cs ss = (if x = 0 then K 18 L r h cs ss else K 10 L r h cs ss) := by
  rw [dX7_swap_7, ey_ok, nx_ifond_30]
  exact and_l (by unfold jok; decide)
theorem qX7_swap_10 : ey FX7 ini rt fin K0 K (decode cX7_swap 10) 10 L (st) h cs ss = (lhas L 0 ∧ isRf (lgt L 0) ∧ K 11 L (lgt L 0 :: st) h cs ss) := by
  rw [dX7_swap_10, ey_ok, nx_aload_n_3] <;> rfl
theorem qX7_swap_11 : ey FX7 ini rt fin K0 K (decode cX7_swap 11) 11 L (st) h cs ss = (lhas L 1 ∧ isI (lgt L 1) ∧ K 12 L (lgt L 1 :: st) h cs ss) := by
  rw [dX7_swap_11, ey_ok, nx_iload_n_1] <;> rfl
theorem qX7_swap_12 : ey FX7 ini rt fin K0 K (decode cX7_swap 12) 12 L (st) h cs ss = (K0 12 L st h cs ss) := by
  rw [dX7_swap_12, ey_ok, nx_invokevirtual_72]
theorem qX7_swap_15 : ey FX7 ini rt fin K0 K (decode cX7_swap 15) 15 L (st) h cs ss = (K 19 L st h cs ss) := by
  rw [dX7_swap_15, ey_ok, nx_goto_29]
  exact and_l (by unfold jok; decide)
theorem qX7_swap_18 : ey FX7 ini rt fin K0 K (decode cX7_swap 18) 18 L (st) h cs ss = (K 19 L (.int 0 :: st) h cs ss) := by
  rw [dX7_swap_18, ey_ok, nx_iconst_11] <;> rfl
theorem qX7_swap_19 : ey FX7 ini rt fin K0 K (decode cX7_swap 19) 19 L (.int x :: r) h cs ss = (3 < L.length ∧ K 20 (L.set 3 (some (.int x))) r h cs ss) := by
  rw [dX7_swap_19, ey_ok, nx_istore_n_5] <;> rfl
theorem qX7_swap_20 : ey FX7 ini rt fin K0 K (decode cX7_swap 20) 20 L (st) h cs ss = (lhas L 0 ∧ isRf (lgt L 0) ∧ K 21 L (lgt L 0 :: st) h cs ss) := by
  rw [dX7_swap_20, ey_ok, nx_aload_n_3] <;> rfl
theorem qX7_swap_21 : ey FX7 ini rt fin K0 K (decode cX7_swap 21) 21 L (st) h cs ss = (lhas L 2 ∧ isI (lgt L 2) ∧ K 22 L (lgt L 2 :: st) h cs ss) := by
  rw [dX7_swap_21, ey_ok, nx_iload_n_1] <;> rfl
theorem qX7_swap_22 : ey FX7 ini rt fin K0 K (decode cX7_swap 22) 22 L (st) h cs ss = (lhas L 0 ∧ isRf (lgt L 0) ∧ K 23 L (lgt L 0 :: st) h cs ss) := by
  rw [dX7_swap_22, ey_ok, nx_aload_n_3] <;> rfl
theorem qX7_swap_23 : ey FX7 ini rt fin K0 K (decode cX7_swap 23) 23 L (st) h cs ss = (lhas L 3 ∧ isI (lgt L 3) ∧ K 24 L (lgt L 3 :: st) h cs ss) := by
  rw [dX7_swap_23, ey_ok, nx_iload_n_1] <;> rfl
theorem qX7_swap_24 : ey FX7 ini rt fin K0 K (decode cX7_swap 24) 24 L (st) h cs ss = (K0 24 L st h cs ss) := by
  rw [dX7_swap_24, ey_ok, nx_invokevirtual_72]
theorem qX7_swap_27 : ey FX7 ini rt fin K0 K (decode cX7_swap 27) 27 L (st) h cs ss = (K0 27 L st h cs ss) := by
  rw [dX7_swap_27, ey_ok, nx_invokevirtual_72]
theorem qX7_swap_30 : ey FX7 ini rt fin K0 K (decode cX7_swap 30) 30 L (.int x :: r) h cs ss = (if ¬ x = 0 then K 35 L r h cs ss else K 33 L r h cs ss) := by
  rw [dX7_swap_30, ey_ok, nx_ifond_31]
  exact and_l (by unfold jok; decide)
theorem qX7_swap_33 : ey FX7 ini rt fin K0 K (decode cX7_swap 33) 33 L (st) h cs ss = (K 34 L (.int 0 :: st) h cs ss) := by
  rw [dX7_swap_33, ey_ok, nx_iconst_11] <;> rfl
theorem qX7_swap_34 : ey FX7 ini rt fin K0 K (decode cX7_swap 34) 34 L ([.int x]) h cs ss = (rokI rt x ∧ fin (some (.int x)) h cs ss) := by
  rw [dX7_swap_34, ey_ok, nx_ireturn_68]
theorem qX7_swap_35 : ey FX7 ini rt fin K0 K (decode cX7_swap 35) 35 L (st) h cs ss = (lhas L 0 ∧ isRf (lgt L 0) ∧ K 36 L (lgt L 0 :: st) h cs ss) := by
  rw [dX7_swap_35, ey_ok, nx_aload_n_3] <;> rfl
theorem qX7_swap_36 : ey FX7 ini rt fin K0 K (decode cX7_swap 36) 36 L (.ref a :: r) h cs ss = (h.1 a = some (.inl 7) ∧ K 39 L (h.2 a 22 :: r) h cs ss) := by
  rw [dX7_swap_36, ey_ok, nx_getfield_54]
  exact and_l rfl
theorem qX7_swap_39 : ey FX7 ini rt fin K0 K (decode cX7_swap 39) 39 L (.int x :: r) h cs ss = (4 < L.length ∧ K 41 (L.set 4 (some (.int x))) r h cs ss) := by
  rw [dX7_swap_39, ey_ok, nx_istore_4] <;> rfl
theorem qX7_swap_41 : ey FX7 ini rt fin K0 K (decode cX7_swap 41) 41 L (st) h cs ss = (lhas L 0 ∧ isRf (lgt L 0) ∧ K 42 L (lgt L 0 :: st) h cs ss) := by
  rw [dX7_swap_41, ey_ok, nx_aload_n_3] <;> rfl
theorem qX7_swap_42 : ey FX7 ini rt fin K0 K (decode cX7_swap 42) 42 L (.ref a :: r) h cs ss = (h.1 a = some (.inl 7) ∧ K 45 L (h.2 a 7 :: r) h cs ss) := by
  rw [dX7_swap_42, ey_ok, nx_getfield_54]
  exact and_l rfl
theorem qX7_swap_45 : ey FX7 ini rt fin K0 K (decode cX7_swap 45) 45 L (st) h cs ss = (lhas L 0 ∧ isRf (lgt L 0) ∧ K 46 L (lgt L 0 :: st) h cs ss) := by
  rw [dX7_swap_45, ey_ok, nx_aload_n_3] <;> rfl
theorem qX7_swap_46 : ey FX7 ini rt fin K0 K (decode cX7_swap 46) 46 L (.ref a :: r) h cs ss = (h.1 a = some (.inl 7) ∧ K 49 L (h.2 a 29 :: r) h cs ss) := by
  rw [dX7_swap_46, ey_ok, nx_getfield_54]
  exact and_l rfl
theorem qX7_swap_49 : ey FX7 ini rt fin K0 K (decode cX7_swap 49) 49 L (st) h cs ss = (lhas L 0 ∧ isRf (lgt L 0) ∧ K 50 L (lgt L 0 :: st) h cs ss) := by
  rw [dX7_swap_49, ey_ok, nx_aload_n_3] <;> rfl
theorem qX7_swap_50 : ey FX7 ini rt fin K0 K (decode cX7_swap 50) 50 L (.ref a :: r) h cs ss = (h.1 a = some (.inl 7) ∧ K 53 L (h.2 a 33 :: r) h cs ss) := by
  rw [dX7_swap_50, ey_ok, nx_getfield_54]
  exact and_l rfl
theorem qX7_swap_53 : ey FX7 ini rt fin K0 K (decode cX7_swap 53) 53 L (st) h cs ss = (K 54 L (.int 0 :: st) h cs ss) := by
  rw [dX7_swap_53, ey_ok, nx_iconst_11] <;> rfl
theorem qX7_swap_54 : ey FX7 ini rt fin K0 K (decode cX7_swap 54) 54 L (.int i :: .ref a :: r) h cs ss = (isA (h.1 a) (fun k m => k = 0 ∧ vp_in i m) ∧ K 55 L (h.2 a i.toNatClampNeg :: r) h cs ss) := by
  rw [dX7_swap_54, ey_ok, nx_iaload_57]
theorem qX7_swap_55 : ey FX7 ini rt fin K0 K (decode cX7_swap 55) 55 L (.int i :: .ref a :: r) h cs ss = (isA (h.1 a) (fun k m => k = 0 ∧ vp_in i m) ∧ K 56 L (h.2 a i.toNatClampNeg :: r) h cs ss) := by
  rw [dX7_swap_55, ey_ok, nx_iaload_57]
theorem qX7_swap_56 : ey FX7 ini rt fin K0 K (decode cX7_swap 56) 56 L (.int i :: .ref a :: r) h cs ss = (isA (h.1 a) (fun k m => k = 0 ∧ vp_in i m) ∧ K 57 L (h.2 a i.toNatClampNeg :: r) h cs ss) := by
  rw [dX7_swap_56, ey_ok, nx_iaload_57]
theorem qX7_swap_57 : ey FX7 ini rt fin K0 K (decode cX7_swap 57) 57 L (.int x :: r) h cs ss = (5 < L.length ∧ K 59 (L.set 5 (some (.int x))) r h cs ss) := by
  rw [dX7_swap_57, ey_ok, nx_istore_4] <;> rfl
theorem qX7_swap_59 : ey FX7 ini rt fin K0 K (decode cX7_swap 59) 59 L (st) h cs ss = (lhas L 0 ∧ isRf (lgt L 0) ∧ K 60 L (lgt L 0 :: st) h cs ss) := by
  rw [dX7_swap_59, ey_ok, nx_aload_n_3] <;> rfl
theorem qX7_swap_60 : ey FX7 ini rt fin K0 K (decode cX7_swap 60) 60 L (.ref a :: r) h cs ss = (h.1 a = some (.inl 7) ∧ K 63 L (h.2 a 30 :: r) h cs ss) := by
  rw [dX7_swap_60, ey_ok, nx_getfield_54]
  exact and_l rfl
theorem qX7_swap_63 : ey FX7 ini rt fin K0 K (decode cX7_swap 63) 63 L (st) h cs ss = (lhas L 0 ∧ isRf (lgt L 0) ∧ K 64 L (lgt L 0 :: st) h cs ss) := by
  rw [dX7_swap_63, ey_ok, nx_aload_n_3] <;> rfl
theorem qX7_swap_64 : ey FX7 ini rt fin K0 K (decode cX7_swap 64) 64 L (.ref a :: r) h cs ss = (h.1 a = some (.inl 7) ∧ K 67 L (h.2 a 33 :: r) h cs ss) := by
  rw [dX7_swap_64, ey_ok, nx_getfield_54]
  exact and_l rfl
theorem qX7_swap_67 : ey FX7 ini rt fin K0 K (decode cX7_swap 67) 67 L (st) h cs ss = (K 68 L (.int 0 :: st) h cs ss) := by
  rw [dX7_swap_67, ey_ok, nx_iconst_11] <;> rfl
theorem qX7_swap_68 : ey FX7 ini rt fin K0 K (decode cX7_swap 68) 68 L (.int i :: .ref a :: r) h cs ss = (isA (h.1 a) (fun k m => k = 0 ∧ vp_in i m) ∧ K 69 L (h.2 a i.toNatClampNeg :: r) h cs ss) := by
  rw [dX7_swap_68, ey_ok, nx_iaload_57]
theorem qX7_swap_69 : ey FX7 ini rt fin K0 K (decode cX7_swap 69) 69 L (.int i :: .ref a :: r) h cs ss = (isA (h.1 a) (fun k m => k = 0 ∧ vp_in i m) ∧ K 70 L (h.2 a i.toNatClampNeg :: r) h cs ss) := by
  rw [dX7_swap_69, ey_ok, nx_iaload_57]
theorem qX7_swap_70 : ey FX7 ini rt fin K0 K (decode cX7_swap 70) 70 L (.int x :: r) h cs ss = (6 < L.length ∧ K 72 (L.set 6 (some (.int x))) r h cs ss) := by
  rw [dX7_swap_70, ey_ok, nx_istore_4] <;> rfl
theorem qX7_swap_72 : ey FX7 ini rt fin K0 K (decode cX7_swap 72) 72 L (st) h cs ss = (K 73 L (.int 1 :: st) h cs ss) := by
  rw [dX7_swap_72, ey_ok, nx_iconst_11] <;> rfl
theorem qX7_swap_73 : ey FX7 ini rt fin K0 K (decode cX7_swap 73) 73 L (.int x :: r) h cs ss = (7 < L.length ∧ K 75 (L.set 7 (some (.int x))) r h cs ss) := by
  rw [dX7_swap_73, ey_ok, nx_istore_4] <;> rfl
theorem qX7_swap_75 : ey FX7 ini rt fin K0 K (decode cX7_swap 75) 75 L (st) h cs ss = (lhas L 7 ∧ isI (lgt L 7) ∧ K 77 L (lgt L 7 :: st) h cs ss) := by
  rw [dX7_swap_75, ey_ok, nx_iload_0] <;> rfl
theorem qX7_swap_77 : ey FX7 ini rt fin K0 K (decode cX7_swap 77) 77 L (st) h cs ss = (lhas L 3 ∧ isI (lgt L 3) ∧ K 78 L (lgt L 3 :: st) h cs ss) := by
  rw [dX7_swap_77, ey_ok, nx_iload_n_1] <;> rfl
theorem qX7_swap_78 : ey FX7 ini rt fin K0 K (decode cX7_swap 78) 78 L (.int y :: .int x :: r) h cs ss = (if y ≤ x then K 136 L r h cs ss else K 81 L r h cs ss) := by
  rw [dX7_swap_78, ey_ok, nx_if_icmp_39]
  exact and_l (by unfold jok; decide)
theorem qX7_swap_81 : ey FX7 ini rt fin K0 K (decode cX7_swap 81) 81 L (st) h cs ss = (lhas L 0 ∧ isRf (lgt L 0) ∧ K 82 L (lgt L 0 :: st) h cs ss) := by
  rw [dX7_swap_81, ey_ok, nx_aload_n_3] <;> rfl
theorem qX7_swap_82 : ey FX7 ini rt fin K0 K (decode cX7_swap 82) 82 L (.ref a :: r) h cs ss = (h.1 a = some (.inl 7) ∧ K 85 L (h.2 a 7 :: r) h cs ss) := by
  rw [dX7_swap_82, ey_ok, nx_getfield_54]
  exact and_l rfl
theorem qX7_swap_85 : ey FX7 ini rt fin K0 K (decode cX7_swap 85) 85 L (st) h cs ss = (lhas L 0 ∧ isRf (lgt L 0) ∧ K 86 L (lgt L 0 :: st) h cs ss) := by
  rw [dX7_swap_85, ey_ok, nx_aload_n_3] <;> rfl
theorem qX7_swap_86 : ey FX7 ini rt fin K0 K (decode cX7_swap 86) 86 L (.ref a :: r) h cs ss = (h.1 a = some (.inl 7) ∧ K 89 L (h.2 a 29 :: r) h cs ss) := by
  rw [dX7_swap_86, ey_ok, nx_getfield_54]
  exact and_l rfl
theorem qX7_swap_89 : ey FX7 ini rt fin K0 K (decode cX7_swap 89) 89 L (st) h cs ss = (lhas L 0 ∧ isRf (lgt L 0) ∧ K 90 L (lgt L 0 :: st) h cs ss) := by
  rw [dX7_swap_89, ey_ok, nx_aload_n_3] <;> rfl
theorem qX7_swap_90 : ey FX7 ini rt fin K0 K (decode cX7_swap 90) 90 L (.ref a :: r) h cs ss = (h.1 a = some (.inl 7) ∧ K 93 L (h.2 a 33 :: r) h cs ss) := by
  rw [dX7_swap_90, ey_ok, nx_getfield_54]
  exact and_l rfl
theorem qX7_swap_93 : ey FX7 ini rt fin K0 K (decode cX7_swap 93) 93 L (st) h cs ss = (lhas L 7 ∧ isI (lgt L 7) ∧ K 95 L (lgt L 7 :: st) h cs ss) := by
  rw [dX7_swap_93, ey_ok, nx_iload_0] <;> rfl
theorem qX7_swap_95 : ey FX7 ini rt fin K0 K (decode cX7_swap 95) 95 L (.int i :: .ref a :: r) h cs ss = (isA (h.1 a) (fun k m => k = 0 ∧ vp_in i m) ∧ K 96 L (h.2 a i.toNatClampNeg :: r) h cs ss) := by
  rw [dX7_swap_95, ey_ok, nx_iaload_57]
theorem qX7_swap_96 : ey FX7 ini rt fin K0 K (decode cX7_swap 96) 96 L (.int i :: .ref a :: r) h cs ss = (isA (h.1 a) (fun k m => k = 0 ∧ vp_in i m) ∧ K 97 L (h.2 a i.toNatClampNeg :: r) h cs ss) := by
  rw [dX7_swap_96, ey_ok, nx_iaload_57]
theorem qX7_swap_97 : ey FX7 ini rt fin K0 K (decode cX7_swap 97) 97 L (.int i :: .ref a :: r) h cs ss = (isA (h.1 a) (fun k m => k = 0 ∧ vp_in i m) ∧ K 98 L (h.2 a i.toNatClampNeg :: r) h cs ss) := by
  rw [dX7_swap_97, ey_ok, nx_iaload_57]
theorem qX7_swap_98 : ey FX7 ini rt fin K0 K (decode cX7_swap 98) 98 L (.int x :: r) h cs ss = (8 < L.length ∧ K 100 (L.set 8 (some (.int x))) r h cs ss) := by
  rw [dX7_swap_98, ey_ok, nx_istore_4] <;> rfl
theorem qX7_swap_100 : ey FX7 ini rt fin K0 K (decode cX7_swap 100) 100 L (st) h cs ss = (lhas L 0 ∧ isRf (lgt L 0) ∧ K 101 L (lgt L 0 :: st) h cs ss) := by
  rw [dX7_swap_100, ey_ok, nx_aload_n_3] <;> rfl
theorem qX7_swap_101 : ey FX7 ini rt fin K0 K (decode cX7_swap 101) 101 L (.ref a :: r) h cs ss = (h.1 a = some (.inl 7) ∧ K 104 L (h.2 a 30 :: r) h cs ss) := by
  rw [dX7_swap_101, ey_ok, nx_getfield_54]
  exact and_l rfl
theorem qX7_swap_104 : ey FX7 ini rt fin K0 K (decode cX7_swap 104) 104 L (st) h cs ss = (lhas L 0 ∧ isRf (lgt L 0) ∧ K 105 L (lgt L 0 :: st) h cs ss) := by
  rw [dX7_swap_104, ey_ok, nx_aload_n_3] <;> rfl
theorem qX7_swap_105 : ey FX7 ini rt fin K0 K (decode cX7_swap 105) 105 L (.ref a :: r) h cs ss = (h.1 a = some (.inl 7) ∧ K 108 L (h.2 a 33 :: r) h cs ss) := by
  rw [dX7_swap_105, ey_ok, nx_getfield_54]
  exact and_l rfl
theorem qX7_swap_108 : ey FX7 ini rt fin K0 K (decode cX7_swap 108) 108 L (st) h cs ss = (lhas L 7 ∧ isI (lgt L 7) ∧ K 110 L (lgt L 7 :: st) h cs ss) := by
  rw [dX7_swap_108, ey_ok, nx_iload_0] <;> rfl
theorem qX7_swap_110 : ey FX7 ini rt fin K0 K (decode cX7_swap 110) 110 L (.int i :: .ref a :: r) h cs ss = (isA (h.1 a) (fun k m => k = 0 ∧ vp_in i m) ∧ K 111 L (h.2 a i.toNatClampNeg :: r) h cs ss) := by
  rw [dX7_swap_110, ey_ok, nx_iaload_57]
theorem qX7_swap_111 : ey FX7 ini rt fin K0 K (decode cX7_swap 111) 111 L (.int i :: .ref a :: r) h cs ss = (isA (h.1 a) (fun k m => k = 0 ∧ vp_in i m) ∧ K 112 L (h.2 a i.toNatClampNeg :: r) h cs ss) := by
  rw [dX7_swap_111, ey_ok, nx_iaload_57]
theorem qX7_swap_112 : ey FX7 ini rt fin K0 K (decode cX7_swap 112) 112 L (.int x :: r) h cs ss = (9 < L.length ∧ K 114 (L.set 9 (some (.int x))) r h cs ss) := by
  rw [dX7_swap_112, ey_ok, nx_istore_4] <;> rfl
theorem qX7_swap_114 : ey FX7 ini rt fin K0 K (decode cX7_swap 114) 114 L (st) h cs ss = (lhas L 0 ∧ isRf (lgt L 0) ∧ K 115 L (lgt L 0 :: st) h cs ss) := by
  rw [dX7_swap_114, ey_ok, nx_aload_n_3] <;> rfl
theorem qX7_swap_115 : ey FX7 ini rt fin K0 K (decode cX7_swap 115) 115 L (st) h cs ss = (lhas L 6 ∧ isI (lgt L 6) ∧ K 117 L (lgt L 6 :: st) h cs ss) := by
  rw [dX7_swap_115, ey_ok, nx_iload_0] <;> rfl
theorem qX7_swap_117 : ey FX7 ini rt fin K0 K (decode cX7_swap 117) 117 L (st) h cs ss = (lhas L 5 ∧ isI (lgt L 5) ∧ K 119 L (lgt L 5 :: st) h cs ss) := by
  rw [dX7_swap_117, ey_ok, nx_iload_0] <;> rfl
theorem qX7_swap_119 : ey FX7 ini rt fin K0 K (decode cX7_swap 119) 119 L (st) h cs ss = (K0 119 L st h cs ss) := by
  rw [dX7_swap_119, ey_ok, nx_invokevirtual_72]
theorem qX7_swap_122 : ey FX7 ini rt fin K0 K (decode cX7_swap 122) 122 L (st) h cs ss = (lhas L 8 ∧ isI (lgt L 8) ∧ K 124 L (lgt L 8 :: st) h cs ss) := by
  rw [dX7_swap_122, ey_ok, nx_iload_0] <;> rfl
theorem qX7_swap_124 : ey FX7 ini rt fin K0 K (decode cX7_swap 124) 124 L (.int x :: r) h cs ss = (5 < L.length ∧ K 126 (L.set 5 (some (.int x))) r h cs ss) := by
  rw [dX7_swap_124, ey_ok, nx_istore_4] <;> rfl
theorem qX7_swap_126 : ey FX7 ini rt fin K0 K (decode cX7_swap 126) 126 L (st) h cs ss = (lhas L 9 ∧ isI (lgt L 9) ∧ K 128 L (lgt L 9 :: st) h cs ss) := by
  rw [dX7_swap_126, ey_ok, nx_iload_0] <;> rfl
theorem qX7_swap_128 : ey FX7 ini rt fin K0 K (decode cX7_swap 128) 128 L (.int x :: r) h cs ss = (6 < L.length ∧ K 130 (L.set 6 (some (.int x))) r h cs ss) := by
  rw [dX7_swap_128, ey_ok, nx_istore_4] <;> rfl
theorem qX7_swap_130 : ey FX7 ini rt fin K0 K (decode cX7_swap 130) 130 L (st) h cs ss = (lhas L 7 ∧ isI (lgt L 7) ∧ K 133 (L.set 7 (some (inc (lgt L 7) 1))) st h cs ss) := by
  rw [dX7_swap_130, ey_ok, nx_iinc_10] <;> rfl
theorem qX7_swap_133 : ey FX7 ini rt fin K0 K (decode cX7_swap 133) 133 L (st) h cs ss = (K 75 L st h cs ss) := by
  rw [dX7_swap_133, ey_ok, nx_goto_29]
  exact and_l (by unfold jok; decide)
theorem qX7_swap_136 : ey FX7 ini rt fin K0 K (decode cX7_swap 136) 136 L (st) h cs ss = (lhas L 0 ∧ isRf (lgt L 0) ∧ K 137 L (lgt L 0 :: st) h cs ss) := by
  rw [dX7_swap_136, ey_ok, nx_aload_n_3] <;> rfl
theorem qX7_swap_137 : ey FX7 ini rt fin K0 K (decode cX7_swap 137) 137 L (st) h cs ss = (lhas L 6 ∧ isI (lgt L 6) ∧ K 139 L (lgt L 6 :: st) h cs ss) := by
  rw [dX7_swap_137, ey_ok, nx_iload_0] <;> rfl
theorem qX7_swap_139 : ey FX7 ini rt fin K0 K (decode cX7_swap 139) 139 L (st) h cs ss = (lhas L 5 ∧ isI (lgt L 5) ∧ K 141 L (lgt L 5 :: st) h cs ss) := by
  rw [dX7_swap_139, ey_ok, nx_iload_0] <;> rfl
theorem qX7_swap_141 : ey FX7 ini rt fin K0 K (decode cX7_swap 141) 141 L (st) h cs ss = (K0 141 L st h cs ss) := by
  rw [dX7_swap_141, ey_ok, nx_invokevirtual_72]
theorem qX7_swap_144 : ey FX7 ini rt fin K0 K (decode cX7_swap 144) 144 L (st) h cs ss = (lhas L 0 ∧ isRf (lgt L 0) ∧ K 145 L (lgt L 0 :: st) h cs ss) := by
  rw [dX7_swap_144, ey_ok, nx_aload_n_3] <;> rfl
theorem qX7_swap_145 : ey FX7 ini rt fin K0 K (decode cX7_swap 145) 145 L (st) h cs ss = (K0 145 L st h cs ss) := by
  rw [dX7_swap_145, ey_ok, nx_invokevirtual_72]
theorem qX7_swap_148 : ey FX7 ini rt fin K0 K (decode cX7_swap 148) 148 L (v :: r) h cs ss = (v.category = 1 ∧ K 149 L r h cs ss) := by
  rw [dX7_swap_148, ey_ok, nx_pop_28]
theorem qX7_swap_149 : ey FX7 ini rt fin K0 K (decode cX7_swap 149) 149 L (st) h cs ss = (lhas L 0 ∧ isRf (lgt L 0) ∧ K 150 L (lgt L 0 :: st) h cs ss) := by
  rw [dX7_swap_149, ey_ok, nx_aload_n_3] <;> rfl
theorem qX7_swap_150 : ey FX7 ini rt fin K0 K (decode cX7_swap 150) 150 L (.ref a :: r) h cs ss = (h.1 a = some (.inl 7) ∧ K 153 L (h.2 a 22 :: r) h cs ss) := by
  rw [dX7_swap_150, ey_ok, nx_getfield_54]
  exact and_l rfl
theorem qX7_swap_153 : ey FX7 ini rt fin K0 K (decode cX7_swap 153) 153 L (st) h cs ss = (lhas L 4 ∧ isI (lgt L 4) ∧ K 155 L (lgt L 4 :: st) h cs ss) := by
  rw [dX7_swap_153, ey_ok, nx_iload_0] <;> rfl
theorem qX7_swap_155 : ey FX7 ini rt fin K0 K (decode cX7_swap 155) 155 L (.int y :: .int x :: r) h cs ss = (K 156 L (.int (x - y) :: r) h cs ss) := by
  rw [dX7_swap_155, ey_ok, nx_isub_17]
theorem qX7_swap_156 : ey FX7 ini rt fin K0 K (decode cX7_swap 156) 156 L ([.int x]) h cs ss = (rokI rt x ∧ fin (some (.int x)) h cs ss) := by
  rw [dX7_swap_156, ey_ok, nx_ireturn_68]
end QQ
