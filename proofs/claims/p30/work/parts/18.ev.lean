/-! the step function, run by rewriting -/
def hit : List Nat → Nat → Bool
  | [], _ => false
  | a :: l, pc => (a == pc) || hit l pc
section EV
variable {cc : ByteArray} {F : Nat → Option Fq} {ini : Option Nat} {rt : Option FieldType} {fin : Option Value → Hp → Nat → Nat → Prop} {K0 K : Kt} {stop : List Nat} {pc : Nat} {L : List (Option Value)} {st r : List Value} {h : Hp} {cs ss : Nat}
def lgt (L : List (Option Value)) (k : Nat) : Value := ((L[k]?).getD none).getD .null
def isI (v : Value) : Prop := match v with
  | .int _ => True
  | _ => False
def isRf (v : Value) : Prop := match v with
  | .ref _ => True
  | .null => True
  | _ => False
def lhas (L : List (Option Value)) (k : Nat) : Prop := match L[k]? with
  | some (some _) => True
  | _ => False
def fk (F : Nat → Option Fq) (j : Nat) : Fq := (F j).getD (0, 0, .int, true)
theorem ld_I {k : Nat} {c : Value → Prop} (h1 : lhas L k) (h2 : isI (lgt L k)) (hc : c (lgt L k)) : ldI L k c := by
  unfold lhas at h1
  unfold ldI
  unfold lgt at h2 hc
  split at h1
  · rename_i v hv
    rw [hv] at h2 hc ⊢
    cases v <;> first | exact hc | exact h2.elim
  · exact h1.elim
theorem ld_A {k : Nat} {c : Value → Prop} (h1 : lhas L k) (h2 : isRf (lgt L k)) (hc : c (lgt L k)) : ldA L k c := by
  unfold lhas at h1
  unfold ldA
  unfold lgt at h2 hc
  split at h1
  · rename_i v hv
    rw [hv] at h2 hc ⊢
    cases v <;> first | exact hc | exact h2.elim
  · exact h1.elim
end EV
def inc (v : Value) (z : Int) : Value := match v with
  | .int x => .int (x + Int32.ofInt z)
  | v => v
theorem ld_inc {L : List (Option Value)} {k : Nat} {z : Int} {c : List (Option Value) → Prop} (h1 : lhas L k) (h2 : isI (lgt L k)) (hc : c (L.set k (some (inc (lgt L k) z)))) : iic L k z c := by
  unfold lhas at h1
  unfold iic
  unfold lgt at h2 hc
  split at h1
  · rename_i v hv
    rw [hv] at h2 hc ⊢
    cases v <;> first | exact hc | exact h2.elim
  · exact h1.elim
def jok (pc : Nat) (z : Int) : Prop := 0 ≤ (pc : Int) + z
def jto (pc : Nat) (z : Int) : Nat := ((pc : Int) + z).toNat
theorem bo {q A B : Prop} {d : Decidable q} (h : if q then A else B) : both q A B := by
  unfold both
  by_cases e : q
  · rw [if_pos e] at h
    exact ⟨fun _ => h, fun z => absurd e z⟩
  · rw [if_neg e] at h
    exact ⟨fun z => absurd z e, fun _ => h⟩
theorem fk_get {F : Nat → Option Fq} {j a : Nat} {r : List Value} {h : Hp} {c : List Value → Prop} (h1 : (F j).isSome = true) (h2 : h.1 a = some (.inl (fk F j).1) ∧ c (h.2 a (fk F j).2.1 :: r)) : gtf F j (.ref a :: r) h c := by
  unfold fk at h2
  unfold gtf
  cases hF : F j with
  | none => rw [hF] at h1; cases h1
  | some q => rw [hF] at h2; exact h2
theorem fk_put {F : Nat → Option Fq} {ini : Option Nat} {j a : Nat} {r : List Value} {v : Value} {h : Hp} {c : List Value → Hp → Prop} (h1 : (F j).isSome = true) (h2 : h.1 a = some (.inl (fk F j).1) ∧ okv (fk F j).2.2.1 v ∧ ((fk F j).2.2.2 = true → ini = some (fk F j).1) ∧ c r (h.1, hup h.2 a (fk F j).2.1 v)) : ptf F ini j (v :: .ref a :: r) h c := by
  unfold fk at h2
  unfold ptf
  cases hF : F j with
  | none => rw [hF] at h1; cases h1
  | some q => rw [hF] at h2; exact h2
def alen (κ : Option (Nat ⊕ (Nat × Nat))) : Nat := match κ with
  | some (.inr q) => q.2
  | _ => 0
theorem al_n {a : Nat} {r : List Value} {h : Hp} {c : List Value → Prop} (h1 : isA (h.1 a) (fun _ _ => True)) (h2 : c (.int (nI (alen (h.1 a))) :: r)) : aln (.ref a :: r) h c := by
  obtain ⟨k, n, e, -⟩ := isA_ex h1
  show isA (h.1 a) (fun _ n => c (.int (nI n) :: r))
  rw [e] at h2 ⊢
  exact h2
def rokI (rt : Option FieldType) (v : Int32) : Prop := match rt with
  | some ty => narrow ty (.int v) = .int v
  | none => False
theorem rI {rt : Option FieldType} {v : Int32} {c : Value → Prop} (h1 : rokI rt v) (h2 : c (.int v)) : rtI rt [.int v] c := by
  unfold rokI at h1
  unfold rtI
  cases rt with
  | none => exact h1.elim
  | some ty => exact ⟨h1, h2⟩
/-- the step in a form without bound variables: what it gives implies what 'sw' asks -/
def nx (F : Nat → Option Fq) (ini : Option Nat) (rt : Option FieldType) (fin : Option Value → Hp → Nat → Nat → Prop) (K0 K : Kt) (i : Instr) (n pc : Nat) (L : List (Option Value)) (st : List Value) (h : Hp) (cs ss : Nat) : Prop :=
  match i, st with
  | .iload k, st => n = 2 ∧ lhas L k ∧ isI (lgt L k) ∧ K (pc + 2) L (lgt L k :: st) h cs ss
  | .iload_n k, st => n = 1 ∧ lhas L k.val ∧ isI (lgt L k.val) ∧ K (pc + 1) L (lgt L k.val :: st) h cs ss
  | .aload k, st => n = 2 ∧ lhas L k ∧ isRf (lgt L k) ∧ K (pc + 2) L (lgt L k :: st) h cs ss
  | .aload_n k, st => n = 1 ∧ lhas L k.val ∧ isRf (lgt L k.val) ∧ K (pc + 1) L (lgt L k.val :: st) h cs ss
  | .istore k, .int x :: r => n = 2 ∧ k < L.length ∧ K (pc + 2) (L.set k (some (.int x))) r h cs ss
  | .istore_n k, .int x :: r => n = 1 ∧ k.val < L.length ∧ K (pc + 1) (L.set k.val (some (.int x))) r h cs ss
  | .astore k, .ref x :: r => n = 2 ∧ k < L.length ∧ K (pc + 2) (L.set k (some (.ref x))) r h cs ss
  | .astore k, .null :: r => n = 2 ∧ k < L.length ∧ K (pc + 2) (L.set k (some .null)) r h cs ss
  | .astore_n k, .ref x :: r => n = 1 ∧ k.val < L.length ∧ K (pc + 1) (L.set k.val (some (.ref x))) r h cs ss
  | .astore_n k, .null :: r => n = 1 ∧ k.val < L.length ∧ K (pc + 1) (L.set k.val (some .null)) r h cs ss
  | .iinc k z, st => n = 3 ∧ lhas L k ∧ isI (lgt L k) ∧ K (pc + 3) (L.set k (some (inc (lgt L k) z))) st h cs ss
  | .iconst z, st => n = 1 ∧ K (pc + 1) L (.int (Int32.ofInt z) :: st) h cs ss
  | .bipush z, st => n = 2 ∧ K (pc + 2) L (.int (Int8.ofInt z).toInt32 :: st) h cs ss
  | .sipush z, st => n = 3 ∧ K (pc + 3) L (.int (Int16.ofInt z).toInt32 :: st) h cs ss
  | .lconst z, st => n = 1 ∧ K (pc + 1) L (.long (Int64.ofNat z.val) :: st) h cs ss
  | .aconst_null, st => n = 1 ∧ K (pc + 1) L (.null :: st) h cs ss
  | .iadd, .int y :: .int x :: r => n = 1 ∧ K (pc + 1) L (.int (x + y) :: r) h cs ss
  | .isub, .int y :: .int x :: r => n = 1 ∧ K (pc + 1) L (.int (x - y) :: r) h cs ss
  | .imul, .int y :: .int x :: r => n = 1 ∧ K (pc + 1) L (.int (x * y) :: r) h cs ss
  | .iand, .int y :: .int x :: r => n = 1 ∧ K (pc + 1) L (.int (x &&& y) :: r) h cs ss
  | .ior, .int y :: .int x :: r => n = 1 ∧ K (pc + 1) L (.int (x ||| y) :: r) h cs ss
  | .ishr, .int y :: .int x :: r => n = 1 ∧ K (pc + 1) L (.int (x >>> (y &&& 31)) :: r) h cs ss
  | .ishl, .int y :: .int x :: r => n = 1 ∧ K (pc + 1) L (.int (x <<< (y &&& 31)) :: r) h cs ss
  | .idiv, .int y :: .int x :: r => n = 1 ∧ ¬ y = 0 ∧ K (pc + 1) L (.int (x / y) :: r) h cs ss
  | .irem, .int y :: .int x :: r => n = 1 ∧ ¬ y = 0 ∧ K (pc + 1) L (.int (x - x / y * y) :: r) h cs ss
  | .ixor, .int y :: .int x :: r => n = 1 ∧ K (pc + 1) L (.int (x ^^^ y) :: r) h cs ss
  | .iushr, .int y :: .int x :: r => n = 1 ∧ K (pc + 1) L (.int (ius x y) :: r) h cs ss
  | .dup2, va :: vb :: r => n = 1 ∧ va.category = 1 ∧ vb.category = 1 ∧ K (pc + 1) L (va :: vb :: va :: vb :: r) h cs ss
  | .lmul, .long y :: .long x :: r => n = 1 ∧ K (pc + 1) L (.long (x * y) :: r) h cs ss
  | .lushr, .int y :: .long x :: r => n = 1 ∧ K (pc + 1) L (.long (x.toUInt64 >>> (y.toInt64.toUInt64 &&& Int64.toUInt64 63)).toInt64 :: r) h cs ss
  | .l2i, .long x :: r => n = 1 ∧ K (pc + 1) L (.int x.toInt32 :: r) h cs ss
  | .i2l, .int x :: r => n = 1 ∧ K (pc + 1) L (.long x.toInt64 :: r) h cs ss
  | .i2c, .int x :: r => n = 1 ∧ K (pc + 1) L (.int (x.toUInt32 % 65536).toInt32 :: r) h cs ss
  | .lcmp, .long y :: .long x :: r => n = 1 ∧ K (pc + 1) L (.int (lg_cmp x y) :: r) h cs ss
  | .dup, v :: r => n = 1 ∧ v.category = 1 ∧ K (pc + 1) L (v :: v :: r) h cs ss
  | .pop, v :: r => n = 1 ∧ v.category = 1 ∧ K (pc + 1) L r h cs ss
  | .goto z, st => n = 3 ∧ jok pc z ∧ K (jto pc z) L st h cs ss
  | .ifCond .eq z, .int x :: r => n = 3 ∧ jok pc z ∧ if x = 0 then K (jto pc z) L r h cs ss else K (pc + 3) L r h cs ss
  | .ifCond .ne z, .int x :: r => n = 3 ∧ jok pc z ∧ if ¬ x = 0 then K (jto pc z) L r h cs ss else K (pc + 3) L r h cs ss
  | .ifCond .lt z, .int x :: r => n = 3 ∧ jok pc z ∧ if x < 0 then K (jto pc z) L r h cs ss else K (pc + 3) L r h cs ss
  | .ifCond .ge z, .int x :: r => n = 3 ∧ jok pc z ∧ if 0 ≤ x then K (jto pc z) L r h cs ss else K (pc + 3) L r h cs ss
  | .ifCond .gt z, .int x :: r => n = 3 ∧ jok pc z ∧ if 0 < x then K (jto pc z) L r h cs ss else K (pc + 3) L r h cs ss
  | .ifCond .le z, .int x :: r => n = 3 ∧ jok pc z ∧ if x ≤ 0 then K (jto pc z) L r h cs ss else K (pc + 3) L r h cs ss
  | .if_icmp .eq z, .int y :: .int x :: r => n = 3 ∧ jok pc z ∧ if x = y then K (jto pc z) L r h cs ss else K (pc + 3) L r h cs ss
  | .if_icmp .ne z, .int y :: .int x :: r => n = 3 ∧ jok pc z ∧ if ¬ x = y then K (jto pc z) L r h cs ss else K (pc + 3) L r h cs ss
  | .if_icmp .lt z, .int y :: .int x :: r => n = 3 ∧ jok pc z ∧ if x < y then K (jto pc z) L r h cs ss else K (pc + 3) L r h cs ss
  | .if_icmp .ge z, .int y :: .int x :: r => n = 3 ∧ jok pc z ∧ if y ≤ x then K (jto pc z) L r h cs ss else K (pc + 3) L r h cs ss
  | .if_icmp .gt z, .int y :: .int x :: r => n = 3 ∧ jok pc z ∧ if y < x then K (jto pc z) L r h cs ss else K (pc + 3) L r h cs ss
  | .if_icmp .le z, .int y :: .int x :: r => n = 3 ∧ jok pc z ∧ if x ≤ y then K (jto pc z) L r h cs ss else K (pc + 3) L r h cs ss
  | .if_acmp .eq z, .ref y :: .ref x :: r => n = 3 ∧ jok pc z ∧ if x = y then K (jto pc z) L r h cs ss else K (pc + 3) L r h cs ss
  | .if_acmp .eq z, .null :: .null :: r => n = 3 ∧ jok pc z ∧ K (jto pc z) L r h cs ss
  | .if_acmp .eq z, .null :: .ref x :: r => n = 3 ∧ jok pc z ∧ K (pc + 3) L r h cs ss
  | .if_acmp .eq z, .ref y :: .null :: r => n = 3 ∧ jok pc z ∧ K (pc + 3) L r h cs ss
  | .if_acmp .ne z, .ref y :: .ref x :: r => n = 3 ∧ jok pc z ∧ if ¬ (x = y) then K (jto pc z) L r h cs ss else K (pc + 3) L r h cs ss
  | .if_acmp .ne z, .null :: .null :: r => n = 3 ∧ jok pc z ∧ K (pc + 3) L r h cs ss
  | .if_acmp .ne z, .null :: .ref x :: r => n = 3 ∧ jok pc z ∧ K (jto pc z) L r h cs ss
  | .if_acmp .ne z, .ref y :: .null :: r => n = 3 ∧ jok pc z ∧ K (jto pc z) L r h cs ss
  | .ifnull z, .null :: r => n = 3 ∧ jok pc z ∧ K (jto pc z) L r h cs ss
  | .ifnull z, .ref x :: r => n = 3 ∧ jok pc z ∧ K (pc + 3) L r h cs ss
  | .ifnonnull z, .null :: r => n = 3 ∧ jok pc z ∧ K (pc + 3) L r h cs ss
  | .ifnonnull z, .ref x :: r => n = 3 ∧ jok pc z ∧ K (jto pc z) L r h cs ss
  | .getfield j, .ref a :: r => n = 3 ∧ (F j).isSome = true ∧ h.1 a = some (.inl (fk F j).1) ∧ K (pc + 3) L (h.2 a (fk F j).2.1 :: r) h cs ss
  | .putfield j, v :: .ref a :: r => n = 3 ∧ (F j).isSome = true ∧ h.1 a = some (.inl (fk F j).1) ∧ okv (fk F j).2.2.1 v ∧ ((fk F j).2.2.2 = true → ini = some (fk F j).1) ∧ K (pc + 3) L r (h.1, hup h.2 a (fk F j).2.1 v) cs ss
  | .arraylength, .ref a :: r => n = 1 ∧ isA (h.1 a) (fun _ _ => True) ∧ K (pc + 1) L (.int (nI (alen (h.1 a))) :: r) h cs ss
  | .iaload, .int i :: .ref a :: r => n = 1 ∧ isA (h.1 a) (fun k m => k = 0 ∧ vp_in i m) ∧ K (pc + 1) L (h.2 a i.toNatClampNeg :: r) h cs ss
  | .baload, .int i :: .ref a :: r => n = 1 ∧ isA (h.1 a) (fun k m => k = 1 ∧ vp_in i m) ∧ K (pc + 1) L (h.2 a i.toNatClampNeg :: r) h cs ss
  | .caload, .int i :: .ref a :: r => n = 1 ∧ isA (h.1 a) (fun k m => k = 2 ∧ vp_in i m) ∧ K (pc + 1) L (h.2 a i.toNatClampNeg :: r) h cs ss
  | .laload, .int i :: .ref a :: r => n = 1 ∧ isA (h.1 a) (fun k m => k = 3 ∧ vp_in i m) ∧ K (pc + 1) L (h.2 a i.toNatClampNeg :: r) h cs ss
  | .aaload, .int i :: .ref a :: r => n = 1 ∧ isA (h.1 a) (fun k m => 4 ≤ k ∧ vp_in i m) ∧ K (pc + 1) L (h.2 a i.toNatClampNeg :: r) h cs ss
  | .iastore, .int v :: .int i :: .ref a :: r => n = 1 ∧ isA (h.1 a) (fun k m => k = 0 ∧ vp_in i m) ∧ K (pc + 1) L r (h.1, hup h.2 a i.toNatClampNeg (.int v)) cs ss
  | .bastore, .int v :: .int i :: .ref a :: r => n = 1 ∧ isA (h.1 a) (fun k m => k = 1 ∧ vp_in i m) ∧ K (pc + 1) L r (h.1, hup h.2 a i.toNatClampNeg (narrow .boolean (.int v))) cs ss
  | .castore, .int v :: .int i :: .ref a :: r => n = 1 ∧ isA (h.1 a) (fun k m => k = 2 ∧ vp_in i m) ∧ K (pc + 1) L r (h.1, hup h.2 a i.toNatClampNeg (narrow .char (.int v))) cs ss
  | .lastore, .long v :: .int i :: .ref a :: r => n = 1 ∧ isA (h.1 a) (fun k m => k = 3 ∧ vp_in i m) ∧ K (pc + 1) L r (h.1, hup h.2 a i.toNatClampNeg (.long v)) cs ss
  | .aastore, .ref v :: .int i :: .ref a :: r => n = 1 ∧ isA (h.1 a) (fun t m => 4 ≤ t ∧ h.1 v = some (.inl (vec t)) ∧ vp_in i m) ∧ K (pc + 1) L r (h.1, hup h.2 a i.toNatClampNeg (.ref v)) cs ss
  | .aastore, .null :: .int i :: .ref a :: r => n = 1 ∧ isA (h.1 a) (fun t m => 4 ≤ t ∧ vp_in i m) ∧ K (pc + 1) L r (h.1, hup h.2 a i.toNatClampNeg .null) cs ss
  | .ireturn, [.int v] => n = 1 ∧ rokI rt v ∧ fin (some (.int v)) h cs ss
  | .areturn, [.ref v] => n = 1 ∧ isR rt ∧ fin (some (.ref v)) h cs ss
  | .areturn, [.null] => n = 1 ∧ isR rt ∧ fin (some .null) h cs ss
  | .return_, [] => n = 1 ∧ rt = none ∧ fin none h cs ss
  | .invokevirtual j, st => K0 pc L st h cs ss
  | .invokestatic j, st => K0 pc L st h cs ss
  | .invokespecial j, st => K0 pc L st h cs ss
  | .new j, st => K0 pc L st h cs ss
  | .newarray j, st => K0 pc L st h cs ss
  | .anewarray j, st => K0 pc L st h cs ss
  | .tableswitch d lo hi offs, st => K0 pc L st h cs ss
  | .ldc j, st => K0 pc L st h cs ss
  | .ldc2_w j, st => K0 pc L st h cs ss
  | .athrow, st => K0 pc L st h cs ss
  | _, _ => False
set_option maxHeartbeats 4000000 in
theorem nx_ok {F : Nat → Option Fq} {ini : Option Nat} {rt : Option FieldType} {fin : Option Value → Hp → Nat → Nat → Prop} {K0 K : Kt} {i : Instr} {n pc : Nat} {L : List (Option Value)} {st : List Value} {h : Hp} {cs ss : Nat} (hs : nx F ini rt fin K0 K i n pc L st h cs ss) : sw F ini rt fin K0 K i n pc L st h cs ss := by
  unfold nx at hs
  split at hs
  · exact ⟨hs.1, ld_I hs.2.1 hs.2.2.1 hs.2.2.2⟩
  · exact ⟨hs.1, ld_I hs.2.1 hs.2.2.1 hs.2.2.2⟩
  · exact ⟨hs.1, ld_A hs.2.1 hs.2.2.1 hs.2.2.2⟩
  · exact ⟨hs.1, ld_A hs.2.1 hs.2.2.1 hs.2.2.2⟩
  · exact hs
  · exact hs
  · exact hs
  · exact hs
  · exact hs
  · exact hs
  · exact ⟨hs.1, ld_inc hs.2.1 hs.2.2.1 hs.2.2.2⟩
  · exact hs
  · exact hs
  · exact hs
  · exact hs
  · exact hs
  · exact hs
  · exact hs
  · exact hs
  · exact hs
  · exact hs
  · exact hs
  · exact hs
  · exact hs
  · exact hs
  · exact hs
  · exact hs
  · exact hs
  · exact hs
  · exact hs
  · exact hs
  · exact hs
  · exact hs
  · exact hs
  · exact hs
  · exact hs
  · exact hs
  · exact ⟨hs.1, hs.2.1, bo hs.2.2⟩
  · exact ⟨hs.1, hs.2.1, bo hs.2.2⟩
  · exact ⟨hs.1, hs.2.1, bo hs.2.2⟩
  · exact ⟨hs.1, hs.2.1, bo hs.2.2⟩
  · exact ⟨hs.1, hs.2.1, bo hs.2.2⟩
  · exact ⟨hs.1, hs.2.1, bo hs.2.2⟩
  · exact ⟨hs.1, hs.2.1, bo hs.2.2⟩
  · exact ⟨hs.1, hs.2.1, bo hs.2.2⟩
  · exact ⟨hs.1, hs.2.1, bo hs.2.2⟩
  · exact ⟨hs.1, hs.2.1, bo hs.2.2⟩
  · exact ⟨hs.1, hs.2.1, bo hs.2.2⟩
  · exact ⟨hs.1, hs.2.1, bo hs.2.2⟩
  · exact ⟨hs.1, hs.2.1, bo hs.2.2⟩
  · exact ⟨hs.1, hs.2.1, ⟨fun _ => hs.2.2, fun q => absurd trivial q⟩⟩
  · exact ⟨hs.1, hs.2.1, ⟨fun q => q.elim, fun _ => hs.2.2⟩⟩
  · exact ⟨hs.1, hs.2.1, ⟨fun q => q.elim, fun _ => hs.2.2⟩⟩
  · exact ⟨hs.1, hs.2.1, bo hs.2.2⟩
  · exact ⟨hs.1, hs.2.1, ⟨fun q => absurd trivial q, fun _ => hs.2.2⟩⟩
  · exact ⟨hs.1, hs.2.1, ⟨fun _ => hs.2.2, fun q => absurd (fun z => z) q⟩⟩
  · exact ⟨hs.1, hs.2.1, ⟨fun _ => hs.2.2, fun q => absurd (fun z => z) q⟩⟩
  · exact ⟨hs.1, hs.2.1, fun _ => hs.2.2, fun q => absurd trivial q⟩
  · exact ⟨hs.1, hs.2.1, fun q => q.elim, fun _ => hs.2.2⟩
  · exact ⟨hs.1, hs.2.1, fun _ => hs.2.2, fun q => absurd trivial q⟩
  · exact ⟨hs.1, hs.2.1, fun q => q.elim, fun _ => hs.2.2⟩
  · exact ⟨hs.1, fk_get hs.2.1 hs.2.2⟩
  · exact ⟨hs.1, fk_put hs.2.1 hs.2.2⟩
  · exact ⟨hs.1, al_n hs.2.1 hs.2.2⟩
  · exact hs
  · exact hs
  · exact hs
  · exact hs
  · exact hs
  · exact hs
  · exact hs
  · exact hs
  · exact hs
  · exact hs
  · exact hs
  · exact ⟨hs.1, rI hs.2.1 hs.2.2⟩
  · exact hs
  · exact hs
  · exact hs
  · exact hs
  · exact hs
  · exact hs
  · exact hs
  · exact hs
  · exact hs
  · exact hs
  · exact hs
  · exact hs
  · exact hs
  · exact hs.elim
section NX
variable {F : Nat → Option Fq} {ini : Option Nat} {rt : Option FieldType} {fin : Option Value → Hp → Nat → Nat → Prop} {K0 K : Kt} {n pc : Nat} {L : List (Option Value)} {h : Hp} {cs ss : Nat}
theorem nx_iload_0 (k : Nat) (st : List Value) : nx F ini rt fin K0 K (.iload k) 2 pc L (st) h cs ss = (lhas L k ∧ isI (lgt L k) ∧ K (pc + 2) L (lgt L k :: st) h cs ss) := by
  show (2 = 2 ∧ _) = _
  simp only [true_and]
theorem nx_iload_n_1 (k : Fin 4) (st : List Value) : nx F ini rt fin K0 K (.iload_n k) 1 pc L (st) h cs ss = (lhas L k.val ∧ isI (lgt L k.val) ∧ K (pc + 1) L (lgt L k.val :: st) h cs ss) := by
  show (1 = 1 ∧ _) = _
  simp only [true_and]
theorem nx_aload_2 (k : Nat) (st : List Value) : nx F ini rt fin K0 K (.aload k) 2 pc L (st) h cs ss = (lhas L k ∧ isRf (lgt L k) ∧ K (pc + 2) L (lgt L k :: st) h cs ss) := by
  show (2 = 2 ∧ _) = _
  simp only [true_and]
theorem nx_aload_n_3 (k : Fin 4) (st : List Value) : nx F ini rt fin K0 K (.aload_n k) 1 pc L (st) h cs ss = (lhas L k.val ∧ isRf (lgt L k.val) ∧ K (pc + 1) L (lgt L k.val :: st) h cs ss) := by
  show (1 = 1 ∧ _) = _
  simp only [true_and]
theorem nx_istore_4 (k : Nat) (x : Int32) (r : List Value) : nx F ini rt fin K0 K (.istore k) 2 pc L (.int x :: r) h cs ss = (k < L.length ∧ K (pc + 2) (L.set k (some (.int x))) r h cs ss) := by
  show (2 = 2 ∧ _) = _
  simp only [true_and]
theorem nx_istore_n_5 (k : Fin 4) (x : Int32) (r : List Value) : nx F ini rt fin K0 K (.istore_n k) 1 pc L (.int x :: r) h cs ss = (k.val < L.length ∧ K (pc + 1) (L.set k.val (some (.int x))) r h cs ss) := by
  show (1 = 1 ∧ _) = _
  simp only [true_and]
theorem nx_astore_6 (k : Nat) (x : Nat) (r : List Value) : nx F ini rt fin K0 K (.astore k) 2 pc L (.ref x :: r) h cs ss = (k < L.length ∧ K (pc + 2) (L.set k (some (.ref x))) r h cs ss) := by
  show (2 = 2 ∧ _) = _
  simp only [true_and]
theorem nx_astore_7 (k : Nat) (r : List Value) : nx F ini rt fin K0 K (.astore k) 2 pc L (.null :: r) h cs ss = (k < L.length ∧ K (pc + 2) (L.set k (some .null)) r h cs ss) := by
  show (2 = 2 ∧ _) = _
  simp only [true_and]
theorem nx_astore_n_8 (k : Fin 4) (x : Nat) (r : List Value) : nx F ini rt fin K0 K (.astore_n k) 1 pc L (.ref x :: r) h cs ss = (k.val < L.length ∧ K (pc + 1) (L.set k.val (some (.ref x))) r h cs ss) := by
  show (1 = 1 ∧ _) = _
  simp only [true_and]
theorem nx_astore_n_9 (k : Fin 4) (r : List Value) : nx F ini rt fin K0 K (.astore_n k) 1 pc L (.null :: r) h cs ss = (k.val < L.length ∧ K (pc + 1) (L.set k.val (some .null)) r h cs ss) := by
  show (1 = 1 ∧ _) = _
  simp only [true_and]
theorem nx_iinc_10 (k : Nat) (z : Int) (st : List Value) : nx F ini rt fin K0 K (.iinc k z) 3 pc L (st) h cs ss = (lhas L k ∧ isI (lgt L k) ∧ K (pc + 3) (L.set k (some (inc (lgt L k) z))) st h cs ss) := by
  show (3 = 3 ∧ _) = _
  simp only [true_and]
theorem nx_iconst_11 (z : Int) (st : List Value) : nx F ini rt fin K0 K (.iconst z) 1 pc L (st) h cs ss = (K (pc + 1) L (.int (Int32.ofInt z) :: st) h cs ss) := by
  show (1 = 1 ∧ _) = _
  simp only [true_and]
theorem nx_bipush_12 (z : Int) (st : List Value) : nx F ini rt fin K0 K (.bipush z) 2 pc L (st) h cs ss = (K (pc + 2) L (.int (Int8.ofInt z).toInt32 :: st) h cs ss) := by
  show (2 = 2 ∧ _) = _
  simp only [true_and]
theorem nx_sipush_13 (z : Int) (st : List Value) : nx F ini rt fin K0 K (.sipush z) 3 pc L (st) h cs ss = (K (pc + 3) L (.int (Int16.ofInt z).toInt32 :: st) h cs ss) := by
  show (3 = 3 ∧ _) = _
  simp only [true_and]
theorem nx_lconst_14 (z : Fin 2) (st : List Value) : nx F ini rt fin K0 K (.lconst z) 1 pc L (st) h cs ss = (K (pc + 1) L (.long (Int64.ofNat z.val) :: st) h cs ss) := by
  show (1 = 1 ∧ _) = _
  simp only [true_and]
theorem nx_aconst_null_15 (st : List Value) : nx F ini rt fin K0 K (.aconst_null) 1 pc L (st) h cs ss = (K (pc + 1) L (.null :: st) h cs ss) := by
  show (1 = 1 ∧ _) = _
  simp only [true_and]
theorem nx_iadd_16 (y : Int32) (x : Int32) (r : List Value) : nx F ini rt fin K0 K (.iadd) 1 pc L (.int y :: .int x :: r) h cs ss = (K (pc + 1) L (.int (x + y) :: r) h cs ss) := by
  show (1 = 1 ∧ _) = _
  simp only [true_and]
theorem nx_isub_17 (y : Int32) (x : Int32) (r : List Value) : nx F ini rt fin K0 K (.isub) 1 pc L (.int y :: .int x :: r) h cs ss = (K (pc + 1) L (.int (x - y) :: r) h cs ss) := by
  show (1 = 1 ∧ _) = _
  simp only [true_and]
theorem nx_imul_18 (y : Int32) (x : Int32) (r : List Value) : nx F ini rt fin K0 K (.imul) 1 pc L (.int y :: .int x :: r) h cs ss = (K (pc + 1) L (.int (x * y) :: r) h cs ss) := by
  show (1 = 1 ∧ _) = _
  simp only [true_and]
theorem nx_iand_19 (y : Int32) (x : Int32) (r : List Value) : nx F ini rt fin K0 K (.iand) 1 pc L (.int y :: .int x :: r) h cs ss = (K (pc + 1) L (.int (x &&& y) :: r) h cs ss) := by
  show (1 = 1 ∧ _) = _
  simp only [true_and]
theorem nx_ior_20 (y : Int32) (x : Int32) (r : List Value) : nx F ini rt fin K0 K (.ior) 1 pc L (.int y :: .int x :: r) h cs ss = (K (pc + 1) L (.int (x ||| y) :: r) h cs ss) := by
  show (1 = 1 ∧ _) = _
  simp only [true_and]
theorem nx_ishr_21 (y : Int32) (x : Int32) (r : List Value) : nx F ini rt fin K0 K (.ishr) 1 pc L (.int y :: .int x :: r) h cs ss = (K (pc + 1) L (.int (x >>> (y &&& 31)) :: r) h cs ss) := by
  show (1 = 1 ∧ _) = _
  simp only [true_and]
theorem nx_ishl_22 (y : Int32) (x : Int32) (r : List Value) : nx F ini rt fin K0 K (.ishl) 1 pc L (.int y :: .int x :: r) h cs ss = (K (pc + 1) L (.int (x <<< (y &&& 31)) :: r) h cs ss) := by
  show (1 = 1 ∧ _) = _
  simp only [true_and]
theorem nx_idiv_23 (y : Int32) (x : Int32) (r : List Value) : nx F ini rt fin K0 K (.idiv) 1 pc L (.int y :: .int x :: r) h cs ss = (¬ y = 0 ∧ K (pc + 1) L (.int (x / y) :: r) h cs ss) := by
  show (1 = 1 ∧ _) = _
  simp only [true_and]
theorem nx_irem_81 (y x : Int32) (r : List Value) : nx F ini rt fin K0 K (.irem) 1 pc L (.int y :: .int x :: r) h cs ss = (¬ y = 0 ∧ K (pc + 1) L (.int (x - x / y * y) :: r) h cs ss) := by
  show (1 = 1 ∧ _) = _
  simp only [true_and]
theorem nx_ixor_82 (y x : Int32) (r : List Value) : nx F ini rt fin K0 K (.ixor) 1 pc L (.int y :: .int x :: r) h cs ss = (K (pc + 1) L (.int (x ^^^ y) :: r) h cs ss) := by
  show (1 = 1 ∧ _) = _
  simp only [true_and]
theorem nx_iushr_83 (y x : Int32) (r : List Value) : nx F ini rt fin K0 K (.iushr) 1 pc L (.int y :: .int x :: r) h cs ss = (K (pc + 1) L (.int (ius x y) :: r) h cs ss) := by
  show (1 = 1 ∧ _) = _
  simp only [true_and]
theorem nx_dup2_84 (va vb : Value) (r : List Value) : nx F ini rt fin K0 K (.dup2) 1 pc L (va :: vb :: r) h cs ss = (va.category = 1 ∧ vb.category = 1 ∧ K (pc + 1) L (va :: vb :: va :: vb :: r) h cs ss) := by
  show (1 = 1 ∧ _) = _
  simp only [true_and]
theorem nx_lmul_85 (y x : Int64) (r : List Value) : nx F ini rt fin K0 K (.lmul) 1 pc L (.long y :: .long x :: r) h cs ss = (K (pc + 1) L (.long (x * y) :: r) h cs ss) := by
  show (1 = 1 ∧ _) = _
  simp only [true_and]
theorem nx_lushr_86 (y : Int32) (x : Int64) (r : List Value) : nx F ini rt fin K0 K (.lushr) 1 pc L (.int y :: .long x :: r) h cs ss = (K (pc + 1) L (.long (x.toUInt64 >>> (y.toInt64.toUInt64 &&& Int64.toUInt64 63)).toInt64 :: r) h cs ss) := by
  show (1 = 1 ∧ _) = _
  simp only [true_and]
theorem nx_l2i_87 (x : Int64) (r : List Value) : nx F ini rt fin K0 K (.l2i) 1 pc L (.long x :: r) h cs ss = (K (pc + 1) L (.int x.toInt32 :: r) h cs ss) := by
  show (1 = 1 ∧ _) = _
  simp only [true_and]
theorem nx_i2l_24 (x : Int32) (r : List Value) : nx F ini rt fin K0 K (.i2l) 1 pc L (.int x :: r) h cs ss = (K (pc + 1) L (.long x.toInt64 :: r) h cs ss) := by
  show (1 = 1 ∧ _) = _
  simp only [true_and]
theorem nx_i2c_25 (x : Int32) (r : List Value) : nx F ini rt fin K0 K (.i2c) 1 pc L (.int x :: r) h cs ss = (K (pc + 1) L (.int (x.toUInt32 % 65536).toInt32 :: r) h cs ss) := by
  show (1 = 1 ∧ _) = _
  simp only [true_and]
theorem nx_lcmp_26 (y : Int64) (x : Int64) (r : List Value) : nx F ini rt fin K0 K (.lcmp) 1 pc L (.long y :: .long x :: r) h cs ss = (K (pc + 1) L (.int (lg_cmp x y) :: r) h cs ss) := by
  show (1 = 1 ∧ _) = _
  simp only [true_and]
theorem nx_dup_27 (v : Value) (r : List Value) : nx F ini rt fin K0 K (.dup) 1 pc L (v :: r) h cs ss = (v.category = 1 ∧ K (pc + 1) L (v :: v :: r) h cs ss) := by
  show (1 = 1 ∧ _) = _
  simp only [true_and]
theorem nx_pop_28 (v : Value) (r : List Value) : nx F ini rt fin K0 K (.pop) 1 pc L (v :: r) h cs ss = (v.category = 1 ∧ K (pc + 1) L r h cs ss) := by
  show (1 = 1 ∧ _) = _
  simp only [true_and]
theorem nx_goto_29 (z : Int) (st : List Value) : nx F ini rt fin K0 K (.goto z) 3 pc L (st) h cs ss = (jok pc z ∧ K (jto pc z) L st h cs ss) := by
  show (3 = 3 ∧ _) = _
  simp only [true_and]
theorem nx_ifond_30 (z : Int) (x : Int32) (r : List Value) : nx F ini rt fin K0 K (.ifCond .eq z) 3 pc L (.int x :: r) h cs ss = (jok pc z ∧ if x = 0 then K (jto pc z) L r h cs ss else K (pc + 3) L r h cs ss) := by
  show (3 = 3 ∧ _) = _
  simp only [true_and]
theorem nx_ifond_31 (z : Int) (x : Int32) (r : List Value) : nx F ini rt fin K0 K (.ifCond .ne z) 3 pc L (.int x :: r) h cs ss = (jok pc z ∧ if ¬ x = 0 then K (jto pc z) L r h cs ss else K (pc + 3) L r h cs ss) := by
  show (3 = 3 ∧ _) = _
  simp only [true_and]
theorem nx_ifond_32 (z : Int) (x : Int32) (r : List Value) : nx F ini rt fin K0 K (.ifCond .lt z) 3 pc L (.int x :: r) h cs ss = (jok pc z ∧ if x < 0 then K (jto pc z) L r h cs ss else K (pc + 3) L r h cs ss) := by
  show (3 = 3 ∧ _) = _
  simp only [true_and]
theorem nx_ifond_33 (z : Int) (x : Int32) (r : List Value) : nx F ini rt fin K0 K (.ifCond .ge z) 3 pc L (.int x :: r) h cs ss = (jok pc z ∧ if 0 ≤ x then K (jto pc z) L r h cs ss else K (pc + 3) L r h cs ss) := by
  show (3 = 3 ∧ _) = _
  simp only [true_and]
theorem nx_ifond_34 (z : Int) (x : Int32) (r : List Value) : nx F ini rt fin K0 K (.ifCond .gt z) 3 pc L (.int x :: r) h cs ss = (jok pc z ∧ if 0 < x then K (jto pc z) L r h cs ss else K (pc + 3) L r h cs ss) := by
  show (3 = 3 ∧ _) = _
  simp only [true_and]
theorem nx_ifond_35 (z : Int) (x : Int32) (r : List Value) : nx F ini rt fin K0 K (.ifCond .le z) 3 pc L (.int x :: r) h cs ss = (jok pc z ∧ if x ≤ 0 then K (jto pc z) L r h cs ss else K (pc + 3) L r h cs ss) := by
  show (3 = 3 ∧ _) = _
  simp only [true_and]
theorem nx_if_icmp_36 (z : Int) (y : Int32) (x : Int32) (r : List Value) : nx F ini rt fin K0 K (.if_icmp .eq z) 3 pc L (.int y :: .int x :: r) h cs ss = (jok pc z ∧ if x = y then K (jto pc z) L r h cs ss else K (pc + 3) L r h cs ss) := by
  show (3 = 3 ∧ _) = _
  simp only [true_and]
theorem nx_if_icmp_37 (z : Int) (y : Int32) (x : Int32) (r : List Value) : nx F ini rt fin K0 K (.if_icmp .ne z) 3 pc L (.int y :: .int x :: r) h cs ss = (jok pc z ∧ if ¬ x = y then K (jto pc z) L r h cs ss else K (pc + 3) L r h cs ss) := by
  show (3 = 3 ∧ _) = _
  simp only [true_and]
theorem nx_if_icmp_38 (z : Int) (y : Int32) (x : Int32) (r : List Value) : nx F ini rt fin K0 K (.if_icmp .lt z) 3 pc L (.int y :: .int x :: r) h cs ss = (jok pc z ∧ if x < y then K (jto pc z) L r h cs ss else K (pc + 3) L r h cs ss) := by
  show (3 = 3 ∧ _) = _
  simp only [true_and]
theorem nx_if_icmp_39 (z : Int) (y : Int32) (x : Int32) (r : List Value) : nx F ini rt fin K0 K (.if_icmp .ge z) 3 pc L (.int y :: .int x :: r) h cs ss = (jok pc z ∧ if y ≤ x then K (jto pc z) L r h cs ss else K (pc + 3) L r h cs ss) := by
  show (3 = 3 ∧ _) = _
  simp only [true_and]
theorem nx_if_icmp_40 (z : Int) (y : Int32) (x : Int32) (r : List Value) : nx F ini rt fin K0 K (.if_icmp .gt z) 3 pc L (.int y :: .int x :: r) h cs ss = (jok pc z ∧ if y < x then K (jto pc z) L r h cs ss else K (pc + 3) L r h cs ss) := by
  show (3 = 3 ∧ _) = _
  simp only [true_and]
theorem nx_if_icmp_41 (z : Int) (y : Int32) (x : Int32) (r : List Value) : nx F ini rt fin K0 K (.if_icmp .le z) 3 pc L (.int y :: .int x :: r) h cs ss = (jok pc z ∧ if x ≤ y then K (jto pc z) L r h cs ss else K (pc + 3) L r h cs ss) := by
  show (3 = 3 ∧ _) = _
  simp only [true_and]
theorem nx_if_acmp_42 (z : Int) (y : Nat) (x : Nat) (r : List Value) : nx F ini rt fin K0 K (.if_acmp .eq z) 3 pc L (.ref y :: .ref x :: r) h cs ss = (jok pc z ∧ if x = y then K (jto pc z) L r h cs ss else K (pc + 3) L r h cs ss) := by
  show (3 = 3 ∧ _) = _
  simp only [true_and]
theorem nx_if_acmp_43 (z : Int) (r : List Value) : nx F ini rt fin K0 K (.if_acmp .eq z) 3 pc L (.null :: .null :: r) h cs ss = (jok pc z ∧ K (jto pc z) L r h cs ss) := by
  show (3 = 3 ∧ _) = _
  simp only [true_and]
theorem nx_if_acmp_44 (z : Int) (x : Nat) (r : List Value) : nx F ini rt fin K0 K (.if_acmp .eq z) 3 pc L (.null :: .ref x :: r) h cs ss = (jok pc z ∧ K (pc + 3) L r h cs ss) := by
  show (3 = 3 ∧ _) = _
  simp only [true_and]
theorem nx_if_acmp_45 (z : Int) (y : Nat) (r : List Value) : nx F ini rt fin K0 K (.if_acmp .eq z) 3 pc L (.ref y :: .null :: r) h cs ss = (jok pc z ∧ K (pc + 3) L r h cs ss) := by
  show (3 = 3 ∧ _) = _
  simp only [true_and]
theorem nx_if_acmp_46 (z : Int) (y : Nat) (x : Nat) (r : List Value) : nx F ini rt fin K0 K (.if_acmp .ne z) 3 pc L (.ref y :: .ref x :: r) h cs ss = (jok pc z ∧ if ¬ (x = y) then K (jto pc z) L r h cs ss else K (pc + 3) L r h cs ss) := by
  show (3 = 3 ∧ _) = _
  simp only [true_and]
theorem nx_if_acmp_47 (z : Int) (r : List Value) : nx F ini rt fin K0 K (.if_acmp .ne z) 3 pc L (.null :: .null :: r) h cs ss = (jok pc z ∧ K (pc + 3) L r h cs ss) := by
  show (3 = 3 ∧ _) = _
  simp only [true_and]
theorem nx_if_acmp_48 (z : Int) (x : Nat) (r : List Value) : nx F ini rt fin K0 K (.if_acmp .ne z) 3 pc L (.null :: .ref x :: r) h cs ss = (jok pc z ∧ K (jto pc z) L r h cs ss) := by
  show (3 = 3 ∧ _) = _
  simp only [true_and]
theorem nx_if_acmp_49 (z : Int) (y : Nat) (r : List Value) : nx F ini rt fin K0 K (.if_acmp .ne z) 3 pc L (.ref y :: .null :: r) h cs ss = (jok pc z ∧ K (jto pc z) L r h cs ss) := by
  show (3 = 3 ∧ _) = _
  simp only [true_and]
theorem nx_ifnull_50 (z : Int) (r : List Value) : nx F ini rt fin K0 K (.ifnull z) 3 pc L (.null :: r) h cs ss = (jok pc z ∧ K (jto pc z) L r h cs ss) := by
  show (3 = 3 ∧ _) = _
  simp only [true_and]
theorem nx_ifnull_51 (z : Int) (x : Nat) (r : List Value) : nx F ini rt fin K0 K (.ifnull z) 3 pc L (.ref x :: r) h cs ss = (jok pc z ∧ K (pc + 3) L r h cs ss) := by
  show (3 = 3 ∧ _) = _
  simp only [true_and]
theorem nx_ifnonnull_52 (z : Int) (r : List Value) : nx F ini rt fin K0 K (.ifnonnull z) 3 pc L (.null :: r) h cs ss = (jok pc z ∧ K (pc + 3) L r h cs ss) := by
  show (3 = 3 ∧ _) = _
  simp only [true_and]
theorem nx_ifnonnull_53 (z : Int) (x : Nat) (r : List Value) : nx F ini rt fin K0 K (.ifnonnull z) 3 pc L (.ref x :: r) h cs ss = (jok pc z ∧ K (jto pc z) L r h cs ss) := by
  show (3 = 3 ∧ _) = _
  simp only [true_and]
theorem nx_getfield_54 (j : Nat) (a : Nat) (r : List Value) : nx F ini rt fin K0 K (.getfield j) 3 pc L (.ref a :: r) h cs ss = ((F j).isSome = true ∧ h.1 a = some (.inl (fk F j).1) ∧ K (pc + 3) L (h.2 a (fk F j).2.1 :: r) h cs ss) := by
  show (3 = 3 ∧ _) = _
  simp only [true_and]
theorem nx_putfield_55 (j : Nat) (v : Value) (a : Nat) (r : List Value) : nx F ini rt fin K0 K (.putfield j) 3 pc L (v :: .ref a :: r) h cs ss = ((F j).isSome = true ∧ h.1 a = some (.inl (fk F j).1) ∧ okv (fk F j).2.2.1 v ∧ ((fk F j).2.2.2 = true → ini = some (fk F j).1) ∧ K (pc + 3) L r (h.1, hup h.2 a (fk F j).2.1 v) cs ss) := by
  show (3 = 3 ∧ _) = _
  simp only [true_and]
theorem nx_arraylength_56 (a : Nat) (r : List Value) : nx F ini rt fin K0 K (.arraylength) 1 pc L (.ref a :: r) h cs ss = (isA (h.1 a) (fun _ _ => True) ∧ K (pc + 1) L (.int (nI (alen (h.1 a))) :: r) h cs ss) := by
  show (1 = 1 ∧ _) = _
  simp only [true_and]
theorem nx_iaload_57 (i : Int32) (a : Nat) (r : List Value) : nx F ini rt fin K0 K (.iaload) 1 pc L (.int i :: .ref a :: r) h cs ss = (isA (h.1 a) (fun k m => k = 0 ∧ vp_in i m) ∧ K (pc + 1) L (h.2 a i.toNatClampNeg :: r) h cs ss) := by
  show (1 = 1 ∧ _) = _
  simp only [true_and]
theorem nx_baload_58 (i : Int32) (a : Nat) (r : List Value) : nx F ini rt fin K0 K (.baload) 1 pc L (.int i :: .ref a :: r) h cs ss = (isA (h.1 a) (fun k m => k = 1 ∧ vp_in i m) ∧ K (pc + 1) L (h.2 a i.toNatClampNeg :: r) h cs ss) := by
  show (1 = 1 ∧ _) = _
  simp only [true_and]
theorem nx_caload_59 (i : Int32) (a : Nat) (r : List Value) : nx F ini rt fin K0 K (.caload) 1 pc L (.int i :: .ref a :: r) h cs ss = (isA (h.1 a) (fun k m => k = 2 ∧ vp_in i m) ∧ K (pc + 1) L (h.2 a i.toNatClampNeg :: r) h cs ss) := by
  show (1 = 1 ∧ _) = _
  simp only [true_and]
theorem nx_laload_60 (i : Int32) (a : Nat) (r : List Value) : nx F ini rt fin K0 K (.laload) 1 pc L (.int i :: .ref a :: r) h cs ss = (isA (h.1 a) (fun k m => k = 3 ∧ vp_in i m) ∧ K (pc + 1) L (h.2 a i.toNatClampNeg :: r) h cs ss) := by
  show (1 = 1 ∧ _) = _
  simp only [true_and]
theorem nx_aaload_61 (i : Int32) (a : Nat) (r : List Value) : nx F ini rt fin K0 K (.aaload) 1 pc L (.int i :: .ref a :: r) h cs ss = (isA (h.1 a) (fun k m => 4 ≤ k ∧ vp_in i m) ∧ K (pc + 1) L (h.2 a i.toNatClampNeg :: r) h cs ss) := by
  show (1 = 1 ∧ _) = _
  simp only [true_and]
theorem nx_iastore_62 (v : Int32) (i : Int32) (a : Nat) (r : List Value) : nx F ini rt fin K0 K (.iastore) 1 pc L (.int v :: .int i :: .ref a :: r) h cs ss = (isA (h.1 a) (fun k m => k = 0 ∧ vp_in i m) ∧ K (pc + 1) L r (h.1, hup h.2 a i.toNatClampNeg (.int v)) cs ss) := by
  show (1 = 1 ∧ _) = _
  simp only [true_and]
theorem nx_bastore_63 (v : Int32) (i : Int32) (a : Nat) (r : List Value) : nx F ini rt fin K0 K (.bastore) 1 pc L (.int v :: .int i :: .ref a :: r) h cs ss = (isA (h.1 a) (fun k m => k = 1 ∧ vp_in i m) ∧ K (pc + 1) L r (h.1, hup h.2 a i.toNatClampNeg (narrow .boolean (.int v))) cs ss) := by
  show (1 = 1 ∧ _) = _
  simp only [true_and]
theorem nx_castore_64 (v : Int32) (i : Int32) (a : Nat) (r : List Value) : nx F ini rt fin K0 K (.castore) 1 pc L (.int v :: .int i :: .ref a :: r) h cs ss = (isA (h.1 a) (fun k m => k = 2 ∧ vp_in i m) ∧ K (pc + 1) L r (h.1, hup h.2 a i.toNatClampNeg (narrow .char (.int v))) cs ss) := by
  show (1 = 1 ∧ _) = _
  simp only [true_and]
theorem nx_lastore_65 (v : Int64) (i : Int32) (a : Nat) (r : List Value) : nx F ini rt fin K0 K (.lastore) 1 pc L (.long v :: .int i :: .ref a :: r) h cs ss = (isA (h.1 a) (fun k m => k = 3 ∧ vp_in i m) ∧ K (pc + 1) L r (h.1, hup h.2 a i.toNatClampNeg (.long v)) cs ss) := by
  show (1 = 1 ∧ _) = _
  simp only [true_and]
theorem nx_aastore_66 (v : Nat) (i : Int32) (a : Nat) (r : List Value) : nx F ini rt fin K0 K (.aastore) 1 pc L (.ref v :: .int i :: .ref a :: r) h cs ss = (isA (h.1 a) (fun t m => 4 ≤ t ∧ h.1 v = some (.inl (vec t)) ∧ vp_in i m) ∧ K (pc + 1) L r (h.1, hup h.2 a i.toNatClampNeg (.ref v)) cs ss) := by
  show (1 = 1 ∧ _) = _
  simp only [true_and]
theorem nx_aastore_67 (i : Int32) (a : Nat) (r : List Value) : nx F ini rt fin K0 K (.aastore) 1 pc L (.null :: .int i :: .ref a :: r) h cs ss = (isA (h.1 a) (fun t m => 4 ≤ t ∧ vp_in i m) ∧ K (pc + 1) L r (h.1, hup h.2 a i.toNatClampNeg .null) cs ss) := by
  show (1 = 1 ∧ _) = _
  simp only [true_and]
theorem nx_ireturn_68 (v : Int32) : nx F ini rt fin K0 K (.ireturn) 1 pc L ([.int v]) h cs ss = (rokI rt v ∧ fin (some (.int v)) h cs ss) := by
  show (1 = 1 ∧ _) = _
  simp only [true_and]
theorem nx_areturn_69 (v : Nat) : nx F ini rt fin K0 K (.areturn) 1 pc L ([.ref v]) h cs ss = (isR rt ∧ fin (some (.ref v)) h cs ss) := by
  show (1 = 1 ∧ _) = _
  simp only [true_and]
theorem nx_areturn_70  : nx F ini rt fin K0 K (.areturn) 1 pc L ([.null]) h cs ss = (isR rt ∧ fin (some .null) h cs ss) := by
  show (1 = 1 ∧ _) = _
  simp only [true_and]
theorem nx_return__71  : nx F ini rt fin K0 K (.return_) 1 pc L ([]) h cs ss = (rt = none ∧ fin none h cs ss) := by
  show (1 = 1 ∧ _) = _
  simp only [true_and]
theorem nx_invokevirtual_72 (j : Nat) (st : List Value) : nx F ini rt fin K0 K (.invokevirtual j) n pc L (st) h cs ss = (K0 pc L st h cs ss) := rfl
theorem nx_invokestatic_73 (j : Nat) (st : List Value) : nx F ini rt fin K0 K (.invokestatic j) n pc L (st) h cs ss = (K0 pc L st h cs ss) := rfl
theorem nx_invokespecial_74 (j : Nat) (st : List Value) : nx F ini rt fin K0 K (.invokespecial j) n pc L (st) h cs ss = (K0 pc L st h cs ss) := rfl
theorem nx_new_75 (j : Nat) (st : List Value) : nx F ini rt fin K0 K (.new j) n pc L (st) h cs ss = (K0 pc L st h cs ss) := rfl
theorem nx_newarray_76 (j : ArrayType) (st : List Value) : nx F ini rt fin K0 K (.newarray j) n pc L (st) h cs ss = (K0 pc L st h cs ss) := rfl
theorem nx_anewarray_77 (j : Nat) (st : List Value) : nx F ini rt fin K0 K (.anewarray j) n pc L (st) h cs ss = (K0 pc L st h cs ss) := rfl
theorem nx_tableswitch_78 (d : Int) (lo : Int) (hi : Int) (offs : Array Int) (st : List Value) : nx F ini rt fin K0 K (.tableswitch d lo hi offs) n pc L (st) h cs ss = (K0 pc L st h cs ss) := rfl
theorem nx_ldc_79 (j : Nat) (st : List Value) : nx F ini rt fin K0 K (.ldc j) n pc L (st) h cs ss = (K0 pc L st h cs ss) := rfl
theorem nx_ldc2_w_88 (j : Nat) (st : List Value) : nx F ini rt fin K0 K (.ldc2_w j) n pc L (st) h cs ss = (K0 pc L st h cs ss) := rfl
theorem nx_athrow_80 (st : List Value) : nx F ini rt fin K0 K (.athrow) n pc L (st) h cs ss = (K0 pc L st h cs ss) := rfl
end NX
def ey (F : Nat → Option Fq) (ini : Option Nat) (rt : Option FieldType) (fin : Option Value → Hp → Nat → Nat → Prop) (K0 K : Kt) (r : Except DecodeError (Instr × Nat)) : Kt := fun pc L st h cs ss => match r with
  | .ok (i, n) => nx F ini rt fin K0 K i n pc L st h cs ss
  | _ => False
def ry (cc : ByteArray) (F : Nat → Option Fq) (ini : Option Nat) (rt : Option FieldType) (fin : Option Value → Hp → Nat → Nat → Prop) (K0 : Kt) (stop : List Nat) : Nat → Kt
  | 0 => K0
  | f + 1 => fun pc L st h cs ss => if hit stop pc = true then K0 pc L st h cs ss else ey F ini rt fin K0 (ry cc F ini rt fin K0 stop f) (decode cc pc) pc L st h cs ss
def ry1 (cc : ByteArray) (F : Nat → Option Fq) (ini : Option Nat) (rt : Option FieldType) (fin : Option Value → Hp → Nat → Nat → Prop) (K0 : Kt) (stop : List Nat) (f : Nat) : Kt := fun pc L st h cs ss => ey F ini rt fin K0 (ry cc F ini rt fin K0 stop f) (decode cc pc) pc L st h cs ss
section EV2
variable {cc : ByteArray} {F : Nat → Option Fq} {ini : Option Nat} {rt : Option FieldType} {fin : Option Value → Hp → Nat → Nat → Prop} {K0 K : Kt} {stop : List Nat} {pc : Nat} {L : List (Option Value)} {st r : List Value} {h : Hp} {cs ss : Nat}
theorem ry_s (f : Nat) : ry cc F ini rt fin K0 stop (f + 1) pc L st h cs ss = if hit stop pc = true then K0 pc L st h cs ss else ey F ini rt fin K0 (ry cc F ini rt fin K0 stop f) (decode cc pc) pc L st h cs ss := rfl
theorem ry_0 : ry cc F ini rt fin K0 stop 0 pc L st h cs ss = K0 pc L st h cs ss := rfl
theorem ey_ok (i : Instr) (n : Nat) : ey F ini rt fin K0 K (.ok (i, n)) pc L st h cs ss = nx F ini rt fin K0 K i n pc L st h cs ss := rfl
theorem ry1_s (f : Nat) : ry1 cc F ini rt fin K0 stop f pc L st h cs ss = ey F ini rt fin K0 (ry cc F ini rt fin K0 stop f) (decode cc pc) pc L st h cs ss := rfl
end EV2
section EV3
variable {p : Program} {l : Launch} {e : Env} {R : Room} {s : State} {m : MethodId} {args : Array Value} {below : List Frame} {meth : Method} {c : Code} {D : Dg} {b : Nat} {P : Option Value → Hp → Prop} {X : String → Hp → Prop} {mc ms : Nat}
variable {own nm : String} {cc : ByteArray} {nL d : Nat} {rt : Option FieldType} {tb : List ExceptionTableEntry} {h : Hp} {cs ss pc : Nat} {L : List (Option Value)} {st : List Value} {F : Nat → Option Fq}
theorem ry_ok (K : Ok ((p, l, e, R), (s, m, args, below), (meth, c, D, b), (P, X, mc, ms)) own cc nL rt nm d tb) (hF : Fok own F) {ini : Option Nat} (hini : ∀ c, ini = some c → nm = "<init>" ∧ ∀ r : vw_C, vcl[c]? = some r → ∀ k, k < r.2.2 → (r.2.1 k).1 = own) (stop : List Nat) (f : Nat) : ∀ pc L st h cs ss,
    ry cc F ini rt (finC ((p, l, e, R), (s, m, args, below), (meth, c, D, b), (P, X, mc, ms))) (fun pc L st h cs ss => V ((p, l, e, R), (s, m, args, below), (meth, c, D, b), (P, X, mc, ms)) h cs ss pc L st) stop f pc L st h cs ss → V ((p, l, e, R), (s, m, args, below), (meth, c, D, b), (P, X, mc, ms)) h cs ss pc L st := by
  induction f with
  | zero => exact fun pc L st h cs ss k => k
  | succ f ih =>
    intro pc L st h cs ss k
    rw [ry_s] at k
    split at k
    · exact k
    · unfold ey at k
      split at k
      · rename_i i n hd
        exact sw_ok K hF hini (fun pc L st h cs ss k => k) ih i n pc L st h cs ss hd (nx_ok k)
      · exact k.elim
theorem ry1_ok (K : Ok ((p, l, e, R), (s, m, args, below), (meth, c, D, b), (P, X, mc, ms)) own cc nL rt nm d tb) (hF : Fok own F) (ini : Option Nat) (hini : ∀ c, ini = some c → nm = "<init>" ∧ ∀ r : vw_C, vcl[c]? = some r → ∀ k, k < r.2.2 → (r.2.1 k).1 = own) (stop : List Nat) (f : Nat)
    (k : ry1 cc F ini rt (finC ((p, l, e, R), (s, m, args, below), (meth, c, D, b), (P, X, mc, ms))) (fun pc L st h cs ss => V ((p, l, e, R), (s, m, args, below), (meth, c, D, b), (P, X, mc, ms)) h cs ss pc L st) stop f pc L st h cs ss) : V ((p, l, e, R), (s, m, args, below), (meth, c, D, b), (P, X, mc, ms)) h cs ss pc L st := by
  rw [ry1_s] at k
  unfold ey at k
  split at k
  · rename_i i n hd
    exact sw_ok K hF hini (fun pc L st h cs ss k => k) (ry_ok K hF hini stop f) i n pc L st h cs ss hd (nx_ok k)
  · exact k.elim
theorem noini {P : Nat → Prop} : ∀ c, (none : Option Nat) = some c → P c := fun _ h => nomatch h
end EV3
