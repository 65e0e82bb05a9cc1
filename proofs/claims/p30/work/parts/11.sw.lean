/-! one step as a function; it is sound -/
abbrev Kt : Type := Nat → List (Option Value) → List Value → Hp → Nat → Nat → Prop
def ldI (L : List (Option Value)) (k : Nat) (c : Value → Prop) : Prop := match L[k]? with
  | some (some (.int x)) => c (.int x)
  | _ => False
def ldA (L : List (Option Value)) (k : Nat) (c : Value → Prop) : Prop := match L[k]? with
  | some (some (.ref x)) => c (.ref x)
  | some (some .null) => c .null
  | _ => False
def stI (st : List Value) (c : Value → List Value → Prop) : Prop := match st with
  | .int x :: r => c (.int x) r
  | _ => False
def stA (st : List Value) (c : Value → List Value → Prop) : Prop := match st with
  | .ref x :: r => c (.ref x) r
  | .null :: r => c .null r
  | _ => False
def bop (f : Int32 → Int32 → Int32) (st : List Value) (c : List Value → Prop) : Prop := match st with
  | .int y :: .int x :: r => c (.int (f x y) :: r)
  | _ => False
def icm (o : ClassFile.Cond) (x y : Int32) : Prop := match o with
  | .eq => x = y
  | .ne => ¬ x = y
  | .lt => x < y
  | .ge => y ≤ x
  | .gt => y < x
  | .le => x ≤ y
def jmp (pc : Nat) (off : Int) (c : Nat → Prop) : Prop := 0 ≤ (pc : Int) + off ∧ c (((pc : Int) + off).toNat)
def br1 (o : ClassFile.Cond) (st : List Value) (c : Prop → List Value → Prop) : Prop := match st with
  | .int x :: r => c (icm o x 0) r
  | _ => False
def br2 (o : ClassFile.Cond) (st : List Value) (c : Prop → List Value → Prop) : Prop := match st with
  | .int y :: .int x :: r => c (icm o x y) r
  | _ => False
def rfe (v w : Value) (c : Prop → Prop) : Prop := match v, w with
  | .ref x, .ref y => c (x = y)
  | .null, .null => c True
  | .ref _, .null => c False
  | .null, .ref _ => c False
  | _, _ => False
def br3 (o : ClassFile.ACond) (st : List Value) (c : Prop → List Value → Prop) : Prop := match st with
  | w :: v :: r => rfe v w fun q => c (match o with
    | .eq => q
    | .ne => ¬ q) r
  | _ => False
def isnul (st : List Value) (c : Prop → List Value → Prop) : Prop := match st with
  | .null :: r => c True r
  | .ref _ :: r => c False r
  | _ => False
def both (q : Prop) (a b : Prop) : Prop := (q → a) ∧ (¬ q → b)
/-- a field by its pool number: class, place, type, final -/
abbrev Fq : Type := Nat × Nat × FieldType × Bool
def gtf (F : Nat → Option Fq) (i : Nat) (st : List Value) (h : Hp) (c : List Value → Prop) : Prop := match F i, st with
  | some q, .ref a :: r => h.1 a = some (.inl q.1) ∧ c (h.2 a q.2.1 :: r)
  | _, _ => False
def okv (ty : FieldType) (v : Value) : Prop := narrow ty v = v ∧ fits ty v = true
def ptf (F : Nat → Option Fq) (ini : Option Nat) (i : Nat) (st : List Value) (h : Hp) (c : List Value → Hp → Prop) : Prop := match F i, st with
  | some q, v :: .ref a :: r => h.1 a = some (.inl q.1) ∧ okv q.2.2.1 v ∧ (q.2.2.2 = true → ini = some q.1) ∧ c r (h.1, hup h.2 a q.2.1 v)
  | _, _ => False
/-- the cell is an array: its type and length -/
def isA (κ : Option (Nat ⊕ (Nat × Nat))) (c : Nat → Nat → Prop) : Prop := match κ with
  | some (.inr q) => c q.1 q.2
  | _ => False
def ald (t : Nat → Prop) (st : List Value) (h : Hp) (c : List Value → Prop) : Prop := match st with
  | .int i :: .ref a :: r => isA (h.1 a) (fun k n => t k ∧ vp_in i n) ∧ c (h.2 a i.toNatClampNeg :: r)
  | _ => False
def ast (t : Nat) (f : Value → Value) (st : List Value) (h : Hp) (c : List Value → Hp → Prop) : Prop := match st with
  | .int v :: .int i :: .ref a :: r => isA (h.1 a) (fun k n => k = t ∧ vp_in i n) ∧ c r (h.1, hup h.2 a i.toNatClampNeg (f (.int v)))
  | _ => False
def lst (st : List Value) (h : Hp) (c : List Value → Hp → Prop) : Prop := match st with
  | .long v :: .int i :: .ref a :: r => isA (h.1 a) (fun k n => k = 3 ∧ vp_in i n) ∧ c r (h.1, hup h.2 a i.toNatClampNeg (.long v))
  | _ => False
/-- the class of what an array of references of type t may hold -/
def vec (t : Nat) : Nat := match t with
  | 4 => 5
  | 5 => 4
  | 6 => 2
  | 7 => 0
  | _ => 1
def qst (st : List Value) (h : Hp) (c : List Value → Hp → Prop) : Prop := match st with
  | .ref v :: .int i :: .ref a :: r => isA (h.1 a) (fun t n => 4 ≤ t ∧ h.1 v = some (.inl (vec t)) ∧ vp_in i n) ∧ c r (h.1, hup h.2 a i.toNatClampNeg (.ref v))
  | .null :: .int i :: .ref a :: r => isA (h.1 a) (fun t n => 4 ≤ t ∧ vp_in i n) ∧ c r (h.1, hup h.2 a i.toNatClampNeg .null)
  | _ => False
def aln (st : List Value) (h : Hp) (c : List Value → Prop) : Prop := match st with
  | .ref a :: r => isA (h.1 a) (fun _ n => c (.int (nI n) :: r))
  | _ => False
def lcm (st : List Value) (c : List Value → Prop) : Prop := match st with
  | .long y :: .long x :: r => c (.int (lg_cmp x y) :: r)
  | _ => False
def i2l' (st : List Value) (c : List Value → Prop) : Prop := match st with
  | .int x :: r => c (.long x.toInt64 :: r)
  | _ => False
def i2c' (st : List Value) (c : List Value → Prop) : Prop := match st with
  | .int x :: r => c (.int (x.toUInt32 % 65536).toInt32 :: r)
  | _ => False
def dp (st : List Value) (c : List Value → Prop) : Prop := match st with
  | v :: r => v.category = 1 ∧ c (v :: v :: r)
  | _ => False
def pp (st : List Value) (c : List Value → Prop) : Prop := match st with
  | v :: r => v.category = 1 ∧ c r
  | _ => False
def idv (st : List Value) (c : List Value → Prop) : Prop := match st with
  | .int y :: .int x :: r => ¬ y = 0 ∧ c (.int (x / y) :: r)
  | _ => False
def irm (st : List Value) (c : List Value → Prop) : Prop := match st with
  | .int y :: .int x :: r => ¬ y = 0 ∧ c (.int (x - x / y * y) :: r)
  | _ => False
def dp2 (st : List Value) (c : List Value → Prop) : Prop := match st with
  | va :: vb :: r => va.category = 1 ∧ vb.category = 1 ∧ c (va :: vb :: va :: vb :: r)
  | _ => False
def lml (st : List Value) (c : List Value → Prop) : Prop := match st with
  | .long y :: .long x :: r => c (.long (x * y) :: r)
  | _ => False
def lus (st : List Value) (c : List Value → Prop) : Prop := match st with
  | .int y :: .long x :: r => c (.long (x.toUInt64 >>> (y.toInt64.toUInt64 &&& Int64.toUInt64 63)).toInt64 :: r)
  | _ => False
def l2i' (st : List Value) (c : List Value → Prop) : Prop := match st with
  | .long x :: r => c (.int x.toInt32 :: r)
  | _ => False
/-- the shift without a sign -/
def ius (x y : Int32) : Int32 := (x.toUInt32 >>> (y.toUInt32 &&& Int32.toUInt32 31)).toInt32
def rtI (rt : Option FieldType) (st : List Value) (c : Value → Prop) : Prop := match rt, st with
  | some ty, [.int v] => narrow ty (.int v) = .int v ∧ c (.int v)
  | _, _ => False
def isR (rt : Option FieldType) : Prop := ∃ ty, rt = some ty ∧ ((∃ n, ty = .object n) ∨ ∃ t, ty = .array t)
def rtA (rt : Option FieldType) (st : List Value) (c : Value → Prop) : Prop := match st with
  | [.ref v] => isR rt ∧ c (.ref v)
  | [.null] => isR rt ∧ c .null
  | _ => False
def rtV (rt : Option FieldType) (st : List Value) (c : Prop) : Prop := match st with
  | [] => rt = none ∧ c
  | _ => False
def iic (L : List (Option Value)) (k : Nat) (n : Int) (c : List (Option Value) → Prop) : Prop := match L[k]? with
  | some (some (.int x)) => c (L.set k (some (.int (x + Int32.ofInt n))))
  | _ => False
def sw (F : Nat → Option Fq) (ini : Option Nat) (rt : Option FieldType) (fin : Option Value → Hp → Nat → Nat → Prop) (K0 K : Kt) (i : Instr) (n pc : Nat) (L : List (Option Value)) (st : List Value) (h : Hp) (cs ss : Nat) : Prop :=
  match i with
  | .iload k => n = 2 ∧ (ldI L k fun v => K (pc + 2) L (v :: st) h cs ss)
  | .iload_n k => n = 1 ∧ (ldI L k.val fun v => K (pc + 1) L (v :: st) h cs ss)
  | .aload k => n = 2 ∧ (ldA L k fun v => K (pc + 2) L (v :: st) h cs ss)
  | .aload_n k => n = 1 ∧ (ldA L k.val fun v => K (pc + 1) L (v :: st) h cs ss)
  | .istore k => n = 2 ∧ (stI st fun v r => k < L.length ∧ K (pc + 2) (L.set k (some v)) r h cs ss)
  | .istore_n k => n = 1 ∧ (stI st fun v r => k.val < L.length ∧ K (pc + 1) (L.set k.val (some v)) r h cs ss)
  | .astore k => n = 2 ∧ (stA st fun v r => k < L.length ∧ K (pc + 2) (L.set k (some v)) r h cs ss)
  | .astore_n k => n = 1 ∧ (stA st fun v r => k.val < L.length ∧ K (pc + 1) (L.set k.val (some v)) r h cs ss)
  | .iinc k z => n = 3 ∧ (iic L k z fun L' => K (pc + 3) L' st h cs ss)
  | .iconst z => n = 1 ∧ (K (pc + 1) L (.int (Int32.ofInt z) :: st) h cs ss)
  | .bipush z => n = 2 ∧ (K (pc + 2) L (.int (Int8.ofInt z).toInt32 :: st) h cs ss)
  | .sipush z => n = 3 ∧ (K (pc + 3) L (.int (Int16.ofInt z).toInt32 :: st) h cs ss)
  | .lconst z => n = 1 ∧ (K (pc + 1) L (.long (Int64.ofNat z.val) :: st) h cs ss)
  | .aconst_null => n = 1 ∧ (K (pc + 1) L (.null :: st) h cs ss)
  | .iadd => n = 1 ∧ (bop (fun x y => x + y) st fun s' => K (pc + 1) L s' h cs ss)
  | .isub => n = 1 ∧ (bop (fun x y => x - y) st fun s' => K (pc + 1) L s' h cs ss)
  | .imul => n = 1 ∧ (bop (fun x y => x * y) st fun s' => K (pc + 1) L s' h cs ss)
  | .iand => n = 1 ∧ (bop (fun x y => x &&& y) st fun s' => K (pc + 1) L s' h cs ss)
  | .ior => n = 1 ∧ (bop (fun x y => x ||| y) st fun s' => K (pc + 1) L s' h cs ss)
  | .ishr => n = 1 ∧ (bop (fun x y => x >>> (y &&& 31)) st fun s' => K (pc + 1) L s' h cs ss)
  | .ishl => n = 1 ∧ (bop (fun x y => x <<< (y &&& 31)) st fun s' => K (pc + 1) L s' h cs ss)
  | .idiv => n = 1 ∧ (idv st fun s' => K (pc + 1) L s' h cs ss)
  | .irem => n = 1 ∧ (irm st fun s' => K (pc + 1) L s' h cs ss)
  | .ixor => n = 1 ∧ (bop (fun x y => x ^^^ y) st fun s' => K (pc + 1) L s' h cs ss)
  | .iushr => n = 1 ∧ (bop ius st fun s' => K (pc + 1) L s' h cs ss)
  | .dup2 => n = 1 ∧ (dp2 st fun s' => K (pc + 1) L s' h cs ss)
  | .lmul => n = 1 ∧ (lml st fun s' => K (pc + 1) L s' h cs ss)
  | .lushr => n = 1 ∧ (lus st fun s' => K (pc + 1) L s' h cs ss)
  | .l2i => n = 1 ∧ (l2i' st fun s' => K (pc + 1) L s' h cs ss)
  | .i2l => n = 1 ∧ (i2l' st fun s' => K (pc + 1) L s' h cs ss)
  | .i2c => n = 1 ∧ (i2c' st fun s' => K (pc + 1) L s' h cs ss)
  | .lcmp => n = 1 ∧ (lcm st fun s' => K (pc + 1) L s' h cs ss)
  | .dup => n = 1 ∧ (dp st fun s' => K (pc + 1) L s' h cs ss)
  | .pop => n = 1 ∧ (pp st fun s' => K (pc + 1) L s' h cs ss)
  | .goto o => n = 3 ∧ (jmp pc o fun t => K t L st h cs ss)
  | .ifCond c o => n = 3 ∧ (br1 c st fun q r => jmp pc o fun t => both q (K t L r h cs ss) (K (pc + 3) L r h cs ss))
  | .if_icmp c o => n = 3 ∧ (br2 c st fun q r => jmp pc o fun t => both q (K t L r h cs ss) (K (pc + 3) L r h cs ss))
  | .if_acmp c o => n = 3 ∧ (br3 c st fun q r => jmp pc o fun t => both q (K t L r h cs ss) (K (pc + 3) L r h cs ss))
  | .ifnull o => n = 3 ∧ (isnul st fun q r => jmp pc o fun t => both q (K t L r h cs ss) (K (pc + 3) L r h cs ss))
  | .ifnonnull o => n = 3 ∧ (isnul st fun q r => jmp pc o fun t => both q (K (pc + 3) L r h cs ss) (K t L r h cs ss))
  | .getfield j => n = 3 ∧ (gtf F j st h fun s' => K (pc + 3) L s' h cs ss)
  | .putfield j => n = 3 ∧ (ptf F ini j st h fun s' h' => K (pc + 3) L s' h' cs ss)
  | .arraylength => n = 1 ∧ (aln st h fun s' => K (pc + 1) L s' h cs ss)
  | .iaload => n = 1 ∧ (ald (· = 0) st h fun s' => K (pc + 1) L s' h cs ss)
  | .baload => n = 1 ∧ (ald (· = 1) st h fun s' => K (pc + 1) L s' h cs ss)
  | .caload => n = 1 ∧ (ald (· = 2) st h fun s' => K (pc + 1) L s' h cs ss)
  | .laload => n = 1 ∧ (ald (· = 3) st h fun s' => K (pc + 1) L s' h cs ss)
  | .aaload => n = 1 ∧ (ald (4 ≤ ·) st h fun s' => K (pc + 1) L s' h cs ss)
  | .iastore => n = 1 ∧ (ast 0 id st h fun s' h' => K (pc + 1) L s' h' cs ss)
  | .bastore => n = 1 ∧ (ast 1 (narrow .boolean) st h fun s' h' => K (pc + 1) L s' h' cs ss)
  | .castore => n = 1 ∧ (ast 2 (narrow .char) st h fun s' h' => K (pc + 1) L s' h' cs ss)
  | .lastore => n = 1 ∧ (lst st h fun s' h' => K (pc + 1) L s' h' cs ss)
  | .aastore => n = 1 ∧ (qst st h fun s' h' => K (pc + 1) L s' h' cs ss)
  | .ireturn => n = 1 ∧ (rtI rt st fun v => fin (some v) h cs ss)
  | .areturn => n = 1 ∧ (rtA rt st fun v => fin (some v) h cs ss)
  | .return_ => n = 1 ∧ (rtV rt st (fin none h cs ss))
  | _ => K0 pc L st h cs ss
def rn (cc : ByteArray) (F : Nat → Option Fq) (ini : Option Nat) (rt : Option FieldType) (fin : Option Value → Hp → Nat → Nat → Prop) (K0 : Kt) (stop : List Nat) : Nat → Kt
  | 0 => K0
  | f + 1 => fun pc L st h cs ss => if pc ∈ stop then K0 pc L st h cs ss else match decode cc pc with
    | .ok (i, n) => sw F ini rt fin K0 (rn cc F ini rt fin K0 stop f) i n pc L st h cs ss
    | _ => False
/-- the first step is made wherever it stands -/
def rn1 (cc : ByteArray) (F : Nat → Option Fq) (ini : Option Nat) (rt : Option FieldType) (fin : Option Value → Hp → Nat → Nat → Prop) (K0 : Kt) (stop : List Nat) (f : Nat) : Kt := fun pc L st h cs ss => match decode cc pc with
    | .ok (i, n) => sw F ini rt fin K0 (rn cc F ini rt fin K0 stop f) i n pc L st h cs ss
    | _ => False
/-- what the link table of a class file says is in the tables -/
def Fok (own : String) (F : Nat → Option Fq) : Prop := ∀ (i : Nat) (q : Fq), F i = some q → ∃ r : vw_C, vcl[q.1]? = some r ∧ q.2.1 < r.2.2 ∧ Cond.fieldLink own i (r.2.1 q.2.1).1 (r.2.1 q.2.1).2.1 (r.2.1 q.2.1).2.2.1 ∈ wsG ∧ parseFieldDescriptor (r.2.1 q.2.1).2.2.1 = some q.2.2.1 ∧ (r.2.1 q.2.1).2.2.2 = q.2.2.2
theorem isA_ex {κ : Option (Nat ⊕ (Nat × Nat))} {c : Nat → Nat → Prop} (h : isA κ c) : ∃ k n, κ = some (.inr (k, n)) ∧ c k n := by
  unfold isA at h
  split at h
  · rename_i q
    exact ⟨q.1, q.2, rfl, h⟩
  · exact h.elim
