/-! A PURE MACHINE: values are the JVM's own, references are places in a store of cells; a step is a function; what runs on it is tied to the real machine further behind. -/
abbrev pm_C : Type := (Nat × List Value) ⊕ (Nat × List Int32)
abbrev pm_S : Type := List pm_C
abbrev pm_L : Type := List (Option Value)
abbrev pm_I : Type := Instr × Nat
def pm_hg (σ : pm_S) (k : Nat) : Option pm_C := σ[k]?
def pm_hs (σ : pm_S) (k : Nat) (c : pm_C) : pm_S := σ.set k c
def pm_lget (L : pm_L) (i : Nat) : Option Value := (L[i]?).join
def pm_no2 : Option Value → Option Value
  | some (.long _) => none
  | some (.double _) => none
  | o => o
/-- a value of one slot into place i -/
def pm_lset : pm_L → Nat → Value → pm_L
  | [], _, _ => []
  | _ :: r, 0, v => some v :: r
  | o :: r, 1, v => pm_no2 o :: pm_lset r 0 v
  | o :: r, n + 2, v => o :: pm_lset r (n + 1) v
/-- a long into places i, i + 1 -/
def pm_lset2 : pm_L → Nat → Value → pm_L
  | [], _, _ => []
  | _ :: [], 0, _ => []
  | _ :: _ :: r, 0, v => some v :: none :: r
  | o :: r, 1, v => pm_no2 o :: pm_lset2 r 0 v
  | o :: r, n + 2, v => o :: pm_lset2 r (n + 1) v
/-- at most n slots -/
def pm_okW : Nat → List Value → Bool
  | _, [] => true
  | n + 1, .int _ :: r => pm_okW n r
  | n + 1, .ref _ :: r => pm_okW n r
  | n + 1, .null :: r => pm_okW n r
  | n + 2, .long _ :: r => pm_okW n r
  | _, _ => false
/-- the locals with which a method begins -/
def pm_ent : Nat → List Value → pm_L
  | n, [] => List.replicate n none
  | n, .long x :: r => some (.long x) :: none :: pm_ent (n - 2) r
  | n, v :: r => some v :: pm_ent (n - 1) r
def pm_pop : Nat → List Value → List Value → Option (List Value × List Value)
  | 0, acc, S => some (acc, S)
  | n + 1, acc, v :: S => pm_pop n (v :: acc) S
  | _ + 1, _, [] => none
abbrev pm_inR (i : Int32) (n : Nat) : Prop := 0 ≤ i.toInt ∧ i.toInt < n
def pm_rd (xs : List Int32) (i : Int32) : Int32 := xs.getD i.toNatClampNeg 0
def pm_wr (xs : List Int32) (i x : Int32) : List Int32 := xs.set i.toNatClampNeg x
/-- does a value fit: 0 int, 1 boolean, 2 reference -/
def pm_fit : Nat → Value → Bool
  | 0, .int _ => true
  | 1, .int x => x == 0 || x == 1
  | 2, .ref _ => true
  | 2, .null => true
  | _, _ => false
def pm_bo (c : Prop) [Decidable c] : Int32 := if c then 1 else 0
def pm_cnd : Jvm.ClassFile.Cond → Int32 → Int32 → Bool
  | .eq, x, y => decide (x = y)
  | .ne, x, y => decide (¬ x = y)
  | .lt, x, y => decide (x < y)
  | .ge, x, y => decide (y ≤ x)
  | .gt, x, y => decide (y < x)
  | .le, x, y => decide (x ≤ y)
def pm_tgt (pc : Nat) (off : Int) : Nat := ((pc : Int) + off).toNat
/-- the tables that a program has: of a class (by its number) and a place in its pool. Fields: the object's class, the place. Methods: the way (0 static, 1 of an object, 2 a constructor), the number, how many arguments, the class of the object -/
abbrev pm_T : Type := (Nat → Nat → Option (Nat × Nat)) × (Nat → Nat → Option (Nat × Nat × Nat × Nat)) × (Nat → Nat → Option Value) × (Nat → Nat → Option Nat) × (Nat → Nat → Option Nat)
  × (Nat → List Value) × (Nat → Nat → Nat × Bool) × (Nat → Nat × Nat × Bool × Bool) × (Nat → Nat → Option pm_I) × (Nat → Nat → Option Int32)
def pm_fld (P : pm_T) := P.1
def pm_mth (P : pm_T) := P.2.1
def pm_kon (P : pm_T) := P.2.2.1
def pm_cls (P : pm_T) := P.2.2.2.1
def pm_sta (P : pm_T) := P.2.2.2.2.1
/-- what a new object of a class holds -/
def pm_dfl (P : pm_T) := P.2.2.2.2.2.1
/-- a field's sort, and whether it is final -/
def pm_fty (P : pm_T) := P.2.2.2.2.2.2.1
/-- a method: its class, its locals, whether it answers a boolean, whether it is a constructor -/
def pm_met (P : pm_T) := P.2.2.2.2.2.2.2.1
def pm_fet (P : pm_T) := P.2.2.2.2.2.2.2.2.1
/-- the texts, by their signs; none behind the end -/
def pm_txt (P : pm_T) := P.2.2.2.2.2.2.2.2.2
/-- an act: on to a place, a call, an end -/
abbrev pm_A : Type := (Nat × pm_L × List Value × pm_S) ⊕ ((Nat × List Value × List Value) ⊕ Option Value)
def pm_nx (pc : Nat) (L : pm_L) (S : List Value) (σ : pm_S) : Option pm_A := some (.inl (pc, L, S, σ))
def pm_ldI (pc : Nat) (L : pm_L) (S : List Value) (σ : pm_S) (k : Nat) : Option pm_A := match pm_lget L k with
  | some (.int x) => pm_nx pc L (.int x :: S) σ
  | _ => none
def pm_ldA (pc : Nat) (L : pm_L) (S : List Value) (σ : pm_S) (k : Nat) : Option pm_A := match pm_lget L k with
  | some (.ref x) => pm_nx pc L (.ref x :: S) σ
  | _ => none
def pm_ldL (pc : Nat) (L : pm_L) (S : List Value) (σ : pm_S) (k : Nat) : Option pm_A := match pm_lget L k with
  | some (.long x) => pm_nx pc L (.long x :: S) σ
  | _ => none
def pm_stI (pc : Nat) (L : pm_L) (S : List Value) (σ : pm_S) (k : Nat) : Option pm_A := match S with
  | .int x :: S => if k < L.length then pm_nx pc (pm_lset L k (.int x)) S σ else none
  | _ => none
def pm_stA (pc : Nat) (L : pm_L) (S : List Value) (σ : pm_S) (k : Nat) : Option pm_A := match S with
  | .ref x :: S => if k < L.length then pm_nx pc (pm_lset L k (.ref x)) S σ else none
  | _ => none
def pm_stL (pc : Nat) (L : pm_L) (S : List Value) (σ : pm_S) (k : Nat) : Option pm_A := match S with
  | .long x :: S => if k + 1 < L.length then pm_nx pc (pm_lset2 L k (.long x)) S σ else none
  | _ => none
def pm_b2 (pc : Nat) (L : pm_L) (S : List Value) (σ : pm_S) (f : Int32 → Int32 → Int32) : Option pm_A := match S with
  | .int y :: .int x :: S => pm_nx pc L (.int (f x y) :: S) σ
  | _ => none
def pm_l2 (pc : Nat) (L : pm_L) (S : List Value) (σ : pm_S) (f : Int64 → Int64 → Int64) : Option pm_A := match S with
  | .long y :: .long x :: S => pm_nx pc L (.long (f x y) :: S) σ
  | _ => none
def pm_cgo (σ : pm_S) (z ci : Nat) (S' : List Value) : Nat → List Value → Option pm_A
  | 1, .ref k :: t => (match pm_hg σ k with
    | some (.inl (c, _)) => if c = ci then some (.inr (.inl (z, .ref k :: t, S'))) else none
    | _ => none)
  | 1, _ => none
  | 2, .ref k :: t => some (.inr (.inl (z, .ref k :: t, S')))
  | 2, _ => none
  | 3, .ref k :: t => some (.inr (.inl (z, .ref k :: t, S')))
  | 3, _ => none
  | _, as => some (.inr (.inl (z, as, S')))
def pm_call (P : pm_T) (y idx way : Nat) (S : List Value) (σ : pm_S) : Option pm_A := match pm_mth P (pm_met P y).1 idx with
  | some (w, z, n, ci) => if w = way then (match pm_pop n [] S with
    | some (as, S) => if pm_okW 8 S = true then pm_cgo σ z ci S w as else none
    | none => none) else none
  | none => none
def pm_stp (P : pm_T) (y : Nat) (i : Instr) (n pc : Nat) (L : pm_L) (S : List Value) (σ : pm_S) : Option pm_A := match i with
  | .iconst v => pm_nx (pc + n) L (.int (Int32.ofInt v) :: S) σ
  | .bipush v => pm_nx (pc + n) L (.int (Int8.ofInt v).toInt32 :: S) σ
  | .sipush v => pm_nx (pc + n) L (.int (Int16.ofInt v).toInt32 :: S) σ
  | .lconst v => pm_nx (pc + n) L (.long (Int64.ofNat (v : Nat)) :: S) σ
  | .ldc k => (match pm_kon P (pm_met P y).1 k with
    | some (.int v) => pm_nx (pc + n) L (.int v :: S) σ
    | some (.ref v) => pm_nx (pc + n) L (.ref v :: S) σ
    | _ => none)
  | .ldc_w k => (match pm_kon P (pm_met P y).1 k with
    | some (.int v) => pm_nx (pc + n) L (.int v :: S) σ
    | _ => none)
  | .ldc2_w k => (match pm_kon P (pm_met P y).1 k with
    | some (.long v) => pm_nx (pc + n) L (.long v :: S) σ
    | _ => none)
  | .iload k => pm_ldI (pc + n) L S σ k
  | .iload_n k => pm_ldI (pc + n) L S σ k
  | .lload k => pm_ldL (pc + n) L S σ k
  | .lload_n k => pm_ldL (pc + n) L S σ k
  | .aload k => pm_ldA (pc + n) L S σ k
  | .aload_n k => pm_ldA (pc + n) L S σ k
  | .istore k => pm_stI (pc + n) L S σ k
  | .istore_n k => pm_stI (pc + n) L S σ k
  | .lstore k => pm_stL (pc + n) L S σ k
  | .lstore_n k => pm_stL (pc + n) L S σ k
  | .astore k => pm_stA (pc + n) L S σ k
  | .astore_n k => pm_stA (pc + n) L S σ k
  | .iinc k v => (match pm_lget L k with
    | some (.int x) => if k < L.length then pm_nx (pc + n) (pm_lset L k (.int (x + Int32.ofInt v))) S σ else none
    | _ => none)
  | .iadd => pm_b2 (pc + n) L S σ fun x y => x + y
  | .isub => pm_b2 (pc + n) L S σ fun x y => x - y
  | .imul => pm_b2 (pc + n) L S σ fun x y => x * y
  | .iand => pm_b2 (pc + n) L S σ fun x y => x &&& y
  | .ior => pm_b2 (pc + n) L S σ fun x y => x ||| y
  | .ixor => pm_b2 (pc + n) L S σ fun x y => x ^^^ y
  | .ishl => pm_b2 (pc + n) L S σ fun x y => x <<< (y &&& 31)
  | .ishr => pm_b2 (pc + n) L S σ fun x y => x >>> (y &&& 31)
  | .iushr => pm_b2 (pc + n) L S σ fun x y => (x.toUInt32 >>> (y.toUInt32 &&& Int32.toUInt32 31)).toInt32
  | .idiv => (match S with
    | .int y :: .int x :: S => if ¬ y = 0 then pm_nx (pc + n) L (.int (x / y) :: S) σ else none
    | _ => none)
  | .irem => (match S with
    | .int y :: .int x :: S => if ¬ y = 0 then pm_nx (pc + n) L (.int (x - x / y * y) :: S) σ else none
    | _ => none)
  | .ineg => (match S with
    | .int x :: S => pm_nx (pc + n) L (.int (-x) :: S) σ
    | _ => none)
  | .i2l => (match S with
    | .int x :: S => pm_nx (pc + n) L (.long x.toInt64 :: S) σ
    | _ => none)
  | .ladd => pm_l2 (pc + n) L S σ fun x y => x + y
  | .lmul => pm_l2 (pc + n) L S σ fun x y => x * y
  | .ldiv => (match S with
    | .long y :: .long x :: S => if ¬ y = 0 then pm_nx (pc + n) L (.long (x / y) :: S) σ else none
    | _ => none)
  | .lrem => (match S with
    | .long y :: .long x :: S => if ¬ y = 0 then pm_nx (pc + n) L (.long (x - x / y * y) :: S) σ else none
    | _ => none)
  | .lneg => (match S with
    | .long x :: S => pm_nx (pc + n) L (.long (-x) :: S) σ
    | _ => none)
  | .lcmp => (match S with
    | .long y :: .long x :: S => pm_nx (pc + n) L (.int (lg_cmp x y) :: S) σ
    | _ => none)
  | .dup => (match S with
    | .int x :: S => pm_nx (pc + n) L (.int x :: .int x :: S) σ
    | .ref x :: S => pm_nx (pc + n) L (.ref x :: .ref x :: S) σ
    | _ => none)
  | .dup2 => (match S with
    | .int x :: .int y :: S => pm_nx (pc + n) L (.int x :: .int y :: .int x :: .int y :: S) σ
    | .int x :: .ref y :: S => pm_nx (pc + n) L (.int x :: .ref y :: .int x :: .ref y :: S) σ
    | _ => none)
  | .pop => (match S with
    | .int _ :: S => pm_nx (pc + n) L S σ
    | .ref _ :: S => pm_nx (pc + n) L S σ
    | _ => none)
  | .goto o => if 0 ≤ (pc : Int) + o then pm_nx (pm_tgt pc o) L S σ else none
  | .ifCond c o => (match S with
    | .int x :: S => if 0 ≤ (pc : Int) + o then (if pm_cnd c x 0 = true then pm_nx (pm_tgt pc o) L S σ else pm_nx (pc + n) L S σ) else none
    | _ => none)
  | .if_icmp c o => (match S with
    | .int y :: .int x :: S => if 0 ≤ (pc : Int) + o then (if pm_cnd c x y = true then pm_nx (pm_tgt pc o) L S σ else pm_nx (pc + n) L S σ) else none
    | _ => none)
  | .tableswitch d lo hi os => (match S with
    | .int x :: S => (if x.toInt < lo ∨ hi < x.toInt then (if 0 ≤ (pc : Int) + d then pm_nx (pm_tgt pc d) L S σ else none) else
      (match os[(x.toInt - lo).toNat]? with
      | some o => if 0 ≤ (pc : Int) + o then pm_nx (pm_tgt pc o) L S σ else none
      | none => none))
    | _ => none)
  | .lookupswitch d ps => (match S with
    | .int x :: S => if (ps.toList.zip (ps.toList.drop 1)).all (fun (a, next) => a.1 < next.1) = true ∧ 0 ≤ (pc : Int) + Op.lookupswitch.offset ps.toList d x.toInt then pm_nx (pm_tgt pc (Op.lookupswitch.offset ps.toList d x.toInt)) L S σ else none
    | _ => none)
  | .iaload => (match S with
    | .int i :: .ref k :: S => (match pm_hg σ k with
      | some (.inr (t, xs)) => if t ≠ 1 ∧ pm_inR i xs.length then pm_nx (pc + n) L (.int (pm_rd xs i) :: S) σ else none
      | _ => none)
    | _ => none)
  | .baload => (match S with
    | .int i :: .ref k :: S => (match pm_hg σ k with
      | some (.inr (t, xs)) => if t = 1 ∧ pm_inR i xs.length then pm_nx (pc + n) L (.int (pm_rd xs i) :: S) σ else none
      | _ => none)
    | _ => none)
  | .iastore => (match S with
    | .int x :: .int i :: .ref k :: S => (match pm_hg σ k with
      | some (.inr (t, xs)) => if t = 0 ∧ pm_inR i xs.length then pm_nx (pc + n) L S (pm_hs σ k (.inr (0, pm_wr xs i x))) else none
      | _ => none)
    | _ => none)
  | .bastore => (match S with
    | .int x :: .int i :: .ref k :: S => (match pm_hg σ k with
      | some (.inr (t, xs)) => if t = 1 ∧ pm_inR i xs.length ∧ pm_fit 1 (.int x) = true then pm_nx (pc + n) L S (pm_hs σ k (.inr (1, pm_wr xs i x))) else none
      | _ => none)
    | _ => none)
  | .arraylength => (match S with
    | .ref k :: S => (match pm_hg σ k with
      | some (.inr (_, xs)) => pm_nx (pc + n) L (.int (nI xs.length) :: S) σ
      | _ => none)
    | _ => none)
  | .newarray .int => (match S with
    | .int x :: S => if 0 ≤ x.toInt ∧ x.toInt ≤ 1000 then pm_nx (pc + n) L (.ref σ.length :: S) (σ ++ [.inr (0, List.replicate x.toNatClampNeg 0)]) else none
    | _ => none)
  | .newarray .boolean => (match S with
    | .int x :: S => if 0 ≤ x.toInt ∧ x.toInt ≤ 1000 then pm_nx (pc + n) L (.ref σ.length :: S) (σ ++ [.inr (1, List.replicate x.toNatClampNeg 0)]) else none
    | _ => none)
  | .new k => (match pm_cls P (pm_met P y).1 k with
    | some c => pm_nx (pc + n) L (.ref σ.length :: S) (σ ++ [.inl (c, pm_dfl P c)])
    | none => none)
  | .getfield k => (match S with
    | .ref a :: S => (match pm_fld P (pm_met P y).1 k, pm_hg σ a with
      | some (c, j), some (.inl (c', fs)) => if c = c' then (match fs[j]? with
        | some v => pm_nx (pc + n) L (v :: S) σ
        | none => none) else none
      | _, _ => none)
    | _ => none)
  | .putfield k => (match S with
    | v :: .ref a :: S => (match pm_fld P (pm_met P y).1 k, pm_hg σ a with
      | some (c, j), some (.inl (c', fs)) => if c = c' ∧ j < fs.length ∧ pm_fit (pm_fty P c j).1 v = true ∧ ((pm_fty P c j).2 = true → (pm_met P y).2.2.2 = true ∧ (pm_met P y).1 = c) then pm_nx (pc + n) L S (pm_hs σ a (.inl (c, fs.set j v))) else none
      | _, _ => none)
    | _ => none)
  | .getstatic k => (match pm_sta P (pm_met P y).1 k with
    | some a => pm_nx (pc + n) L (.ref a :: S) σ
    | none => none)
  | .invokestatic k => pm_call P y k 0 S σ
  | .invokevirtual k => (match pm_mth P (pm_met P y).1 k with
    | some (3, _) => pm_call P y k 3 S σ
    | _ => pm_call P y k 1 S σ)
  | .invokespecial k => pm_call P y k 2 S σ
  | .return_ => some (.inr (.inr none))
  | .ireturn => (match S with
    | .int x :: [] => if (pm_met P y).2.2.1 = true → pm_fit 1 (.int x) = true then some (.inr (.inr (some (.int x)))) else none
    | _ => none)
  | .lreturn => (match S with
    | .long x :: [] => some (.inr (.inr (some (.long x))))
    | _ => none)
  | _ => none
/-- what isn't walked: Object's constructor (900), arraycopy of whole rows of ints (901), a text's length (902), its sign at a place (903), the greater and the smaller of two ints (904, 905) -/
def pm_bif (P : pm_T) : Nat → Nat → List Value → pm_S → Option (Option Value × pm_S)
  | _ + 5, 900, [.ref _], σ => some (none, σ)
  | _ + 5, 901, [.ref a, .int p, .ref b, .int q, .int n], σ => (match pm_hg σ a, pm_hg σ b with
    | some (.inr (0, xs)), some (.inr (0, ys)) => if p = 0 ∧ q = 0 ∧ n = nI xs.length ∧ xs.length = ys.length ∧ xs.length < 2 ^ 31 then some (none, pm_hs σ b (.inr (0, xs))) else none
    | _, _ => none)
  | _ + 5, 902, [.ref a], σ => (match pm_txt P a 0 with
    | some v => some (some (.int v), σ)
    | none => none)
  | _ + 5, 903, [.ref a, .int i], σ => if 0 ≤ i.toInt then (match pm_txt P a (i.toNatClampNeg + 1) with
    | some v => some (some (.int v), σ)
    | none => none) else none
  | _ + 5, 904, [.int x, .int z], σ => some (some (.int (if x < z then z else x)), σ)
  | _ + 5, 905, [.int x, .int z], σ => some (some (.int (if z < x then z else x)), σ)
  | _, _, _, _ => none
/-- an answer, onto the operands -/
def pm_pu : Option Value → List Value → List Value
  | none, S => S
  | some v, S => v :: S
/-- a run: how deep calls may go, how many steps, the method, where it stands -/
def pm_ev (P : pm_T) : Nat → Nat → Nat → Nat → pm_L → List Value → pm_S → Option (Option Value × pm_S)
  | 0, _, _, _, _, _, _ => none
  | f + 1, d, y, pc, L, S, σ => match pm_fet P y pc with
    | none => none
    | some (i, n) => match pm_stp P y i n pc L S σ with
      | none => none
      | some (.inl (pc', L', S', σ')) => pm_ev P f d y pc' L' S' σ'
      | some (.inr (.inr r)) => some (r, σ)
      | some (.inr (.inl (z, as, S'))) =>
        if 900 ≤ z then (match pm_bif P d z as σ with
          | some (r, σ') => pm_ev P f d y (pc + n) L (pm_pu r S') σ'
          | none => none)
        else match d with
          | 0 => none
          | d' + 1 => if pm_okW (pm_met P z).2.1 as = true then (match pm_ev P f d' z 0 (pm_ent (pm_met P z).2.1 as) [] σ with
            | some (r, σ') => pm_ev P f (d' + 1) y (pc + n) L (pm_pu r S') σ'
            | none => none) else none
