/-! THE MODEL: a heap as a list of cells, and an interpreter of the program's bytecode over it.
    A cell: an object (number of its class, fields) or an array (number of its type, elements). Cell 0 is the law's script (type 7). -/
abbrev mC : Type := (Nat × List Value) ⊕ (Nat × List Value)
abbrev mH : Type := List mC
abbrev mL : Type := List (Option Value)
/-- a value that fits a type -/
def mfit (ty : FieldType) (v : Value) : Bool := match ty, v with
  | .int, .int _ => true
  | .boolean, .int x => x == 0 || x == 1
  | .object _, .null => true
  | .object _, .ref _ => true
  | .array _, .null => true
  | .array _, .ref _ => true
  | _, _ => false
def mget (M : mH) (a ci k : Nat) : Option Value := match M[a]? with
  | some (.inl (c, fs)) => bif Nat.beq c ci then fs[k]? else none
  | _ => none
def mput (M : mH) (a ci k : Nat) (v : Value) : Option mH := match M[a]? with
  | some (.inl (c, fs)) => bif Nat.beq c ci && Nat.blt k fs.length then some (M.set a (.inl (c, fs.set k v))) else none
  | _ => none
/-- an element of an array, with its type's number -/
def mald (M : mH) (a : Nat) (j : Int32) : Option (Nat × Value) := match M[a]? with
  | some (.inr (t, es)) => bif decide (0 ≤ j) then (match es[j.toNatClampNeg]? with | some v => some (t, v) | none => none) else none
  | _ => none
def mast (M : mH) (a t : Nat) (j : Int32) (v : Value) : Option mH := match M[a]? with
  | some (.inr (t', es)) => bif Nat.beq t' t && decide (0 ≤ j) && Nat.blt j.toNatClampNeg es.length then some (M.set a (.inr (t, es.set j.toNatClampNeg v))) else none
  | _ => none
/-- the type of an array of references -/
def mtya (M : mH) (a : Nat) : Nat := match M[a]? with
  | some (.inr (t, _)) => t
  | _ => 0
/-- an object's class -/
def mcls (M : mH) (a : Nat) : Option Nat := match M[a]? with
  | some (.inl (c, _)) => some c
  | _ => none
/-- a value of one slot -/
def mc1 (v : Value) : Bool := Nat.beq v.category 1
def mload (L : mL) (k : Nat) : Option Value := match L[k]? with
  | some (some v) => some v
  | _ => none
/-- an instruction that is no call and no return: where it goes on -/
def mdo (e : mE) (pc : Nat) (L : mL) (st : List Value) (M : mH) : Option (Nat × mL × List Value × mH) := match e.1 with
  | .iconst _ => some (e.2.1, L, .int e.2.2.2.2 :: st, M)
  | .bipush _ => some (e.2.1, L, .int e.2.2.2.2 :: st, M)
  | .sipush _ => some (e.2.1, L, .int e.2.2.2.2 :: st, M)
  | .aconst_null => some (e.2.1, L, .null :: st, M)
  | .iload_n k => (match mload L k.val with | some (.int x) => some (e.2.1, L, .int x :: st, M) | _ => none)
  | .iload k => (match mload L k with | some (.int x) => some (e.2.1, L, .int x :: st, M) | _ => none)
  | .aload_n k => (match mload L k.val with | some (.ref x) => some (e.2.1, L, .ref x :: st, M) | some .null => some (e.2.1, L, .null :: st, M) | _ => none)
  | .aload k => (match mload L k with | some (.ref x) => some (e.2.1, L, .ref x :: st, M) | some .null => some (e.2.1, L, .null :: st, M) | _ => none)
  | .istore_n k => (match st with | .int x :: r => bif Nat.blt k.val L.length then some (e.2.1, L.set k.val (some (.int x)), r, M) else none | _ => none)
  | .istore k => (match st with | .int x :: r => bif Nat.blt k L.length then some (e.2.1, L.set k (some (.int x)), r, M) else none | _ => none)
  | .astore_n k => (match st with | .ref x :: r => bif Nat.blt k.val L.length then some (e.2.1, L.set k.val (some (.ref x)), r, M) else none | .null :: r => bif Nat.blt k.val L.length then some (e.2.1, L.set k.val (some .null), r, M) else none | _ => none)
  | .astore k => (match st with | .ref x :: r => bif Nat.blt k L.length then some (e.2.1, L.set k (some (.ref x)), r, M) else none | .null :: r => bif Nat.blt k L.length then some (e.2.1, L.set k (some .null), r, M) else none | _ => none)
  | .iinc k _ => (match mload L k with | some (.int x) => some (e.2.1, L.set k (some (.int (x + e.2.2.2.2))), st, M) | _ => none)
  | .iadd => (match st with | .int y :: .int x :: r => some (e.2.1, L, .int (x + y) :: r, M) | _ => none)
  | .isub => (match st with | .int y :: .int x :: r => some (e.2.1, L, .int (x - y) :: r, M) | _ => none)
  | .imul => (match st with | .int y :: .int x :: r => some (e.2.1, L, .int (x * y) :: r, M) | _ => none)
  | .iand => (match st with | .int y :: .int x :: r => some (e.2.1, L, .int (x &&& y) :: r, M) | _ => none)
  | .ior => (match st with | .int y :: .int x :: r => some (e.2.1, L, .int (x ||| y) :: r, M) | _ => none)
  | .ixor => (match st with | .int y :: .int x :: r => some (e.2.1, L, .int (x ^^^ y) :: r, M) | _ => none)
  | .ishl => (match st with | .int y :: .int x :: r => some (e.2.1, L, .int (x <<< (y &&& 31)) :: r, M) | _ => none)
  | .ishr => (match st with | .int y :: .int x :: r => some (e.2.1, L, .int (x >>> (y &&& 31)) :: r, M) | _ => none)
  | .iushr => (match st with | .int y :: .int x :: r => some (e.2.1, L, .int ((x.toUInt32 >>> (y.toUInt32 &&& Int32.toUInt32 31)).toInt32) :: r, M) | _ => none)
  | .dup => (match st with | v :: r => bif mc1 v then some (e.2.1, L, v :: v :: r, M) else none | _ => none)
  | .dup_x1 => (match st with | v :: w :: r => bif mc1 v && mc1 w then some (e.2.1, L, v :: w :: v :: r, M) else none | _ => none)
  | .dup_x2 => (match st with | v :: w :: u :: r => bif mc1 v && mc1 w && mc1 u then some (e.2.1, L, v :: w :: u :: v :: r, M) else none | _ => none)
  | .dup2 => (match st with | v :: w :: r => bif mc1 v && mc1 w then some (e.2.1, L, v :: w :: v :: w :: r, M) else none | _ => none)
  | .goto _ => some (e.2.2.1, L, st, M)
  | .ifCond c _ => (match c, st with
    | .eq, .int x :: r => some (bif decide (x = 0) then e.2.2.1 else e.2.1, L, r, M)
    | .ne, .int x :: r => some (bif decide (¬ x = 0) then e.2.2.1 else e.2.1, L, r, M)
    | .lt, .int x :: r => some (bif decide (x < 0) then e.2.2.1 else e.2.1, L, r, M)
    | .ge, .int x :: r => some (bif decide (0 ≤ x) then e.2.2.1 else e.2.1, L, r, M)
    | .gt, .int x :: r => some (bif decide (0 < x) then e.2.2.1 else e.2.1, L, r, M)
    | .le, .int x :: r => some (bif decide (x ≤ 0) then e.2.2.1 else e.2.1, L, r, M)
    | _, _ => none)
  | .if_icmp c _ => (match c, st with
    | .eq, .int y :: .int x :: r => some (bif decide (x = y) then e.2.2.1 else e.2.1, L, r, M)
    | .ne, .int y :: .int x :: r => some (bif decide (¬ x = y) then e.2.2.1 else e.2.1, L, r, M)
    | .lt, .int y :: .int x :: r => some (bif decide (x < y) then e.2.2.1 else e.2.1, L, r, M)
    | .ge, .int y :: .int x :: r => some (bif decide (y ≤ x) then e.2.2.1 else e.2.1, L, r, M)
    | .gt, .int y :: .int x :: r => some (bif decide (y < x) then e.2.2.1 else e.2.1, L, r, M)
    | .le, .int y :: .int x :: r => some (bif decide (x ≤ y) then e.2.2.1 else e.2.1, L, r, M)
    | _, _ => none)
  | .if_acmp c _ => (match c, st with
    | .eq, .ref y :: .ref x :: r => some (bif Nat.beq x y then e.2.2.1 else e.2.1, L, r, M)
    | .eq, .null :: .ref _ :: r => some (e.2.1, L, r, M)
    | .eq, .ref _ :: .null :: r => some (e.2.1, L, r, M)
    | .eq, .null :: .null :: r => some (e.2.2.1, L, r, M)
    | .ne, .ref y :: .ref x :: r => some (bif Nat.beq x y then e.2.1 else e.2.2.1, L, r, M)
    | .ne, .null :: .ref _ :: r => some (e.2.2.1, L, r, M)
    | .ne, .ref _ :: .null :: r => some (e.2.2.1, L, r, M)
    | .ne, .null :: .null :: r => some (e.2.1, L, r, M)
    | _, _ => none)
  | .ifnull _ => (match st with | .null :: r => some (e.2.2.1, L, r, M) | .ref _ :: r => some (e.2.1, L, r, M) | _ => none)
  | .ifnonnull _ => (match st with | .null :: r => some (e.2.1, L, r, M) | .ref _ :: r => some (e.2.2.1, L, r, M) | _ => none)
  | .tableswitch df lo hi offs => (match st with
    | .int x :: r => bif decide (x.toInt < lo) || decide (hi < x.toInt) then some (((pc : Int) + df).toNat, L, r, M) else (match offs[(x.toInt - lo).toNat]? with | some o => some (((pc : Int) + o).toNat, L, r, M) | none => none)
    | _ => none)
  | .lookupswitch df ps => (match st with
    | .int x :: r => some (((pc : Int) + Op.lookupswitch.offset ps.toList df x.toInt).toNat, L, r, M)
    | _ => none)
  | .getfield _ => (match st with | .ref a :: r => (match mget M a e.2.2.1 e.2.2.2.1 with | some v => some (e.2.1, L, v :: r, M) | none => none) | _ => none)
  | .putfield _ => (match st with | v :: .ref a :: r => bif mfit (mTy e.2.2.1 e.2.2.2.1) v then (match mput M a e.2.2.1 e.2.2.2.1 v with | some M' => some (e.2.1, L, r, M') | none => none) else none | _ => none)
  | .iaload => (match st with | .int j :: .ref a :: r => (match mald M a j with | some (0, .int x) => some (e.2.1, L, .int x :: r, M) | some (7, .int x) => bif Nat.beq a 0 then some (e.2.1, L, .int x :: r, M) else none | _ => none) | _ => none)
  | .baload => (match st with | .int j :: .ref a :: r => (match mald M a j with | some (1, .int x) => some (e.2.1, L, .int x :: r, M) | _ => none) | _ => none)
  | .aaload => (match st with | .int j :: .ref a :: r => (match mald M a j with | some (t, .ref x) => bif Nat.ble 2 t && Nat.ble t 6 then some (e.2.1, L, .ref x :: r, M) else none | some (t, .null) => bif Nat.ble 2 t && Nat.ble t 6 then some (e.2.1, L, .null :: r, M) else none | _ => none) | _ => none)
  | .iastore => (match st with | .int x :: .int j :: .ref a :: r => (match mast M a 0 j (.int x) with | some M' => some (e.2.1, L, r, M') | none => none) | _ => none)
  | .bastore => (match st with | .int x :: .int j :: .ref a :: r => bif x == 0 || x == 1 then (match mast M a 1 j (.int x) with | some M' => some (e.2.1, L, r, M') | none => none) else none | _ => none)
  | .aastore => (match st with
    | .ref v :: .int j :: .ref a :: r => bif (Nat.ble 2 (mtya M a) && Nat.ble (mtya M a) 6) && (mcls M v == some (mAc (mtya M a))) then (match mast M a (mtya M a) j (.ref v) with | some M' => some (e.2.1, L, r, M') | none => none) else none
    | _ => none)
  | .arraylength => (match st with | .ref 0 :: r => (match M[(0 : Nat)]? with | some (.inr (7, es)) => some (e.2.1, L, .int (Int32.ofNat es.length) :: r, M) | _ => none) | _ => none)
  | .new _ => some (e.2.1, L, .ref M.length :: st, M ++ [.inl (e.2.2.1, mBlank e.2.2.1)])
  | .newarray _ => (match st with | .int n :: r => bif decide (0 ≤ n) && decide (n ≤ 1000) then some (e.2.1, L, .ref M.length :: r, M ++ [.inr (e.2.2.1, List.replicate n.toNatClampNeg (.int 0))]) else none | _ => none)
  | .anewarray _ => (match st with | .int n :: r => bif decide (0 ≤ n) && decide (n ≤ 1000) then some (e.2.1, L, .ref M.length :: r, M ++ [.inr (e.2.2.1, List.replicate n.toNatClampNeg .null)]) else none | _ => none)
  | .invokespecial _ => (match st with | .ref _ :: r => bif Nat.beq e.2.2.1 1000 && Nat.ble (r.map Value.category).sum 8 then some (e.2.1, L, r, M) else none | _ => none)
  | .invokestatic _ => (match st with | .int y :: .int x :: r => bif Nat.beq e.2.2.1 1001 && Nat.ble (r.map Value.category).sum 8 then some (e.2.1, L, .int (if y < x then y else x) :: r, M) else none | _ => none)
  | _ => none
/-- a return: the answer -/
def mret (e : mE) (st : List Value) : Option (Option Value) := match e.1 with
  | .ireturn => (match st with | [.int v] => bif Nat.beq e.2.2.1 0 then some (some (.int v)) else (bif v == 0 || v == 1 then some (some (.int v)) else none) | _ => none)
  | .areturn => (match st with | [.ref a] => some (some (.ref a)) | [.null] => some (some .null) | _ => none)
  | .return_ => (match st with | [] => some none | _ => none)
  | _ => none
/-- the arguments fit: there are enough, each of one slot; what stays below is small -/
def mcok (n : Nat) (st : List Value) : Bool := Nat.ble n st.length && ((st.take n).all mc1 && Nat.ble ((st.drop n).map Value.category).sum 8)
/-- a call of a method of the program: which, its arguments, what stays on the stack -/
def mcall (e : mE) (st : List Value) (M : mH) : Option (Nat × List Value × List Value) := match e.1 with
  | .invokevirtual _ => bif mcok e.2.2.2.1 st then (match (st.take e.2.2.2.1).reverse with | .ref a :: as => (bif mcls M a == some (mOwn e.2.2.1) then some (e.2.2.1, .ref a :: as, st.drop e.2.2.2.1) else none) | _ => none) else none
  | .invokespecial _ => bif mcok e.2.2.2.1 st && Nat.blt e.2.2.1 1000 then (match (st.take e.2.2.2.1).reverse with | .ref a :: as => some (e.2.2.1, .ref a :: as, st.drop e.2.2.2.1) | _ => none) else none
  | .invokestatic _ => bif mcok e.2.2.2.1 st && Nat.blt e.2.2.1 1000 then some (e.2.2.1, (st.take e.2.2.2.1).reverse, st.drop e.2.2.2.1) else none
  | _ => none
def mentry (y : Nat) (as : List Value) : mL := as.map some ++ List.replicate (mMaxL y - as.length) none
def mrun : Nat → Nat → Nat → Nat → mL → List Value → mH → Option (Option Value × mH)
  | 0, _, _, _, _, _, _ => none
  | n + 1, d, y, pc, L, st, M => match mfetch y pc with
    | none => none
    | some e => match mret e st with
      | some r => some (r, M)
      | none => match mcall e st M with
        | some q => (match d with
          | 0 => none
          | d' + 1 => match mrun n d' q.1 0 (mentry q.1 q.2.1) [] M with
            | none => none
            | some w => mrun n (d' + 1) y e.2.1 L (w.1.toList ++ q.2.2) w.2)
        | none => match mdo e pc L st M with
          | none => none
          | some q => mrun n d y q.1 q.2.1 q.2.2.1 q.2.2.2
