/-! A SMALL MACHINE of our own, that can be run: cells are numbered from 0 on, a reference is a cell's number; the real machine follows it (part 12). -/
abbrev AC : Type := (Nat × List Int32) ⊕ ((Nat × List (Option Nat)) ⊕ (Nat × List Value))
abbrev HP : Type := List AC
abbrev LO : Type := List (Option Value)
def zm_SP : Nat := 1000000
def zm_lget (lo : LO) (i : Nat) : Option Value := match lo[i]? with
  | some (some v) => some v
  | _ => none
def zm_wide : Option Value → Bool
  | some (.long _) => true
  | some (.double _) => true
  | _ => false
def zm_clr (lo : LO) (i : Nat) : LO := match i with
  | 0 => lo
  | k + 1 => bif zm_wide (zm_lget lo k) then lo.set k none else lo
def zm_put1 (lo : LO) (i : Nat) (v : Value) : LO := (zm_clr lo i).set i (some v)
def zm_put2 (lo : LO) (i : Nat) (v : Value) : LO := ((zm_clr lo i).set i (some v)).set (i + 1) none
abbrev ZS : Type := Nat × LO × List Value × HP
def zm_li (lo : LO) (k pc : Nat) (st : List Value) (h : HP) : Option ZS := match zm_lget lo k with
  | some (.int v) => some (pc, lo, .int v :: st, h)
  | _ => none
def zm_ll (lo : LO) (k pc : Nat) (st : List Value) (h : HP) : Option ZS := match zm_lget lo k with
  | some (.long v) => some (pc, lo, .long v :: st, h)
  | _ => none
def zm_la (lo : LO) (k pc : Nat) (st : List Value) (h : HP) : Option ZS := match zm_lget lo k with
  | some (.ref v) => some (pc, lo, .ref v :: st, h)
  | _ => none
def zm_si (lo : LO) (k pc : Nat) (st : List Value) (h : HP) : Option ZS := match st with
  | .int v :: r => bif Nat.blt k lo.length then some (pc, zm_put1 lo k (.int v), r, h) else none
  | _ => none
def zm_sl (lo : LO) (k pc : Nat) (st : List Value) (h : HP) : Option ZS := match st with
  | .long v :: r => bif Nat.blt (k + 1) lo.length then some (pc, zm_put2 lo k (.long v), r, h) else none
  | _ => none
def zm_sa (lo : LO) (k pc : Nat) (st : List Value) (h : HP) : Option ZS := match st with
  | .ref v :: r => bif Nat.blt k lo.length then some (pc, zm_put1 lo k (.ref v), r, h) else none
  | _ => none
def zm_b (f : Int32 → Int32 → Int32) (pc : Nat) (lo : LO) (st : List Value) (h : HP) : Option ZS := match st with
  | .int y :: .int x :: r => some (pc + 1, lo, .int (f x y) :: r, h)
  | _ => none
def zm_d (f : Int32 → Int32 → Int32) (pc : Nat) (lo : LO) (st : List Value) (h : HP) : Option ZS := match st with
  | .int y :: .int x :: r => bif y == 0 then none else some (pc + 1, lo, .int (f x y) :: r, h)
  | _ => none
def zm_lb (f : Int64 → Int64 → Int64) (pc : Nat) (lo : LO) (st : List Value) (h : HP) : Option ZS := match st with
  | .long y :: .long x :: r => some (pc + 1, lo, .long (f x y) :: r, h)
  | _ => none
def zm_ld (f : Int64 → Int64 → Int64) (pc : Nat) (lo : LO) (st : List Value) (h : HP) : Option ZS := match st with
  | .long y :: .long x :: r => bif y == 0 then none else some (pc + 1, lo, .long (f x y) :: r, h)
  | _ => none
def zm_u (f : Int32 → Int32) (pc : Nat) (lo : LO) (st : List Value) (h : HP) : Option ZS := match st with
  | .int x :: r => some (pc + 1, lo, .int (f x) :: r, h)
  | _ => none
def zm_cmp (c : ClassFile.Cond) (x y : Int32) : Bool := match c with
  | .eq => decide (x = y)
  | .ne => decide (¬ x = y)
  | .lt => decide (x < y)
  | .ge => decide (y ≤ x)
  | .gt => decide (y < x)
  | .le => decide (x ≤ y)
def zm_tg (pc : Nat) (off : Int) : Nat := ((pc : Int) + off).toNat
def zm_tab (pc : Nat) (dflt lo hi : Int) (offs : Array Int) (x : Int32) : Option Nat :=
  bif decide (x.toInt < lo) || decide (hi < x.toInt) then some (zm_tg pc dflt) else match offs[(x.toInt - lo).toNat]? with
  | some off => some (zm_tg pc off)
  | none => none
/-- may a field of this type hold it -/
def zm_ok (ty : FieldType) (v : Value) : Bool := match ty, v with
  | .int, .int _ => true
  | .boolean, .int x => x == 0 || x == 1
  | .long, .long _ => true
  | .object _, .ref _ => true
  | .array _, .ref _ => true
  | _, _ => false
def zm_get (h : HP) (r ci k : Nat) : Option Value := match h[r]? with
  | some (.inr (.inr (c, fs))) => bif Nat.beq c ci then fs[k]? else none
  | _ => none
def zm_set (h : HP) (r ci k : Nat) (v : Value) : Option HP := match h[r]? with
  | some (.inr (.inr (c, fs))) => bif Nat.beq c ci && Nat.blt k fs.length then some (h.set r (.inr (.inr (c, fs.set k v)))) else none
  | _ => none
def zm_ix (i : Int32) (n : Nat) : Option Nat := bif decide (i < 0) then none else bif Nat.blt i.toNatClampNeg n then some i.toNatClampNeg else none
/-- an element of an array of numbers of one of the types t1, t2 -/
def zm_ald (h : HP) (r t1 t2 : Nat) (i : Int32) : Option Int32 := match h[r]? with
  | some (.inl (t, xs)) => bif Nat.beq t t1 || Nat.beq t t2 then (match zm_ix i xs.length with
    | some k => xs[k]?
    | none => none) else none
  | _ => none
def zm_nar (t : Nat) (x : Int32) : Int32 := match t with
  | 0 => x
  | 1 => x.toInt8.toInt32
  | _ => vp_nar .boolean x
def zm_ast (h : HP) (r t1 t2 : Nat) (i x : Int32) : Option HP := match h[r]? with
  | some (.inl (t, xs)) => bif Nat.beq t t1 || Nat.beq t t2 then (match zm_ix i xs.length with
    | some k => some (h.set r (.inl (t, xs.set k (zm_nar t x))))
    | none => none) else none
  | _ => none
def zm_aald (h : HP) (r : Nat) (i : Int32) : Option Value := match h[r]? with
  | some (.inr (.inl (t, rs))) => (match zm_ix i rs.length with
    | some k => bif zm_rt t then (match rs[k]? with
      | some (some a) => some (.ref a)
      | some none => some .null
      | none => none) else none
    | none => none)
  | _ => none
/-- the class of a cell's object -/
def zm_cls (h : HP) (r : Nat) : Option Nat := match h[r]? with
  | some (.inr (.inr (c, _))) => some c
  | _ => none
def zm_aast (el : Nat → Nat) (h : HP) (r v : Nat) (i : Int32) : Option HP := match h[r]? with
  | some (.inr (.inl (t, rs))) => (match zm_ix i rs.length with
    | some k => bif zm_rt t && (match zm_cls h v with | some c => Nat.beq c (el t) | none => false) then some (h.set r (.inr (.inl (t, rs.set k (some v))))) else none
    | none => none)
  | _ => none
def zm_len (h : HP) (r : Nat) : Option Nat := match h[r]? with
  | some (.inl (t, xs)) => bif Nat.blt t 3 then some xs.length else none
  | some (.inr (.inl (t, rs))) => bif zm_rt t then some rs.length else none
  | _ => none
def zm_sld (sc : Option (List Int32)) (i : Int32) : Option Int32 := match sc with
  | some l => (match zm_ix i l.length with
    | some k => some (l.getD k 0)
    | none => none)
  | none => none
/-- the String constants: reference 1000001 + i is the i-th, 1000101 + i its bytes; 1000300 a thing that is only passed on -/
def zm_isS (r : Nat) : Bool := Nat.blt zm_SP r && Nat.ble r (zm_SP + 9)
def zm_sget (r b : Nat) : Option Value := bif zm_isS r then (match b with
  | 0 => some (.ref (r + 100))
  | 1 => some (.int 0)
  | _ => none) else none
def zm_isB (r : Nat) : Bool := Nat.blt (zm_SP + 100) r && Nat.ble r (zm_SP + 109)
def zm_sby (r : Nat) : List Int32 := z_by (r - (zm_SP + 101))
def zm_gs (a : Nat) : Option Value := match a with
  | 0 => some (.int 1)
  | 1 => some (.retAddr 0)
  | _ => none
def zm_aty : ClassFile.ArrayType → Option Nat
  | .int => some 0
  | .byte => some 1
  | .boolean => some 2
  | _ => none
/-- one instruction that neither calls nor returns; sc: the script -/
def zm_st (sc : Option (List Int32)) (x : XI) (pc : Nat) (lo : LO) (st : List Value) (h : HP) : Option ZS := match x.1 with
  | .iconst n => some (pc + 1, lo, .int (Int32.ofInt n) :: st, h)
  | .bipush n => some (pc + 2, lo, .int (Int8.ofInt n).toInt32 :: st, h)
  | .sipush n => some (pc + 3, lo, .int (Int16.ofInt n).toInt32 :: st, h)
  | .lconst n => some (pc + 1, lo, .long (Int64.ofNat n.val) :: st, h)
  | .ldc _ => bif Nat.beq x.2.2.2 0 then some (pc + 2, lo, .int (Int32.ofNat x.2.2.1) :: st, h) else some (pc + 2, lo, .ref (zm_SP + 1 + x.2.2.1) :: st, h)
  | .getstatic _ => match zm_gs x.2.2.1 with
    | some v => some (pc + 3, lo, v :: st, h)
    | none => none
  | .ldc_w _ => some (pc + 3, lo, .int (Int32.ofNat x.2.2.1) :: st, h)
  | .ldc2_w _ => some (pc + 3, lo, .long (Int64.ofNat x.2.2.1) :: st, h)
  | .iload_n k => zm_li lo k.val (pc + 1) st h
  | .iload k => zm_li lo k (pc + 2) st h
  | .lload_n k => zm_ll lo k.val (pc + 1) st h
  | .lload k => zm_ll lo k (pc + 2) st h
  | .aload_n k => zm_la lo k.val (pc + 1) st h
  | .aload k => zm_la lo k (pc + 2) st h
  | .istore_n k => zm_si lo k.val (pc + 1) st h
  | .istore k => zm_si lo k (pc + 2) st h
  | .lstore_n k => zm_sl lo k.val (pc + 1) st h
  | .lstore k => zm_sl lo k (pc + 2) st h
  | .astore_n k => zm_sa lo k.val (pc + 1) st h
  | .astore k => zm_sa lo k (pc + 2) st h
  | .iinc k n => match zm_lget lo k with
    | some (.int v) => some (pc + 3, zm_put1 lo k (.int (v + Int32.ofInt n)), st, h)
    | _ => none
  | .iadd => zm_b (fun x y => x + y) pc lo st h
  | .isub => zm_b (fun x y => x - y) pc lo st h
  | .imul => zm_b (fun x y => x * y) pc lo st h
  | .iand => zm_b (fun x y => x &&& y) pc lo st h
  | .ior => zm_b (fun x y => x ||| y) pc lo st h
  | .ixor => zm_b (fun x y => x ^^^ y) pc lo st h
  | .ishl => zm_b (fun x y => x <<< (y &&& 31)) pc lo st h
  | .ishr => zm_b (fun x y => x >>> (y &&& 31)) pc lo st h
  | .iushr => zm_b (fun x y => (x.toUInt32 >>> (y.toUInt32 &&& Int32.toUInt32 31)).toInt32) pc lo st h
  | .idiv => zm_d (fun x y => x / y) pc lo st h
  | .irem => zm_d (fun x y => x - x / y * y) pc lo st h
  | .ladd => zm_lb (fun x y => x + y) pc lo st h
  | .lsub => zm_lb (fun x y => x - y) pc lo st h
  | .lmul => zm_lb (fun x y => x * y) pc lo st h
  | .ldiv => zm_ld (fun x y => x / y) pc lo st h
  | .lrem => zm_ld (fun x y => x - x / y * y) pc lo st h
  | .i2b => zm_u (fun x => x.toInt8.toInt32) pc lo st h
  | .i2s => zm_u (fun x => x.toInt16.toInt32) pc lo st h
  | .i2c => zm_u (fun x => (x.toUInt32 % 65536).toInt32) pc lo st h
  | .i2l => match st with
    | .int v :: r => some (pc + 1, lo, .long v.toInt64 :: r, h)
    | _ => none
  | .lcmp => match st with
    | .long y :: .long x :: r => some (pc + 1, lo, .int (lg_cmp x y) :: r, h)
    | _ => none
  | .dup => match st with
    | v :: r => bif Nat.beq v.category 1 then some (pc + 1, lo, v :: v :: r, h) else none
    | _ => none
  | .pop => match st with
    | v :: r => bif Nat.beq v.category 1 then some (pc + 1, lo, r, h) else none
    | _ => none
  | .pop2 => match st with
    | v :: r => bif Nat.beq v.category 2 then some (pc + 1, lo, r, h) else none
    | _ => none
  | .dup2 => match st with
    | v :: w :: r => bif Nat.beq v.category 1 && Nat.beq w.category 1 then some (pc + 1, lo, v :: w :: v :: w :: r, h) else none
    | _ => none
  | .ifCond c off => match st with
    | .int v :: r => bif zm_cmp c v 0 then some (zm_tg pc off, lo, r, h) else some (pc + 3, lo, r, h)
    | _ => none
  | .if_icmp c off => match st with
    | .int w :: .int v :: r => bif zm_cmp c v w then some (zm_tg pc off, lo, r, h) else some (pc + 3, lo, r, h)
    | _ => none
  | .goto off => some (zm_tg pc off, lo, st, h)
  | .tableswitch d l u os => match st with
    | .int v :: r => (match zm_tab pc d l u os v with
      | some t => some (t, lo, r, h)
      | none => none)
    | _ => none
  | .lookupswitch d ps => match st with
    | .int v :: r => some (zm_tg pc (Op.lookupswitch.offset ps.toList d v.toInt), lo, r, h)
    | _ => none
  | .getfield _ => match st with
    | .ref r :: rest => (match (bif Nat.beq x.2.2.1 90 then zm_sget r x.2.2.2 else zm_get h r x.2.2.1 x.2.2.2) with
      | some v => some (pc + 3, lo, v :: rest, h)
      | none => none)
    | _ => none
  | .putfield _ => match st with
    | v :: .ref r :: rest => bif zm_ok (z_ty x.2.2.1 x.2.2.2) v then (match zm_set h r x.2.2.1 x.2.2.2 v with
      | some h1 => some (pc + 3, lo, rest, h1)
      | none => none) else none
    | _ => none
  | .iaload => match st with
    | .int i :: .ref r :: rest => bif Nat.beq r zm_SP then (match zm_sld sc i with
        | some v => some (pc + 1, lo, .int v :: rest, h)
        | none => none) else (match zm_ald h r 0 0 i with
        | some v => some (pc + 1, lo, .int v :: rest, h)
        | none => none)
    | _ => none
  | .baload => match st with
    | .int i :: .ref r :: rest => (match (bif zm_isB r then (match zm_ix i (zm_sby r).length with | some k => some ((zm_sby r).getD k 0) | none => none) else zm_ald h r 1 2 i) with
        | some v => some (pc + 1, lo, .int v :: rest, h)
        | none => none)
    | _ => none
  | .iastore => match st with
    | .int v :: .int i :: .ref r :: rest => (match zm_ast h r 0 0 i v with
        | some h1 => some (pc + 1, lo, rest, h1)
        | none => none)
    | _ => none
  | .bastore => match st with
    | .int v :: .int i :: .ref r :: rest => (match zm_ast h r 1 2 i v with
        | some h1 => some (pc + 1, lo, rest, h1)
        | none => none)
    | _ => none
  | .aaload => match st with
    | .int i :: .ref r :: rest => (match zm_aald h r i with
        | some v => some (pc + 1, lo, v :: rest, h)
        | none => none)
    | _ => none
  | .aastore => match st with
    | .ref v :: .int i :: .ref r :: rest => (match zm_aast z_el h r v i with
        | some h1 => some (pc + 1, lo, rest, h1)
        | none => none)
    | _ => none
  | .arraylength => match st with
    | .ref r :: rest => bif Nat.beq r zm_SP then (match sc with
        | some l => some (pc + 1, lo, .int (Int32.ofNat l.length) :: rest, h)
        | none => none) else (match (bif zm_isB r then some (zm_sby r).length else zm_len h r) with
        | some n => some (pc + 1, lo, .int (Int32.ofNat n) :: rest, h)
        | none => none)
    | _ => none
  | .new _ => bif Nat.blt h.length 100000 then some (pc + 3, lo, .ref h.length :: st, h ++ [.inr (.inr (x.2.2.1, z_dv x.2.2.1))]) else none
  | .newarray a => match zm_aty a, st with
    | some t, .int n :: rest => bif decide (n < 0) || Nat.blt 10000 n.toNatClampNeg || Nat.ble 100000 h.length then none else some (pc + 2, lo, .ref h.length :: rest, h ++ [.inl (t, List.replicate n.toNatClampNeg 0)])
    | _, _ => none
  | .anewarray _ => match st with
    | .int n :: rest => bif decide (n < 0) || Nat.blt 10000 n.toNatClampNeg || Nat.ble 100000 h.length then none else some (pc + 3, lo, .ref h.length :: rest, h ++ [.inr (.inl (x.2.2.1, List.replicate n.toNatClampNeg none))])
    | _ => none
  | _ => none
/-- 0: an instruction of zm_st; 1: a call; 2: a return -/
def zm_kd : Instr → Nat
  | .ireturn => 2
  | .lreturn => 2
  | .return_ => 2
  | .invokevirtual _ => 1
  | .invokespecial _ => 1
  | .invokestatic _ => 1
  | _ => 0
def zm_ret (rt : Option FieldType) (i : Instr) (st : List Value) : Bool := match i, st, rt with
  | .ireturn, [.int _], some .int => true
  | .ireturn, [.int v], some .boolean => v == 0 || v == 1
  | .ireturn, [.int v], some .byte => decide (narrow .byte (.int v) = .int v)
  | .ireturn, [.int v], some .char => decide (narrow .char (.int v) = .int v)
  | .lreturn, [.long _], some .long => true
  | .return_, [], none => true
  | _, _, _ => false
def zm_sl2 : List Value → LO
  | [] => []
  | v :: vs => bif Nat.beq v.category 2 then some v :: none :: zm_sl2 vs else some v :: zm_sl2 vs
def zm_ent (n : Nat) (vs : List Value) : LO := zm_sl2 vs ++ List.replicate (n - (zm_sl2 vs).length) none
def zm_cat (vs : List Value) : Nat := (vs.map fun v => v.category).sum
def zm_at (j pc : Nat) : Option XI := ((z_P.getD j []).getD (pc / 32) []).getD (pc % 32) none
/-- the receiver is of the method's class -/
def zm_rok (h : HP) (x : XI) (as : List Value) : Bool := match x.1, as with
  | .invokevirtual _, .ref r :: _ => bif Nat.beq (z_O x.2.2.1) 11 then zm_isS r else (match zm_cls h r with
    | some c => Nat.beq c (z_O x.2.2.1)
    | none => false)
  | .invokespecial _, .ref _ :: _ => true
  | .invokestatic _, _ => true
  | _, _ => false
/-- the run of method j from a place of its code to its return: fuel, depth -/
def zm_run (sc : Option (List Int32)) : Nat → Nat → Nat → Nat → LO → List Value → HP → Option (Nat × List Value × HP)
  | 0, _, _, _, _, _, _ => none
  | f + 1, d, j, pc, lo, st, h => match zm_at j pc with
    | none => none
    | some x => match zm_kd x.1 with
      | 0 => (match zm_st sc x pc lo st h with
        | none => none
        | some (pc1, lo1, st1, h1) => zm_run sc f d j pc1 lo1 st1 h1)
      | 1 => bif Nat.ble x.2.2.2 st.length && Nat.ble (zm_cat (st.drop x.2.2.2)) 8 && zm_rok h x (st.take x.2.2.2).reverse then (match d with
        | 0 => none
        | d1 + 1 => bif Nat.beq x.2.2.1 0 then zm_run sc f (d1 + 1) j (pc + 3) lo (st.drop x.2.2.2) h else
          bif Nat.ble (zm_sl2 (st.take x.2.2.2).reverse).length (z_L x.2.2.1) then
          (match zm_run sc f d1 x.2.2.1 0 (zm_ent (z_L x.2.2.1) (st.take x.2.2.2).reverse) [] h with
          | none => none
          | some (_, st1, h1) => zm_run sc f (d1 + 1) j (pc + 3) lo (st1 ++ st.drop x.2.2.2) h1) else none) else none
      | _ => bif zm_ret (z_R j) x.1 st then some (pc, st, h) else none
