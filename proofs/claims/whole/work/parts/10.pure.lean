/-! ===== the abstract machine: values with places for addresses, one world of a fixed layout ===== -/
abbrev xS : Type := (Nat → Nat → Int32) × (Nat → Nat → Int64)
abbrev xSh : Type := (Bool × Nat) ⊕ (Nat × List (Nat ⊕ Nat))
abbrev xLy : Type := List xSh
abbrev xLv : Type := List (Nat × Value)
abbrev xF : Type := Nat × xLv × List Value × xS
abbrev xO : Type := xF ⊕ ((Nat × List Value × List Value) ⊕ Option Value)
/-- one number of a place changes -/
def xu (s : xS) (p k : Nat) (v : Int32) : xS := (va_up s.1 p (upd (s.1 p) k v), s.2)
def xul (s : xS) (p k : Nat) (v : Int64) : xS := (s.1, va_up s.2 p (vp_updL (s.2 p) k v))
/-- a copy of n elements from place p at i to place q at j -/
def xcp (s : xS) (p i q j n : Nat) : xS := (va_up s.1 q (va_cpy (s.1 p) (s.1 q) i j n), s.2)
/-- a field's value, with places -/
def xfa (s : xS) (p k : Nat) (f : Nat ⊕ Nat) : Value := match f with
  | .inl q => .ref q
  | .inr t => match t with
    | 1 => .long (s.2 p k)
    | _ => .int (s.1 p k)
/-- the arrays that are never written: length, contents -/
def xRA (p : Nat) : Option (Bool × Nat × (Nat → Int32)) := match p with
  | 1000 => some (false, 4, fun j => ([1, 4, 3, 1] : List Int32).getD j 0)
  | 1001 => some (false, 4, fun j => ([3, 6, 9, 14] : List Int32).getD j 0)
  | 1004 => some (true, 4, fun j => ([46, 104, 102, 98] : List Int32).getD j 0)
  | 1005 => some (true, 4, fun j => ([119, 99, 107, 110] : List Int32).getD j 0)
  | _ => none
/-- statics -/
def xSt (a : Nat) : Option Value := match a with
  | 0 => some (.ref 1000)
  | 1 => some (.ref 1001)
  | 2 => some (.int 1)
  | _ => none
def xlk : List (Nat × xEnt) → Nat → Option xEnt
  | [], _ => none
  | q :: r, pc => cond (Nat.beq q.1 pc) (some q.2) (xlk r pc)
def xl : xLv → Nat → Option Value
  | [], _ => none
  | (j, v) :: r, k => cond (Nat.beq j k) (some v) (xl r k)
def xins (k : Nat) (v : Value) : xLv → xLv
  | [] => [(k, v)]
  | (j, w) :: r => cond (Nat.ble k j) ((k, v) :: (j, w) :: r) ((j, w) :: xins k v r)
def xd1 (i : Nat) : xLv → xLv
  | [] => []
  | (j, w) :: r => cond (Nat.beq j i) (xd1 i r) (cond (Nat.beq (j + 1) i) (cond (Nat.beq w.category 2) (xd1 i r) ((j, w) :: xd1 i r)) ((j, w) :: xd1 i r))
def xd2 (i : Nat) : xLv → xLv
  | [] => []
  | (j, w) :: r => cond (Nat.beq j i) (xd2 i r) (cond (Nat.beq j (i + 1)) (xd2 i r) (cond (Nat.beq (j + 1) i) (cond (Nat.beq w.category 2) (xd2 i r) ((j, w) :: xd2 i r)) ((j, w) :: xd2 i r)))
def xput1 (lv : xLv) (i : Nat) (v : Value) : xLv := xins i v (xd1 i lv)
def xput2 (lv : xLv) (i : Nat) (v : Value) : xLv := xins i v (xd2 i lv)
/-- the locals that live at a place: all, or those of a mask -/
def xmf (m : Nat) : xLv → xLv
  | [] => []
  | (j, w) :: r => cond (Nat.beq (m / 2 ^ j % 2) 1) ((j, w) :: xmf m r) (xmf m r)
def xmask (m : Nat) (lv : xLv) : xLv := cond (Nat.beq m 0) lv (xmf m lv)
def xnx (pc : Nat) (lv : xLv) (st : List Value) (s : xS) : Option xO := some (.inl (pc, lv, st, s))
def xi1 (st : List Value) (k : Int32 → List Value → Option xO) : Option xO := match st with
  | .int x :: r => k x r
  | _ => none
def xi2 (st : List Value) (k : Int32 → Int32 → List Value → Option xO) : Option xO := match st with
  | .int y :: .int x :: r => k x y r
  | _ => none
def xi3 (st : List Value) (k : Int64 → Int64 → List Value → Option xO) : Option xO := match st with
  | .long y :: .long x :: r => k x y r
  | _ => none
def xi4 (st : List Value) (k : Int64 → Int32 → List Value → Option xO) : Option xO := match st with
  | .int y :: .long x :: r => k x y r
  | _ => none
def xi5 (st : List Value) (k : Int64 → List Value → Option xO) : Option xO := match st with
  | .long x :: r => k x r
  | _ => none
def xi6 (st : List Value) (k : Int32 → Nat → List Value → Option xO) : Option xO := match st with
  | .int x :: .ref p :: r => k x p r
  | _ => none
def xi7 (st : List Value) (k : Int32 → Int32 → Nat → List Value → Option xO) : Option xO := match st with
  | .int x :: .int i :: .ref p :: r => k x i p r
  | _ => none
def xi8 (st : List Value) (k : Nat → List Value → Option xO) : Option xO := match st with
  | .ref p :: r => k p r
  | _ => none
def xi9 (st : List Value) (k : Int64 → Nat → List Value → Option xO) : Option xO := match st with
  | .long x :: .ref p :: r => k x p r
  | _ => none
def xil (v : Option Value) (k : Int32 → Option xO) : Option xO := match v with
  | some (.int x) => k x
  | _ => none
def xll (v : Option Value) (k : Int64 → Option xO) : Option xO := match v with
  | some (.long x) => k x
  | _ => none
def xrl (v : Option Value) (k : Nat → Option xO) : Option xO := match v with
  | some (.ref x) => k x
  | _ => none
/-- an array, of the world or never written: its length and contents -/
def xar (Ly : xLy) (s : xS) (z : Bool) (p : Nat) (k : Nat → (Nat → Int32) → Option xO) : Option xO := match Ly[p]? with
  | some (.inl b) => cond (b.1 == z) (k b.2 (s.1 p)) none
  | some (.inr _) => none
  | none => match xRA p with
    | some b => cond (b.1 == z) (k b.2.1 b.2.2) none
    | none => none
/-- an array of the world, to be written -/
def xaw (Ly : xLy) (z : Bool) (p : Nat) (k : Nat → Option xO) : Option xO := match Ly[p]? with
  | some (.inl b) => cond (b.1 == z) (k b.2) none
  | _ => none
def xob (Ly : xLy) (p ci b : Nat) (k : Nat ⊕ Nat → Option xO) : Option xO := match Ly[p]? with
  | some (.inr o) => cond (Nat.beq o.1 ci) (match o.2[b]? with | some f => k f | none => none) none
  | _ => none
def xck (c : Prop) [Decidable c] (k : Option xO) : Option xO := if c then none else k
def xsw (pc : Nat) (x : Int32) : Int → List Int → Nat → Nat
  | _, [], d => d
  | k, o :: os, d => if x = Int32.ofInt k then ((pc : Int) + o).toNat else xsw pc x (k + 1) os d
def xsl (pc : Nat) (x : Int32) : List (Int × Int) → Nat → Nat
  | [], d => d
  | o :: os, d => if x = Int32.ofInt o.1 then ((pc : Int) + o.2).toNat else xsl pc x os d
def xcat (st : List Value) : Nat := (st.map fun v => v.category).sum
/-- one instruction; z: the method answers a boolean -/
def xstep (Ly : xLy) (z : Bool) (pc : Nat) (e : xEnt) (lv : xLv) (st : List Value) (s : xS) : Option xO := match e.1 with
  | .iconst n => xnx (pc + 1) lv (.int (Int32.ofInt n) :: st) s
  | .bipush n => xnx (pc + 2) lv (.int (Int8.ofInt n).toInt32 :: st) s
  | .sipush n => xnx (pc + 3) lv (.int (Int16.ofInt n).toInt32 :: st) s
  | .lconst n => xnx (pc + 1) lv (.long (Int64.ofNat (n : Nat)) :: st) s
  | .iload_n k => xil (xl lv (k : Nat)) fun x => xnx (pc + 1) lv (.int x :: st) s
  | .iload k => xil (xl lv k) fun x => xnx (pc + 2) lv (.int x :: st) s
  | .lload_n k => xll (xl lv (k : Nat)) fun x => xnx (pc + 1) lv (.long x :: st) s
  | .lload k => xll (xl lv k) fun x => xnx (pc + 2) lv (.long x :: st) s
  | .aload_n k => xrl (xl lv (k : Nat)) fun x => xnx (pc + 1) lv (.ref x :: st) s
  | .aload k => xrl (xl lv k) fun x => xnx (pc + 2) lv (.ref x :: st) s
  | .istore_n k => xi1 st fun x r => xnx (pc + 1) (xput1 lv (k : Nat) (.int x)) r s
  | .istore k => xi1 st fun x r => xnx (pc + 2) (xput1 lv k (.int x)) r s
  | .lstore_n k => xi5 st fun x r => xnx (pc + 1) (xput2 lv (k : Nat) (.long x)) r s
  | .lstore k => xi5 st fun x r => xnx (pc + 2) (xput2 lv k (.long x)) r s
  | .astore_n k => xi8 st fun x r => xnx (pc + 1) (xput1 lv (k : Nat) (.ref x)) r s
  | .iinc k n => xil (xl lv k) fun x => xnx (pc + 3) (xput1 lv k (.int (x + Int32.ofInt n))) st s
  | .iadd => xi2 st fun x y r => xnx (pc + 1) lv (.int (x + y) :: r) s
  | .isub => xi2 st fun x y r => xnx (pc + 1) lv (.int (x - y) :: r) s
  | .imul => xi2 st fun x y r => xnx (pc + 1) lv (.int (x * y) :: r) s
  | .iand => xi2 st fun x y r => xnx (pc + 1) lv (.int (x &&& y) :: r) s
  | .ior => xi2 st fun x y r => xnx (pc + 1) lv (.int (x ||| y) :: r) s
  | .ixor => xi2 st fun x y r => xnx (pc + 1) lv (.int (x ^^^ y) :: r) s
  | .idiv => xi2 st fun x y r => xck (y = 0) (xnx (pc + 1) lv (.int (x / y) :: r) s)
  | .irem => xi2 st fun x y r => xck (y = 0) (xnx (pc + 1) lv (.int (x - x / y * y) :: r) s)
  | .ishl => xi2 st fun x y r => xnx (pc + 1) lv (.int (x <<< (y &&& 31)) :: r) s
  | .ishr => xi2 st fun x y r => xnx (pc + 1) lv (.int (x >>> (y &&& 31)) :: r) s
  | .iushr => xi2 st fun x y r => xnx (pc + 1) lv (.int (x.toUInt32 >>> (y.toUInt32 &&& Int32.toUInt32 31)).toInt32 :: r) s
  | .ladd => xi3 st fun x y r => xnx (pc + 1) lv (.long (x + y) :: r) s
  | .lsub => xi3 st fun x y r => xnx (pc + 1) lv (.long (x - y) :: r) s
  | .lmul => xi3 st fun x y r => xnx (pc + 1) lv (.long (x * y) :: r) s
  | .land => xi3 st fun x y r => xnx (pc + 1) lv (.long (x &&& y) :: r) s
  | .lor => xi3 st fun x y r => xnx (pc + 1) lv (.long (x ||| y) :: r) s
  | .ldiv => xi3 st fun x y r => xck (y = 0) (xnx (pc + 1) lv (.long (x / y) :: r) s)
  | .lrem => xi3 st fun x y r => xck (y = 0) (xnx (pc + 1) lv (.long (x - x / y * y) :: r) s)
  | .lcmp => xi3 st fun x y r => xnx (pc + 1) lv (.int (lg_cmp x y) :: r) s
  | .lshl => xi4 st fun x y r => xnx (pc + 1) lv (.long (x <<< (y.toInt64 &&& 63)) :: r) s
  | .lshr => xi4 st fun x y r => xnx (pc + 1) lv (.long (x >>> (y.toInt64 &&& 63)) :: r) s
  | .lushr => xi4 st fun x y r => xnx (pc + 1) lv (.long (x.toUInt64 >>> (y.toInt64.toUInt64 &&& Int64.toUInt64 63)).toInt64 :: r) s
  | .i2l => xi1 st fun x r => xnx (pc + 1) lv (.long x.toInt64 :: r) s
  | .i2b => xi1 st fun x r => xnx (pc + 1) lv (.int x.toInt8.toInt32 :: r) s
  | .i2s => xi1 st fun x r => xnx (pc + 1) lv (.int x.toInt16.toInt32 :: r) s
  | .i2c => xi1 st fun x r => xnx (pc + 1) lv (.int (x.toUInt32 % 65536).toInt32 :: r) s
  | .l2i => xi5 st fun x r => xnx (pc + 1) lv (.int x.toInt32 :: r) s
  | .dup => match st with
    | v :: r => cond (Nat.beq v.category 1) (xnx (pc + 1) lv (v :: v :: r) s) none
    | _ => none
  | .dup2 => match st with
    | v :: w :: r => cond (Nat.beq v.category 1 && Nat.beq w.category 1) (xnx (pc + 1) lv (v :: w :: v :: w :: r) s) none
    | _ => none
  | .goto _ => xnx e.2.2.1 lv st s
  | .ifCond c _ => xi1 st fun x r => match c with
    | .eq => if x = 0 then xnx e.2.2.1 lv r s else xnx (pc + 3) lv r s
    | .ne => if x = 0 then xnx (pc + 3) lv r s else xnx e.2.2.1 lv r s
    | .lt => if x < 0 then xnx e.2.2.1 lv r s else xnx (pc + 3) lv r s
    | .ge => if 0 ≤ x then xnx e.2.2.1 lv r s else xnx (pc + 3) lv r s
    | .gt => if 0 < x then xnx e.2.2.1 lv r s else xnx (pc + 3) lv r s
    | .le => if x ≤ 0 then xnx e.2.2.1 lv r s else xnx (pc + 3) lv r s
  | .if_icmp c _ => xi2 st fun x y r => match c with
    | .eq => if x = y then xnx e.2.2.1 lv r s else xnx (pc + 3) lv r s
    | .ne => if x = y then xnx (pc + 3) lv r s else xnx e.2.2.1 lv r s
    | .lt => if x < y then xnx e.2.2.1 lv r s else xnx (pc + 3) lv r s
    | .ge => if y ≤ x then xnx e.2.2.1 lv r s else xnx (pc + 3) lv r s
    | .gt => if y < x then xnx e.2.2.1 lv r s else xnx (pc + 3) lv r s
    | .le => if x ≤ y then xnx e.2.2.1 lv r s else xnx (pc + 3) lv r s
  | .tableswitch d lo _ os => xi1 st fun x r => xnx (xsw pc x lo os.toList ((pc : Int) + d).toNat) lv r s
  | .lookupswitch d ps => xi1 st fun x r => xnx (xsl pc x ps.toList ((pc : Int) + d).toNat) lv r s
  | .ldc _ => cond (Nat.beq e.2.2.2.1 1) (xnx (pc + 2) lv (.ref e.2.2.1 :: st) s) (match xK[e.2.2.1]? with | some v => xnx (pc + 2) lv (.int v :: st) s | none => none)
  | .ldc_w _ => match xK[e.2.2.1]? with | some v => xnx (pc + 3) lv (.int v :: st) s | none => none
  | .ldc2_w _ => match xKL[e.2.2.1]? with | some v => xnx (pc + 3) lv (.long v :: st) s | none => none
  | .getstatic _ => match xSt e.2.2.1 with | some v => xnx (pc + 3) lv (v :: st) s | none => none
  | .getfield _ => cond (Nat.beq e.2.2.1 99)
      (xi8 st fun p r => cond (Nat.beq p 1002 || Nat.beq p 1003) (cond (Nat.beq e.2.2.2.1 0) (xnx (pc + 3) lv (.ref (p + 2) :: r) s) (xnx (pc + 3) lv (.int 0 :: r) s)) none)
      (xi8 st fun p r => xob Ly p e.2.2.1 e.2.2.2.1 fun f => xnx (pc + 3) lv (xfa s p e.2.2.2.1 f :: r) s)
  | .putfield _ => match st with
    | .int x :: .ref p :: r => xob Ly p e.2.2.1 e.2.2.2.1 fun f => match f with
      | .inr 0 => xnx (pc + 3) lv r (xu s p e.2.2.2.1 x)
      | .inr 2 => if x = 0 ∨ x = 1 then xnx (pc + 3) lv r (xu s p e.2.2.2.1 x) else none
      | _ => none
    | .long x :: .ref p :: r => xob Ly p e.2.2.1 e.2.2.2.1 fun f => match f with
      | .inr 1 => xnx (pc + 3) lv r (xul s p e.2.2.2.1 x)
      | _ => none
    | _ => none
  | .iaload => xi6 st fun i p r => xar Ly s false p fun n f => xck (i < 0 ∨ n ≤ i.toNatClampNeg) (xnx (pc + 1) lv (.int (f i.toNatClampNeg) :: r) s)
  | .baload => xi6 st fun i p r => xar Ly s true p fun n f => xck (i < 0 ∨ n ≤ i.toNatClampNeg) (xnx (pc + 1) lv (.int (f i.toNatClampNeg) :: r) s)
  | .iastore => xi7 st fun x i p r => xaw Ly false p fun n => xck (i < 0 ∨ n ≤ i.toNatClampNeg) (xnx (pc + 1) lv r (xu s p i.toNatClampNeg x))
  | .bastore => xi7 st fun x i p r => xaw Ly true p fun n => xck (i < 0 ∨ n ≤ i.toNatClampNeg) (xnx (pc + 1) lv r (xu s p i.toNatClampNeg (vp_nar .boolean x)))
  | .arraylength => xi8 st fun p r => match Ly[p]? with
    | some (.inl b) => xnx (pc + 1) lv (.int (Int32.ofNat b.2) :: r) s
    | some (.inr _) => none
    | none => match xRA p with
      | some b => xnx (pc + 1) lv (.int (Int32.ofNat b.2.1) :: r) s
      | none => none
  | .invokestatic _ => cond (Nat.beq e.2.2.1 902)
      (match st with
        | .int n :: .int j :: .ref q :: .int i :: .ref p :: r => xaw Ly false p fun np => xaw Ly false q fun nq =>
            xck (i < 0 ∨ j < 0 ∨ n < 0 ∨ np < i.toNatClampNeg + n.toNatClampNeg ∨ nq < j.toNatClampNeg + n.toNatClampNeg ∨ 8 < xcat r) (xnx (pc + 3) lv r (xcp s p i.toNatClampNeg q j.toNatClampNeg n.toNatClampNeg))
        | _ => none)
      (cond (Nat.beq e.2.2.1 900)
        (xi2 st fun x y r => cond (Nat.ble (xcat r) 8) (xnx (pc + 3) lv (.int (if y < x then y else x) :: r) s) none)
        (cond (Nat.beq e.2.2.1 901)
          (xi2 st fun x y r => cond (Nat.ble (xcat r) 8) (xnx (pc + 3) lv (.int (if x < y then y else x) :: r) s) none)
          (cond (Nat.ble e.2.2.2.1 st.length && Nat.ble (xcat (st.drop e.2.2.2.1)) 8) (some (.inr (.inl (e.2.2.1, (st.take e.2.2.2.1).reverse, st.drop e.2.2.2.1)))) none)))
  | .invokevirtual _ => match st.drop e.2.2.2.1 with
    | .ref p :: r => cond (Nat.ble (xcat r) 8) (some (.inr (.inl (e.2.2.1, .ref p :: (st.take e.2.2.2.1).reverse, r)))) none
    | _ => none
  | .return_ => match st with
    | [] => some (.inr (.inr none))
    | _ => none
  | .ireturn => match st with
    | [.int v] => if z = true ∧ ¬ v = 0 ∧ ¬ v = 1 then none else some (.inr (.inr (some (.int v))))
    | _ => none
  | .lreturn => match st with
    | [.long v] => some (.inr (.inr (some (.long v))))
    | _ => none
  | .areturn => match st with
    | [.ref v] => some (.inr (.inr (some (.ref v))))
    | _ => none
  | _ => none
