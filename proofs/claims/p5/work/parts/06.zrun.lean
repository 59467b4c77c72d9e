abbrev zI : Type := Nat × Nat × Nat × Nat × Int32
def z_li (lv : zL) (a : Nat) (f : Int32 → Prop) : Prop := match lv[a]? with
  | some (some (.int x)) => f x
  | _ => False
def z_la (lv : zL) (a : Nat) (f : Nat → Prop) : Prop := match lv[a]? with
  | some (some (.ref x)) => f x
  | _ => False
def z_ll (lv : zL) (a : Nat) (f : Int64 → Prop) : Prop := match lv[a]? with
  | some (some (.long x)) => f x
  | _ => False
def z_1i (st : List Value) (f : Int32 → List Value → Prop) : Prop := match st with
  | .int x :: r => f x r
  | _ => False
def z_2i (st : List Value) (f : Int32 → Int32 → List Value → Prop) : Prop := match st with
  | .int y :: .int x :: r => f x y r
  | _ => False
def z_1l (st : List Value) (f : Int64 → List Value → Prop) : Prop := match st with
  | .long x :: r => f x r
  | _ => False
def z_2l (st : List Value) (f : Int64 → Int64 → List Value → Prop) : Prop := match st with
  | .long y :: .long x :: r => f x y r
  | _ => False
def z_lsi (st : List Value) (f : Int64 → Int32 → List Value → Prop) : Prop := match st with
  | .int y :: .long x :: r => f x y r
  | _ => False
def z_1a (st : List Value) (f : Nat → List Value → Prop) : Prop := match st with
  | .ref a :: r => f a r
  | _ => False
def z_ia (st : List Value) (f : Nat → Int32 → List Value → Prop) : Prop := match st with
  | .int i :: .ref a :: r => f a i r
  | _ => False
def z_aa (st : List Value) (f : Nat → Nat → List Value → Prop) : Prop := match st with
  | .ref x :: .ref a :: r => f a x r
  | _ => False
def z_iia (st : List Value) (f : Nat → Int32 → Int32 → List Value → Prop) : Prop := match st with
  | .int x :: .int i :: .ref a :: r => f a i x r
  | _ => False
def z_lia (st : List Value) (f : Nat → Int32 → Int64 → List Value → Prop) : Prop := match st with
  | .long x :: .int i :: .ref a :: r => f a i x r
  | _ => False
def z_d1 (st : List Value) (f : Value → List Value → Prop) : Prop := match st with
  | .int x :: r => f (.int x) r
  | .ref x :: r => f (.ref x) r
  | _ => False
def z_dia (st : List Value) (f : Nat → Int32 → List Value → Prop) : Prop := match st with
  | .int i :: .ref a :: r => f a i r
  | _ => False
def z_e1 (st : List Value) (f : Int32 → Prop) : Prop := match st with
  | [.int x] => f x
  | _ => False
def z_e2 (st : List Value) (f : Int64 → Prop) : Prop := match st with
  | [.long x] => f x
  | _ => False
def z_e0 (st : List Value) (f : Prop) : Prop := match st with
  | [] => f
  | _ => False
def z_ar0 (w : zW) (a : Nat) (f : Nat → (Nat → Int32) → Prop) : Prop := match w.2 a with
  | some (.inl (0, n, .inl g)) => f n g
  | _ => False
def z_ar1 (w : zW) (a : Nat) (f : Nat → (Nat → Int32) → Prop) : Prop := match w.2 a with
  | some (.inl (1, n, .inl g)) => f n g
  | _ => False
def z_ar2 (w : zW) (a : Nat) (f : Nat → (Nat → Int64) → Prop) : Prop := match w.2 a with
  | some (.inl (2, n, .inr (.inl g))) => f n g
  | _ => False
def z_ob (w : zW) (a ci : Nat) (f : List Value → Prop) : Prop := match w.2 a with
  | some (.inr (c, fs)) => c = ci ∧ f fs
  | _ => False
def z_fl (fs : List Value) (k : Nat) (f : Value → Prop) : Prop := match fs[k]? with
  | some v => f v
  | none => False

def z_step (op a b n : Nat) (v : Int32) (pc : Nat) (lv : zL) (st : List Value) (w : zW) (nx K : Nat → zL → List Value → zW → Prop) (Rt : Option Value → zW → Prop) : Prop := match op with
  | 0 => z_li lv a (fun x => nx n lv (.int x :: st) w)
  | 1 => z_la lv a (fun x => nx n lv (.ref x :: st) w)
  | 2 => z_ll lv a (fun x => nx n lv (.long x :: st) w)
  | 3 => z_1i st (fun x r => z_ok1 lv a = true ∧ nx n (lv.set a (some (.int x))) r w)
  | 4 => z_1a st (fun x r => z_ok1 lv a = true ∧ nx n (lv.set a (some (.ref x))) r w)
  | 5 => z_1l st (fun x r => z_ok1 lv a = true ∧ nx n ((lv.set a (some (.long x))).set (a + 1) none) r w)
  | 6 => nx n lv (.int v :: st) w
  | 7 => z_li lv a (fun x => z_ok1 lv a = true ∧ nx n (lv.set a (some (.int (x + v)))) st w)
  | 8 => z_2i st (fun x y r => nx n lv (.int (x + y) :: r) w)
  | 9 => z_2i st (fun x y r => nx n lv (.int (x - y) :: r) w)
  | 10 => z_2i st (fun x y r => nx n lv (.int (x * y) :: r) w)
  | 11 => z_2i st (fun x y r => nx n lv (.int (x &&& y) :: r) w)
  | 12 => z_2i st (fun x y r => nx n lv (.int (x ||| y) :: r) w)
  | 13 => z_2i st (fun x y r => nx n lv (.int (x ^^^ y) :: r) w)
  | 14 => z_1i st (fun x r => nx n lv (.int (-x) :: r) w)
  | 15 => z_2i st (fun x y r => ¬ y = 0 ∧ nx n lv (.int (x / y) :: r) w)
  | 16 => z_2i st (fun x y r => ¬ y = 0 ∧ nx n lv (.int (x - x / y * y) :: r) w)
  | 17 => z_2l st (fun x y r => nx n lv (.long (x + y) :: r) w)
  | 18 => z_2l st (fun x y r => nx n lv (.long (x * y) :: r) w)
  | 19 => z_1l st (fun x r => nx n lv (.long (-x) :: r) w)
  | 20 => z_2l st (fun x y r => nx n lv (.long (x ||| y) :: r) w)
  | 21 => z_2l st (fun x y r => nx n lv (.long (x - y) :: r) w)
  | 22 => z_2i st (fun x y r => nx n lv (.int (x >>> (y &&& 31)) :: r) w)
  | 23 => z_2i st (fun x y r => nx n lv (.int (x <<< (y &&& 31)) :: r) w)
  | 24 => z_lsi st (fun x y r => nx n lv (.long (x <<< (y.toInt64 &&& 63)) :: r) w)
  | 25 => z_1i st (fun x r => nx n lv (.long x.toInt64 :: r) w)
  | 26 => z_1i st (fun x r => nx n lv (.int x.toInt8.toInt32 :: r) w)
  | 28 => z_2l st (fun x y r => nx n lv (.int (lg_cmp x y) :: r) w)
  | 29 => z_d1 st (fun x r => nx n lv (x :: x :: r) w)
  | 30 => z_d1 st (fun _ r => nx n lv r w)
  | 32 => z_dia st (fun x i r => nx n lv (.int i :: .ref x :: .int i :: .ref x :: r) w)
  | 33 => nx a lv st w
  | 34 => z_1i st (fun x r => (x = 0 → nx a lv r w) ∧ (¬ x = 0 → nx n lv r w))
  | 35 => z_1i st (fun x r => (¬ x = 0 → nx a lv r w) ∧ (x = 0 → nx n lv r w))
  | 36 => z_1i st (fun x r => (x < 0 → nx a lv r w) ∧ (¬ x < 0 → nx n lv r w))
  | 37 => z_1i st (fun x r => (0 ≤ x → nx a lv r w) ∧ (¬ 0 ≤ x → nx n lv r w))
  | 38 => z_1i st (fun x r => (0 < x → nx a lv r w) ∧ (¬ 0 < x → nx n lv r w))
  | 39 => z_1i st (fun x r => (x ≤ 0 → nx a lv r w) ∧ (¬ x ≤ 0 → nx n lv r w))
  | 40 => z_2i st (fun x y r => (x = y → nx a lv r w) ∧ (¬ x = y → nx n lv r w))
  | 41 => z_2i st (fun x y r => (¬ x = y → nx a lv r w) ∧ (x = y → nx n lv r w))
  | 42 => z_2i st (fun x y r => (x < y → nx a lv r w) ∧ (¬ x < y → nx n lv r w))
  | 43 => z_2i st (fun x y r => (y ≤ x → nx a lv r w) ∧ (¬ y ≤ x → nx n lv r w))
  | 44 => z_2i st (fun x y r => (y < x → nx a lv r w) ∧ (¬ y < x → nx n lv r w))
  | 45 => z_2i st (fun x y r => (x ≤ y → nx a lv r w) ∧ (¬ x ≤ y → nx n lv r w))
  | 46 => z_1a st (fun x r => z_ob w x a (fun fs => z_fl fs b (fun u => nx n lv (u :: r) w)))
  | 47 => z_ia st (fun x i r => z_ob w x a (fun fs => b < fs.length ∧ nx n lv r (z_up w x (.inr (a, fs.set b (.int i))))))
  | 48 => z_ia st (fun x i r => z_ar0 w x (fun m g => vp_in i m ∧ nx n lv (.int (g i.toNatClampNeg) :: r) w))
  | 49 => z_iia st (fun x i u r => z_ar0 w x (fun m g => vp_in i m ∧ nx n lv r (z_up w x (.inl (0, m, .inl (upd g i.toNatClampNeg u))))))
  | 50 => z_ia st (fun x i r => z_ar1 w x (fun m g => vp_in i m ∧ nx n lv (.int (g i.toNatClampNeg) :: r) w))
  | 51 => z_iia st (fun x i u r => z_ar1 w x (fun m g => vp_in i m ∧ nx n lv r (z_up w x (.inl (1, m, .inl (upd g i.toNatClampNeg (vp_nar .boolean u)))))))
  | 52 => z_1a st (fun x r => z_ar0 w x (fun m _ => nx n lv (.int (Int32.ofNat m) :: r) w))
  | 53 => z_e1 st (fun x => Rt (some (.int x)) w)
  | 54 => z_e2 st (fun x => Rt (some (.long x)) w)
  | 55 => z_e0 st (Rt none w)
  | 57 => nx n lv (.long v.toInt64 :: st) w
  | 58 => z_e1 st (fun x => (x = 0 ∨ x = 1) ∧ Rt (some (.int x)) w)
  | 61 => z_aa st (fun x y r => z_ob w x a (fun fs => b < fs.length ∧ nx n lv r (z_up w x (.inr (a, fs.set b (.ref y))))))
  | 62 => z_ia st (fun x i r => z_ob w x a (fun fs => b < fs.length ∧ (i = 0 ∨ i = 1) ∧ nx n lv r (z_up w x (.inr (a, fs.set b (.int i))))))
  | 63 => z_ia st (fun x i r => z_ar2 w x (fun m g => vp_in i m ∧ nx n lv (.long (g i.toNatClampNeg) :: r) w))
  | 64 => z_lia st (fun x i u r => z_ar2 w x (fun m g => vp_in i m ∧ nx n lv r (z_up w x (.inl (2, m, .inr (.inl (vp_updL g i.toNatClampNeg u)))))))
  | _ => K pc lv st w
def z_in : List Nat → Nat → Bool
  | [], _ => false
  | x :: xs, pc => if pc = x then true else z_in xs pc
def z_st1 (t : zI) (pc : Nat) (lv : zL) (st : List Value) (w : zW) (nx K : Nat → zL → List Value → zW → Prop) (Rt : Option Value → zW → Prop) : Prop := match t with
  | (op, a, b, n, v) => z_step op a b n v pc lv st w nx K Rt
def z_run (tb : Nat → zI) (cut : List Nat) (K : Nat → zL → List Value → zW → Prop) (Rt : Option Value → zW → Prop) : Nat → Nat → zL → List Value → zW → Prop
  | 0, pc, lv, st, w => K pc lv st w
  | k + 1, pc, lv, st, w => if z_in cut pc = true then K pc lv st w else z_st1 (tb pc) pc lv st w (z_run tb cut K Rt k) K Rt
def z_lk (own : String) (Ts : List Cond) (idx ci k : Nat) : Bool := match vwCl[ci]? with
  | some (C, T, N) => decide (k < N) && decide (Cond.fieldLink own idx (T k).1 (T k).2.1 (T k).2.2.1 ∈ Ts) && decide (∀ x ∈ u_ws C T N, x ∈ Ts)
  | none => false
def z_pk (ci k : Nat) (ok : FieldType → Bool) : Bool := match vwCl[ci]? with
  | some (_, T, N) => (T k).2.2.2 == false && (match parseFieldDescriptor (T k).2.2.1 with
    | some ty => ok ty
    | none => false) && decide (∀ j, j < N → (parseFieldDescriptor (T j).2.2.1).isSome = true) && decide (∀ a, a < N → ∀ b, b < N → a ≠ b → (T a).2.1 ≠ (T b).2.1)
  | none => false
def z_tr (ty : FieldType) : Bool := match ty with
  | .object _ => true
  | .array _ => true
  | _ => false
def z_ti (ty : FieldType) : Bool := match ty with
  | .int => true
  | _ => false
def z_tz (ty : FieldType) : Bool := match ty with
  | .boolean => true
  | _ => false

def z_chk (own : String) (Ts : List Cond) (nL : Nat) (ret : Option FieldType) (pc : Nat) (i : Instr) (len : Nat) (op a b n : Nat) (v : Int32) : Bool := decide (op = 99) || match i with
  | .iload k => decide (op = 0 ∧ n = pc + 2 ∧ len = 2 ∧ a = k)
  | .iload_n k => decide (op = 0 ∧ n = pc + 1 ∧ len = 1 ∧ a = k.val)
  | .aload k => decide (op = 1 ∧ n = pc + 2 ∧ len = 2 ∧ a = k)
  | .aload_n k => decide (op = 1 ∧ n = pc + 1 ∧ len = 1 ∧ a = k.val)
  | .lload k => decide (op = 2 ∧ n = pc + 2 ∧ len = 2 ∧ a = k)
  | .lload_n k => decide (op = 2 ∧ n = pc + 1 ∧ len = 1 ∧ a = k.val)
  | .istore k => decide (op = 3 ∧ n = pc + 2 ∧ len = 2 ∧ a = k ∧ a < nL)
  | .istore_n k => decide (op = 3 ∧ n = pc + 1 ∧ len = 1 ∧ a = k.val ∧ a < nL)
  | .astore k => decide (op = 4 ∧ n = pc + 2 ∧ len = 2 ∧ a = k ∧ a < nL)
  | .astore_n k => decide (op = 4 ∧ n = pc + 1 ∧ len = 1 ∧ a = k.val ∧ a < nL)
  | .lstore k => decide (op = 5 ∧ n = pc + 2 ∧ len = 2 ∧ a = k ∧ a + 1 < nL)
  | .lstore_n k => decide (op = 5 ∧ n = pc + 1 ∧ len = 1 ∧ a = k.val ∧ a + 1 < nL)
  | .iconst z => decide (op = 6 ∧ n = pc + 1 ∧ len = 1 ∧ v = Int32.ofInt z)
  | .bipush z => decide (op = 6 ∧ n = pc + 2 ∧ len = 2 ∧ v = (Int8.ofInt z).toInt32)
  | .sipush z => decide (op = 6 ∧ n = pc + 3 ∧ len = 3 ∧ v = (Int16.ofInt z).toInt32)
  | .lconst z => decide (op = 57 ∧ n = pc + 1 ∧ len = 1 ∧ v.toInt64 = Int64.ofNat z.val)
  | .ldc2_w k => decide (op = 57 ∧ n = pc + 3 ∧ len = 3 ∧ Cond.constantLong own k v.toInt64 ∈ Ts)
  | .iinc k z => decide (op = 7 ∧ n = pc + 3 ∧ len = 3 ∧ a = k ∧ a < nL ∧ v = Int32.ofInt z)
  | .iadd => decide (op = 8 ∧ n = pc + 1 ∧ len = 1)
  | .isub => decide (op = 9 ∧ n = pc + 1 ∧ len = 1)
  | .imul => decide (op = 10 ∧ n = pc + 1 ∧ len = 1)
  | .iand => decide (op = 11 ∧ n = pc + 1 ∧ len = 1)
  | .ior => decide (op = 12 ∧ n = pc + 1 ∧ len = 1)
  | .ixor => decide (op = 13 ∧ n = pc + 1 ∧ len = 1)
  | .ineg => decide (op = 14 ∧ n = pc + 1 ∧ len = 1)
  | .idiv => decide (op = 15 ∧ n = pc + 1 ∧ len = 1)
  | .irem => decide (op = 16 ∧ n = pc + 1 ∧ len = 1)
  | .ladd => decide (op = 17 ∧ n = pc + 1 ∧ len = 1)
  | .lmul => decide (op = 18 ∧ n = pc + 1 ∧ len = 1)
  | .lor => decide (op = 20 ∧ n = pc + 1 ∧ len = 1)
  | .lsub => decide (op = 21 ∧ n = pc + 1 ∧ len = 1)
  | .lneg => decide (op = 19 ∧ n = pc + 1 ∧ len = 1)
  | .ishr => decide (op = 22 ∧ n = pc + 1 ∧ len = 1)
  | .ishl => decide (op = 23 ∧ n = pc + 1 ∧ len = 1)
  | .lshl => decide (op = 24 ∧ n = pc + 1 ∧ len = 1)
  | .i2l => decide (op = 25 ∧ n = pc + 1 ∧ len = 1)
  | .i2b => decide (op = 26 ∧ n = pc + 1 ∧ len = 1)
  | .lcmp => decide (op = 28 ∧ n = pc + 1 ∧ len = 1)
  | .dup => decide (op = 29 ∧ n = pc + 1 ∧ len = 1)
  | .pop => decide (op = 30 ∧ n = pc + 1 ∧ len = 1)
  | .dup2 => decide (op = 32 ∧ n = pc + 1 ∧ len = 1)
  | .goto o => decide (op = 33 ∧ len = 3 ∧ (pc : Int) + o = (a : Int))
  | .ifCond .eq o => decide (op = 34 ∧ n = pc + 3 ∧ len = 3 ∧ (pc : Int) + o = (a : Int))
  | .if_icmp .eq o => decide (op = 40 ∧ n = pc + 3 ∧ len = 3 ∧ (pc : Int) + o = (a : Int))
  | .ifCond .ne o => decide (op = 35 ∧ n = pc + 3 ∧ len = 3 ∧ (pc : Int) + o = (a : Int))
  | .if_icmp .ne o => decide (op = 41 ∧ n = pc + 3 ∧ len = 3 ∧ (pc : Int) + o = (a : Int))
  | .ifCond .lt o => decide (op = 36 ∧ n = pc + 3 ∧ len = 3 ∧ (pc : Int) + o = (a : Int))
  | .if_icmp .lt o => decide (op = 42 ∧ n = pc + 3 ∧ len = 3 ∧ (pc : Int) + o = (a : Int))
  | .ifCond .ge o => decide (op = 37 ∧ n = pc + 3 ∧ len = 3 ∧ (pc : Int) + o = (a : Int))
  | .if_icmp .ge o => decide (op = 43 ∧ n = pc + 3 ∧ len = 3 ∧ (pc : Int) + o = (a : Int))
  | .ifCond .gt o => decide (op = 38 ∧ n = pc + 3 ∧ len = 3 ∧ (pc : Int) + o = (a : Int))
  | .if_icmp .gt o => decide (op = 44 ∧ n = pc + 3 ∧ len = 3 ∧ (pc : Int) + o = (a : Int))
  | .ifCond .le o => decide (op = 39 ∧ n = pc + 3 ∧ len = 3 ∧ (pc : Int) + o = (a : Int))
  | .if_icmp .le o => decide (op = 45 ∧ n = pc + 3 ∧ len = 3 ∧ (pc : Int) + o = (a : Int))
  | .getfield k => decide (op = 46 ∧ n = pc + 3 ∧ len = 3) && (z_lk own Ts k a b)
  | .putfield k => (z_lk own Ts k a b && ((decide (op = 47 ∧ n = pc + 3 ∧ len = 3) && z_pk a b z_ti) || (decide (op = 61 ∧ n = pc + 3 ∧ len = 3) && z_pk a b z_tr) || (decide (op = 62 ∧ n = pc + 3 ∧ len = 3) && z_pk a b z_tz)))
  | .iaload => decide (op = 48 ∧ n = pc + 1 ∧ len = 1)
  | .laload => decide (op = 63 ∧ n = pc + 1 ∧ len = 1)
  | .baload => decide (op = 50 ∧ n = pc + 1 ∧ len = 1)
  | .iastore => decide (op = 49 ∧ n = pc + 1 ∧ len = 1)
  | .bastore => decide (op = 51 ∧ n = pc + 1 ∧ len = 1)
  | .lastore => decide (op = 64 ∧ n = pc + 1 ∧ len = 1)
  | .arraylength => decide (op = 52 ∧ n = pc + 1 ∧ len = 1)
  | .ireturn => decide (len = 1 ∧ ((op = 53 ∧ ret = some .int) ∨ (op = 58 ∧ ret = some .boolean)))
  | .lreturn => decide (len = 1 ∧ op = 54 ∧ ret = some .long)
  | .return_ => decide (len = 1 ∧ op = 55 ∧ ret = none)
  | _ => false
def z_ck (own : String) (Ts : List Cond) (nL : Nat) (ret : Option FieldType) (cc : ByteArray) (pc : Nat) (t : zI) : Bool := decide (t.1 = 99) || match decode cc pc with
  | .ok (i, len) => z_chk own Ts nL ret pc i len t.1 t.2.1 t.2.2.1 t.2.2.2.1 t.2.2.2.2
  | .error _ => false
/-- the table is the code's, as far as N -/
def z_tab (own : String) (Ts : List Cond) (nL : Nat) (ret : Option FieldType) (cc : ByteArray) (N : Nat) (tb : Nat → zI) : Prop := ∀ pc, z_ck own Ts nL ret cc pc (tb pc) = true

section ZS
variable {G : zG} {cc : ByteArray} {own : String} {Ts : List Cond} {nL : Nat} {Γ : zΓ} {w : zW} {cells slots pc : Nat} {lv : zL} {st : List Value} {rm : Room} {mc ms : Nat} {nm : String} {ret : Option FieldType} {Post : Option Value → zW → Prop}
theorem z_li_ok {a : Nat} {f : Int32 → Prop} (h : z_li lv a f) : ∃ x, lv[a]? = some (some (.int x)) ∧ f x := by
  unfold z_li at h
  split at h
  · exact ⟨_, by assumption, h⟩
  · exact h.elim
theorem z_la_ok {a : Nat} {f : Nat → Prop} (h : z_la lv a f) : ∃ x, lv[a]? = some (some (.ref x)) ∧ f x := by
  unfold z_la at h
  split at h
  · exact ⟨_, by assumption, h⟩
  · exact h.elim
theorem z_ll_ok {a : Nat} {f : Int64 → Prop} (h : z_ll lv a f) : ∃ x, lv[a]? = some (some (.long x)) ∧ f x := by
  unfold z_ll at h
  split at h
  · exact ⟨_, by assumption, h⟩
  · exact h.elim
theorem z_1i_ok {f : Int32 → List Value → Prop} (h : z_1i st f) : ∃ x r, st = .int x :: r ∧ f x r := by
  unfold z_1i at h
  split at h
  · exact ⟨_, _, rfl, h⟩
  · exact h.elim
theorem z_2i_ok {f : Int32 → Int32 → List Value → Prop} (h : z_2i st f) : ∃ x y r, st = .int y :: .int x :: r ∧ f x y r := by
  unfold z_2i at h
  split at h
  · exact ⟨_, _, _, rfl, h⟩
  · exact h.elim
theorem z_1l_ok {f : Int64 → List Value → Prop} (h : z_1l st f) : ∃ x r, st = .long x :: r ∧ f x r := by
  unfold z_1l at h
  split at h
  · exact ⟨_, _, rfl, h⟩
  · exact h.elim
theorem z_2l_ok {f : Int64 → Int64 → List Value → Prop} (h : z_2l st f) : ∃ x y r, st = .long y :: .long x :: r ∧ f x y r := by
  unfold z_2l at h
  split at h
  · exact ⟨_, _, _, rfl, h⟩
  · exact h.elim
theorem z_lsi_ok {f : Int64 → Int32 → List Value → Prop} (h : z_lsi st f) : ∃ x y r, st = .int y :: .long x :: r ∧ f x y r := by
  unfold z_lsi at h
  split at h
  · exact ⟨_, _, _, rfl, h⟩
  · exact h.elim
theorem z_1a_ok {f : Nat → List Value → Prop} (h : z_1a st f) : ∃ x r, st = .ref x :: r ∧ f x r := by
  unfold z_1a at h
  split at h
  · exact ⟨_, _, rfl, h⟩
  · exact h.elim
theorem z_ia_ok {f : Nat → Int32 → List Value → Prop} (h : z_ia st f) : ∃ x i r, st = .int i :: .ref x :: r ∧ f x i r := by
  unfold z_ia at h
  split at h
  · exact ⟨_, _, _, rfl, h⟩
  · exact h.elim
theorem z_aa_ok {f : Nat → Nat → List Value → Prop} (h : z_aa st f) : ∃ x y r, st = .ref y :: .ref x :: r ∧ f x y r := by
  unfold z_aa at h
  split at h
  · exact ⟨_, _, _, rfl, h⟩
  · exact h.elim
theorem z_iia_ok {f : Nat → Int32 → Int32 → List Value → Prop} (h : z_iia st f) : ∃ x i u r, st = .int u :: .int i :: .ref x :: r ∧ f x i u r := by
  unfold z_iia at h
  split at h
  · exact ⟨_, _, _, _, rfl, h⟩
  · exact h.elim
theorem z_lia_ok {f : Nat → Int32 → Int64 → List Value → Prop} (h : z_lia st f) : ∃ x i u r, st = .long u :: .int i :: .ref x :: r ∧ f x i u r := by
  unfold z_lia at h
  split at h
  · exact ⟨_, _, _, _, rfl, h⟩
  · exact h.elim
theorem z_dia_ok {f : Nat → Int32 → List Value → Prop} (h : z_dia st f) : ∃ x i r, st = .int i :: .ref x :: r ∧ f x i r := by
  unfold z_dia at h
  split at h
  · exact ⟨_, _, _, rfl, h⟩
  · exact h.elim
theorem z_e1_ok {f : Int32 → Prop} (h : z_e1 st f) : ∃ x, st = [.int x] ∧ f x := by
  unfold z_e1 at h
  split at h
  · exact ⟨_, rfl, h⟩
  · exact h.elim
theorem z_e2_ok {f : Int64 → Prop} (h : z_e2 st f) : ∃ x, st = [.long x] ∧ f x := by
  unfold z_e2 at h
  split at h
  · exact ⟨_, rfl, h⟩
  · exact h.elim
theorem z_e0_ok {f : Prop} (h : z_e0 st f) : st = [] ∧ f := by
  unfold z_e0 at h
  split at h
  · exact ⟨rfl, h⟩
  · exact h.elim
theorem z_d1_ok {f : Value → List Value → Prop} (h : z_d1 st f) : ∃ x r, st = x :: r ∧ x.category = 1 ∧ f x r := by
  unfold z_d1 at h
  split at h
  · exact ⟨_, _, rfl, rfl, h⟩
  · exact ⟨_, _, rfl, rfl, h⟩
  · exact h.elim
theorem z_ar0_ok {a : Nat} {f : Nat → (Nat → Int32) → Prop} (h : z_ar0 w a f) : ∃ n g, w.2 a = some (.inl (0, n, .inl g)) ∧ f n g := by
  unfold z_ar0 at h
  split at h
  · exact ⟨_, _, by assumption, h⟩
  · exact h.elim
theorem z_ar1_ok {a : Nat} {f : Nat → (Nat → Int32) → Prop} (h : z_ar1 w a f) : ∃ n g, w.2 a = some (.inl (1, n, .inl g)) ∧ f n g := by
  unfold z_ar1 at h
  split at h
  · exact ⟨_, _, by assumption, h⟩
  · exact h.elim
theorem z_ar2_ok {a : Nat} {f : Nat → (Nat → Int64) → Prop} (h : z_ar2 w a f) : ∃ n g, w.2 a = some (.inl (2, n, .inr (.inl g))) ∧ f n g := by
  unfold z_ar2 at h
  split at h
  · exact ⟨_, _, by assumption, h⟩
  · exact h.elim
theorem z_ob_ok {a ci : Nat} {f : List Value → Prop} (h : z_ob w a ci f) : ∃ fs, w.2 a = some (.inr (ci, fs)) ∧ f fs := by
  unfold z_ob at h
  split at h
  · obtain ⟨rfl, h⟩ := h; exact ⟨_, by assumption, h⟩
  · exact h.elim
theorem z_fl_ok {fs : List Value} {k : Nat} {f : Value → Prop} (h : z_fl fs k f) : ∃ v, fs[k]? = some v ∧ f v := by
  unfold z_fl at h
  split at h
  · exact ⟨_, by assumption, h⟩
  · exact h.elim
theorem z_lk_ok {idx ci k : Nat} (h : z_lk own Ts idx ci k = true) : ∃ C T N, vwCl[ci]? = some (C, T, N) ∧ k < N ∧ Cond.fieldLink own idx (T k).1 (T k).2.1 (T k).2.2.1 ∈ Ts ∧ ∀ x ∈ u_ws C T N, x ∈ Ts := by
  unfold z_lk at h
  split at h
  · simp only [Bool.and_eq_true, decide_eq_true_eq] at h
    exact ⟨_, _, _, by assumption, h.1.1, h.1.2, h.2⟩
  · cases h
theorem z_pk_ok {ci k : Nat} {ok : FieldType → Bool} (h : z_pk ci k ok = true) {C : String} {T : u_T} {N : Nat} (hc : vwCl[ci]? = some (C, T, N)) : (T k).2.2.2 = false ∧ (∃ ty, parseFieldDescriptor (T k).2.2.1 = some ty ∧ ok ty = true) ∧ (∀ j, j < N → parseFieldDescriptor (T j).2.2.1 = some ((parseFieldDescriptor (T j).2.2.1).getD .int)) ∧ ∀ a, a < N → ∀ b, b < N → a ≠ b → (T a).2.1 ≠ (T b).2.1 := by
  unfold z_pk at h
  rw [hc] at h
  simp only [Bool.and_eq_true, decide_eq_true_eq, beq_iff_eq] at h
  obtain ⟨⟨⟨h1, h2⟩, h3⟩, h4⟩ := h
  refine ⟨h1, ?_, fun j hj => ?_, h4⟩
  · split at h2
    · exact ⟨_, by assumption, h2⟩
    · cases h2
  · obtain ⟨ty, hty⟩ := Option.isSome_iff_exists.mp (h3 j hj)
    rw [hty]; rfl

theorem z_step_ok (C : z_X G cc own Ts nL Γ) (E : z_E G rm mc ms nm ret Post Γ) {op a b n : Nat} {v : Int32} {i : Instr} {len : Nat} (hd : decode cc pc = .ok (i, len)) (hck : z_chk own Ts nL ret pc i len op a b n v = true) (hc : cells ≤ mc) (hs : slots ≤ ms) {nx K : Nat → zL → List Value → zW → Prop}
    (hnx : ∀ pc lv st w, nx pc lv st w → z_J G nL Γ w cells slots pc lv st) (hK : ∀ pc lv st w, K pc lv st w → z_J G nL Γ w cells slots pc lv st) (h : z_step op a b n v pc lv st w nx K Post) : z_J G nL Γ w cells slots pc lv st := by
  by_cases h99 : op = 99
  · subst h99
    exact hK _ _ _ _ h
  have hx := C.1.1
  have hb := C.1.2.1
  have hown := C.1.2.2.2.1
  have hts := C.1.2.2.2.2
  simp only [z_chk, h99, decide_false, Bool.false_or] at hck
  cases i
  case iload k =>
    simp only [decide_eq_true_eq] at hck
    obtain ⟨rfl, rfl, rfl, rfl⟩ := hck
    obtain ⟨x, h1, h2⟩ := z_li_ok h
    intro H locs ls hH hS hl
    exact lv_iload hx hb hd (hl.2.2 _ _ h1) (hnx _ _ _ _ h2 H locs ls hH hS hl)
  case iload_n k =>
    simp only [decide_eq_true_eq] at hck
    obtain ⟨rfl, rfl, rfl, rfl⟩ := hck
    obtain ⟨x, h1, h2⟩ := z_li_ok h
    intro H locs ls hH hS hl
    exact lv_iload_n hx hb hd rfl (hl.2.2 _ _ h1) (hnx _ _ _ _ h2 H locs ls hH hS hl)
  case aload k =>
    simp only [decide_eq_true_eq] at hck
    obtain ⟨rfl, rfl, rfl, rfl⟩ := hck
    obtain ⟨x, h1, h2⟩ := z_la_ok h
    intro H locs ls hH hS hl
    exact lv_aload hx hb hd (hl.2.2 _ _ h1) (hnx _ _ _ _ h2 H locs ls hH hS hl)
  case aload_n k =>
    simp only [decide_eq_true_eq] at hck
    obtain ⟨rfl, rfl, rfl, rfl⟩ := hck
    obtain ⟨x, h1, h2⟩ := z_la_ok h
    intro H locs ls hH hS hl
    exact lv_aload_n hx hb hd rfl (hl.2.2 _ _ h1) (hnx _ _ _ _ h2 H locs ls hH hS hl)
  case lload k =>
    simp only [decide_eq_true_eq] at hck
    obtain ⟨rfl, rfl, rfl, rfl⟩ := hck
    obtain ⟨x, h1, h2⟩ := z_ll_ok h
    intro H locs ls hH hS hl
    exact lv_lload hx hb hd (hl.2.2 _ _ h1) (hnx _ _ _ _ h2 H locs ls hH hS hl)
  case lload_n k =>
    simp only [decide_eq_true_eq] at hck
    obtain ⟨rfl, rfl, rfl, rfl⟩ := hck
    obtain ⟨x, h1, h2⟩ := z_ll_ok h
    intro H locs ls hH hS hl
    exact lv_lload_n hx hb hd rfl (hl.2.2 _ _ h1) (hnx _ _ _ _ h2 H locs ls hH hS hl)
  case istore k =>
    simp only [decide_eq_true_eq] at hck
    obtain ⟨rfl, rfl, rfl, rfl, hlt⟩ := hck
    obtain ⟨x, r, rfl, h1, h2⟩ := z_1i_ok h
    intro H locs ls hH hS hl
    exact lv_istore hx hb hd hl.has hlt rfl (fun ls' hl' => hnx _ _ _ _ h2 H locs ls' hH hS (z_L.st1 h1 hl'))
  case istore_n k =>
    simp only [decide_eq_true_eq] at hck
    obtain ⟨rfl, rfl, rfl, rfl, hlt⟩ := hck
    obtain ⟨x, r, rfl, h1, h2⟩ := z_1i_ok h
    intro H locs ls hH hS hl
    exact lv_istore_n hx hb hd rfl hl.has hlt rfl (fun ls' hl' => hnx _ _ _ _ h2 H locs ls' hH hS (z_L.st1 h1 hl'))
  case astore k =>
    simp only [decide_eq_true_eq] at hck
    obtain ⟨rfl, rfl, rfl, rfl, hlt⟩ := hck
    obtain ⟨x, r, rfl, h1, h2⟩ := z_1a_ok h
    intro H locs ls hH hS hl
    exact lv_astore hx hb hd hl.has hlt rfl (fun ls' hl' => hnx _ _ _ _ h2 H locs ls' hH hS (z_L.st1 h1 hl'))
  case astore_n k =>
    simp only [decide_eq_true_eq] at hck
    obtain ⟨rfl, rfl, rfl, rfl, hlt⟩ := hck
    obtain ⟨x, r, rfl, h1, h2⟩ := z_1a_ok h
    intro H locs ls hH hS hl
    exact lv_astore_n hx hb hd rfl hl.has hlt rfl (fun ls' hl' => hnx _ _ _ _ h2 H locs ls' hH hS (z_L.st1 h1 hl'))
  case lstore k =>
    simp only [decide_eq_true_eq] at hck
    obtain ⟨rfl, rfl, rfl, rfl, hlt⟩ := hck
    obtain ⟨x, r, rfl, h1, h2⟩ := z_1l_ok h
    intro H locs ls hH hS hl
    exact lv_lstore hx hb hd hl.has hlt rfl (fun ls' hl' => hnx _ _ _ _ h2 H locs ls' hH hS (z_L.st2 h1 hl'))
  case lstore_n k =>
    simp only [decide_eq_true_eq] at hck
    obtain ⟨rfl, rfl, rfl, rfl, hlt⟩ := hck
    obtain ⟨x, r, rfl, h1, h2⟩ := z_1l_ok h
    intro H locs ls hH hS hl
    exact lv_lstore_n hx hb hd rfl hl.has hlt rfl (fun ls' hl' => hnx _ _ _ _ h2 H locs ls' hH hS (z_L.st2 h1 hl'))
  case iconst z =>
    simp only [decide_eq_true_eq] at hck
    obtain ⟨rfl, rfl, rfl, rfl⟩ := hck
    intro H locs ls hH hS hl
    exact lv_iconst hx hb hd rfl (hnx _ _ _ _ h H locs ls hH hS hl)
  case bipush z =>
    simp only [decide_eq_true_eq] at hck
    obtain ⟨rfl, rfl, rfl, rfl⟩ := hck
    intro H locs ls hH hS hl
    exact lv_bipush hx hb hd rfl (hnx _ _ _ _ h H locs ls hH hS hl)
  case sipush z =>
    simp only [decide_eq_true_eq] at hck
    obtain ⟨rfl, rfl, rfl, rfl⟩ := hck
    intro H locs ls hH hS hl
    exact lv_sipush hx hb hd rfl (hnx _ _ _ _ h H locs ls hH hS hl)
  case lconst z =>
    simp only [decide_eq_true_eq] at hck
    obtain ⟨rfl, rfl, rfl, hv⟩ := hck
    intro H locs ls hH hS hl
    exact lv_lconst hx hb hd hv.symm (hnx _ _ _ _ h H locs ls hH hS hl)
  case ldc2_w k =>
    simp only [decide_eq_true_eq] at hck
    obtain ⟨rfl, rfl, rfl, hv⟩ := hck
    intro H locs ls hH hS hl
    exact lv_ldc2 hx hb hown (hts _ hv) hd (hnx _ _ _ _ h H locs ls hH hS hl)
  case iinc k z =>
    simp only [decide_eq_true_eq] at hck
    obtain ⟨rfl, rfl, rfl, rfl, hlt, rfl⟩ := hck
    obtain ⟨x, h1, h2, h3⟩ := z_li_ok h
    intro H locs ls hH hS hl
    obtain ⟨j, hj⟩ := List.getElem?_of_mem (z_as_mem.mpr h1)
    exact lv_iinc hx hb hd hl.has hj rfl hlt rfl (fun ls' hl' => hnx _ _ _ _ h3 H locs ls' hH hS (z_L.st1 h2 hl'))
  case iadd =>
    simp only [decide_eq_true_eq] at hck
    obtain ⟨rfl, rfl, rfl⟩ := hck
    obtain ⟨x, y, r, rfl, h1⟩ := z_2i_ok h
    intro H locs ls hH hS hl
    exact lv_iadd hx hb hd (hnx _ _ _ _ h1 H locs ls hH hS hl)
  case isub =>
    simp only [decide_eq_true_eq] at hck
    obtain ⟨rfl, rfl, rfl⟩ := hck
    obtain ⟨x, y, r, rfl, h1⟩ := z_2i_ok h
    intro H locs ls hH hS hl
    exact lv_isub hx hb hd (hnx _ _ _ _ h1 H locs ls hH hS hl)
  case imul =>
    simp only [decide_eq_true_eq] at hck
    obtain ⟨rfl, rfl, rfl⟩ := hck
    obtain ⟨x, y, r, rfl, h1⟩ := z_2i_ok h
    intro H locs ls hH hS hl
    exact lv_imul hx hb hd (hnx _ _ _ _ h1 H locs ls hH hS hl)
  case iand =>
    simp only [decide_eq_true_eq] at hck
    obtain ⟨rfl, rfl, rfl⟩ := hck
    obtain ⟨x, y, r, rfl, h1⟩ := z_2i_ok h
    intro H locs ls hH hS hl
    exact lv_iand hx hb hd (hnx _ _ _ _ h1 H locs ls hH hS hl)
  case ior =>
    simp only [decide_eq_true_eq] at hck
    obtain ⟨rfl, rfl, rfl⟩ := hck
    obtain ⟨x, y, r, rfl, h1⟩ := z_2i_ok h
    intro H locs ls hH hS hl
    exact lv_ior hx hb hd (hnx _ _ _ _ h1 H locs ls hH hS hl)
  case ixor =>
    simp only [decide_eq_true_eq] at hck
    obtain ⟨rfl, rfl, rfl⟩ := hck
    obtain ⟨x, y, r, rfl, h1⟩ := z_2i_ok h
    intro H locs ls hH hS hl
    exact lv_ixor hx hb hd (hnx _ _ _ _ h1 H locs ls hH hS hl)
  case ineg =>
    simp only [decide_eq_true_eq] at hck
    obtain ⟨rfl, rfl, rfl⟩ := hck
    obtain ⟨x, r, rfl, h1⟩ := z_1i_ok h
    intro H locs ls hH hS hl
    exact lv_ineg hx hb hd (hnx _ _ _ _ h1 H locs ls hH hS hl)
  case idiv =>
    simp only [decide_eq_true_eq] at hck
    obtain ⟨rfl, rfl, rfl⟩ := hck
    obtain ⟨x, y, r, rfl, h0, h1⟩ := z_2i_ok h
    intro H locs ls hH hS hl
    exact lv_idiv hx hb hd h0 (hnx _ _ _ _ h1 H locs ls hH hS hl)
  case irem =>
    simp only [decide_eq_true_eq] at hck
    obtain ⟨rfl, rfl, rfl⟩ := hck
    obtain ⟨x, y, r, rfl, h0, h1⟩ := z_2i_ok h
    intro H locs ls hH hS hl
    exact lv_irem hx hb hd h0 (hnx _ _ _ _ h1 H locs ls hH hS hl)
  case ladd =>
    simp only [decide_eq_true_eq] at hck
    obtain ⟨rfl, rfl, rfl⟩ := hck
    obtain ⟨x, y, r, rfl, h1⟩ := z_2l_ok h
    intro H locs ls hH hS hl
    exact lv_ladd hx hb hd (hnx _ _ _ _ h1 H locs ls hH hS hl)
  case lmul =>
    simp only [decide_eq_true_eq] at hck
    obtain ⟨rfl, rfl, rfl⟩ := hck
    obtain ⟨x, y, r, rfl, h1⟩ := z_2l_ok h
    intro H locs ls hH hS hl
    exact lv_lmul hx hb hd (hnx _ _ _ _ h1 H locs ls hH hS hl)
  case lor =>
    simp only [decide_eq_true_eq] at hck
    obtain ⟨rfl, rfl, rfl⟩ := hck
    obtain ⟨x, y, r, rfl, h1⟩ := z_2l_ok h
    intro H locs ls hH hS hl
    exact lv_lor hx hb hd (hnx _ _ _ _ h1 H locs ls hH hS hl)
  case lsub =>
    simp only [decide_eq_true_eq] at hck
    obtain ⟨rfl, rfl, rfl⟩ := hck
    obtain ⟨x, y, r, rfl, h1⟩ := z_2l_ok h
    intro H locs ls hH hS hl
    exact lv_lsub hx hb hd (hnx _ _ _ _ h1 H locs ls hH hS hl)
  case lneg =>
    simp only [decide_eq_true_eq] at hck
    obtain ⟨rfl, rfl, rfl⟩ := hck
    obtain ⟨x, r, rfl, h1⟩ := z_1l_ok h
    intro H locs ls hH hS hl
    exact lv_lneg hx hb hd (hnx _ _ _ _ h1 H locs ls hH hS hl)
  case ishr =>
    simp only [decide_eq_true_eq] at hck
    obtain ⟨rfl, rfl, rfl⟩ := hck
    obtain ⟨x, y, r, rfl, h1⟩ := z_2i_ok h
    intro H locs ls hH hS hl
    exact lv_ishr hx hb hd (hnx _ _ _ _ h1 H locs ls hH hS hl)
  case ishl =>
    simp only [decide_eq_true_eq] at hck
    obtain ⟨rfl, rfl, rfl⟩ := hck
    obtain ⟨x, y, r, rfl, h1⟩ := z_2i_ok h
    intro H locs ls hH hS hl
    exact lv_ishl hx hb hd (hnx _ _ _ _ h1 H locs ls hH hS hl)
  case lshl =>
    simp only [decide_eq_true_eq] at hck
    obtain ⟨rfl, rfl, rfl⟩ := hck
    obtain ⟨x, y, r, rfl, h1⟩ := z_lsi_ok h
    intro H locs ls hH hS hl
    exact lv_lshl hx hb hd rfl (hnx _ _ _ _ h1 H locs ls hH hS hl)
  case i2l =>
    simp only [decide_eq_true_eq] at hck
    obtain ⟨rfl, rfl, rfl⟩ := hck
    obtain ⟨x, r, rfl, h1⟩ := z_1i_ok h
    intro H locs ls hH hS hl
    exact lv_i2l hx hb hd rfl (hnx _ _ _ _ h1 H locs ls hH hS hl)
  case i2b =>
    simp only [decide_eq_true_eq] at hck
    obtain ⟨rfl, rfl, rfl⟩ := hck
    obtain ⟨x, r, rfl, h1⟩ := z_1i_ok h
    intro H locs ls hH hS hl
    exact lv_i2b hx hb hd rfl (hnx _ _ _ _ h1 H locs ls hH hS hl)
  case lcmp =>
    simp only [decide_eq_true_eq] at hck
    obtain ⟨rfl, rfl, rfl⟩ := hck
    obtain ⟨x, y, r, rfl, h1⟩ := z_2l_ok h
    intro H locs ls hH hS hl
    exact W.lcmp hx hb hd (hnx _ _ _ _ h1 H locs ls hH hS hl)
  case dup =>
    simp only [decide_eq_true_eq] at hck
    obtain ⟨rfl, rfl, rfl⟩ := hck
    have h := (show z_d1 st (fun x r => nx (pc + 1) lv (x :: x :: r) w) from h)
    obtain ⟨x, r, rfl, h0, h1⟩ := z_d1_ok h
    intro H locs ls hH hS hl
    exact lv_dup hx hb hd h0 (hnx _ _ _ _ h1 H locs ls hH hS hl)
  case pop =>
    simp only [decide_eq_true_eq] at hck
    obtain ⟨rfl, rfl, rfl⟩ := hck
    have h := (show z_d1 st (fun _ r => nx (pc + 1) lv r w) from h)
    obtain ⟨x, r, rfl, h0, h1⟩ := z_d1_ok h
    intro H locs ls hH hS hl
    exact lv_pop hx hb hd h0 (hnx _ _ _ _ h1 H locs ls hH hS hl)
  case dup2 =>
    simp only [decide_eq_true_eq] at hck
    obtain ⟨rfl, rfl, rfl⟩ := hck
    obtain ⟨x, i, r, rfl, h1⟩ := z_dia_ok h
    intro H locs ls hH hS hl
    exact lv_dup2_11 hx hb hd rfl rfl (hnx _ _ _ _ h1 H locs ls hH hS hl)
  case goto o =>
    simp only [decide_eq_true_eq] at hck
    obtain ⟨rfl, rfl, ht⟩ := hck
    intro H locs ls hH hS hl
    exact lv_goto hx hb hd ht (hnx _ _ _ _ h H locs ls hH hS hl)
  case ifCond c o =>
    cases c <;> simp only [decide_eq_true_eq] at hck <;> obtain ⟨rfl, rfl, rfl, ht⟩ := hck <;> obtain ⟨x, r, rfl, h1, h2⟩ := z_1i_ok h <;> intro H locs ls hH hS hl
    · exact lv_if_eq hx hb hd ht (fun q => hnx _ _ _ _ (h1 q) H locs ls hH hS hl) (fun q => hnx _ _ _ _ (h2 q) H locs ls hH hS hl)
    · exact lv_if_ne hx hb hd ht (fun q => hnx _ _ _ _ (h1 q) H locs ls hH hS hl) (fun q => hnx _ _ _ _ (h2 q) H locs ls hH hS hl)
    · exact lv_if_lt hx hb hd ht (fun q => hnx _ _ _ _ (h1 q) H locs ls hH hS hl) (fun q => hnx _ _ _ _ (h2 q) H locs ls hH hS hl)
    · exact lv_if_ge hx hb hd ht (fun q => hnx _ _ _ _ (h1 q) H locs ls hH hS hl) (fun q => hnx _ _ _ _ (h2 q) H locs ls hH hS hl)
    · exact lv_if_gt hx hb hd ht (fun q => hnx _ _ _ _ (h1 q) H locs ls hH hS hl) (fun q => hnx _ _ _ _ (h2 q) H locs ls hH hS hl)
    · exact lv_if_le hx hb hd ht (fun q => hnx _ _ _ _ (h1 q) H locs ls hH hS hl) (fun q => hnx _ _ _ _ (h2 q) H locs ls hH hS hl)
  case if_icmp c o =>
    cases c <;> simp only [decide_eq_true_eq] at hck <;> obtain ⟨rfl, rfl, rfl, ht⟩ := hck <;> obtain ⟨x, y, r, rfl, h1, h2⟩ := z_2i_ok h <;> intro H locs ls hH hS hl
    · exact lv_icmp_eq hx hb hd ht (fun q => hnx _ _ _ _ (h1 q) H locs ls hH hS hl) (fun q => hnx _ _ _ _ (h2 q) H locs ls hH hS hl)
    · exact lv_icmp_ne hx hb hd ht (fun q => hnx _ _ _ _ (h1 q) H locs ls hH hS hl) (fun q => hnx _ _ _ _ (h2 q) H locs ls hH hS hl)
    · exact lv_icmp_lt hx hb hd ht (fun q => hnx _ _ _ _ (h1 q) H locs ls hH hS hl) (fun q => hnx _ _ _ _ (h2 q) H locs ls hH hS hl)
    · exact lv_icmp_ge hx hb hd ht (fun q => hnx _ _ _ _ (h1 q) H locs ls hH hS hl) (fun q => hnx _ _ _ _ (h2 q) H locs ls hH hS hl)
    · exact lv_icmp_gt hx hb hd ht (fun q => hnx _ _ _ _ (h1 q) H locs ls hH hS hl) (fun q => hnx _ _ _ _ (h2 q) H locs ls hH hS hl)
    · exact lv_icmp_le hx hb hd ht (fun q => hnx _ _ _ _ (h1 q) H locs ls hH hS hl) (fun q => hnx _ _ _ _ (h2 q) H locs ls hH hS hl)
  case getfield k =>
    simp only [Bool.and_eq_true, decide_eq_true_eq] at hck
    obtain ⟨⟨rfl, rfl, rfl⟩, hlk⟩ := hck
    obtain ⟨x, r, rfl, h1⟩ := z_1a_ok h
    obtain ⟨fs, h2, h3⟩ := z_ob_ok h1
    obtain ⟨u, h4, h5⟩ := z_fl_ok h3
    obtain ⟨Cn, T, N, c1, c2, c3, c4⟩ := z_lk_ok hlk
    exact z_get C c4 c1 c2 c3 hd h2 h4 (hnx _ _ _ _ h5)
  case putfield k =>
    simp only [Bool.and_eq_true, Bool.or_eq_true, decide_eq_true_eq] at hck
    obtain ⟨hlk, hq⟩ := hck
    obtain ⟨Cn, T, N, c1, c2, c3, c4⟩ := z_lk_ok hlk
    rcases hq with (hq | hq) | hq
    · obtain ⟨⟨rfl, rfl, rfl⟩, hpk⟩ := hq
      obtain ⟨x, i, r, rfl, h1⟩ := z_ia_ok h
      obtain ⟨fs, h2, h3, h5⟩ := z_ob_ok h1
      obtain ⟨p1, ⟨ty, p2, p3⟩, p4, p5⟩ := z_pk_ok hpk c1
      have e : ty = .int := by unfold z_ti at p3; split at p3 <;> first | rfl | cases p3
      subst e
      exact z_put C c4 c1 _ p4 p5 c2 c3 p1 p2 hd h2 h3 rfl rfl (hnx _ _ _ _ h5)
    · obtain ⟨⟨rfl, rfl, rfl⟩, hpk⟩ := hq
      obtain ⟨x, y, r, rfl, h1⟩ := z_aa_ok h
      obtain ⟨fs, h2, h3, h5⟩ := z_ob_ok h1
      obtain ⟨p1, ⟨ty, p2, p3⟩, p4, p5⟩ := z_pk_ok hpk c1
      have e : (∃ q, ty = .object q) ∨ ∃ q, ty = .array q := by unfold z_tr at p3; split at p3 <;> first | exact Or.inl ⟨_, rfl⟩ | exact Or.inr ⟨_, rfl⟩ | cases p3
      rcases e with ⟨q, rfl⟩ | ⟨q, rfl⟩
      · exact z_put C c4 c1 _ p4 p5 c2 c3 p1 p2 hd h2 h3 rfl rfl (hnx _ _ _ _ h5)
      · exact z_put C c4 c1 _ p4 p5 c2 c3 p1 p2 hd h2 h3 rfl rfl (hnx _ _ _ _ h5)
    · obtain ⟨⟨rfl, rfl, rfl⟩, hpk⟩ := hq
      obtain ⟨x, i, r, rfl, h1⟩ := z_ia_ok h
      obtain ⟨fs, h2, h3, h4, h5⟩ := z_ob_ok h1
      obtain ⟨p1, ⟨ty, p2, p3⟩, p4, p5⟩ := z_pk_ok hpk c1
      have e : ty = .boolean := by unfold z_tz at p3; split at p3 <;> first | rfl | cases p3
      subst e
      rcases h4 with rfl | rfl
      · exact z_put C c4 c1 _ p4 p5 c2 c3 p1 p2 hd h2 h3 rfl rfl (hnx _ _ _ _ h5)
      · exact z_put C c4 c1 _ p4 p5 c2 c3 p1 p2 hd h2 h3 rfl rfl (hnx _ _ _ _ h5)
  case iaload =>
    simp only [decide_eq_true_eq] at hck
    obtain ⟨rfl, rfl, rfl⟩ := hck
    obtain ⟨x, i, r, rfl, h1⟩ := z_ia_ok h
    obtain ⟨m, g, h2, h3, h4⟩ := z_ar0_ok h1
    exact z_iald C hd h2 h3 (hnx _ _ _ _ h4)
  case baload =>
    simp only [decide_eq_true_eq] at hck
    obtain ⟨rfl, rfl, rfl⟩ := hck
    obtain ⟨x, i, r, rfl, h1⟩ := z_ia_ok h
    obtain ⟨m, g, h2, h3, h4⟩ := z_ar1_ok h1
    exact z_zald C hd h2 h3 (hnx _ _ _ _ h4)
  case laload =>
    simp only [decide_eq_true_eq] at hck
    obtain ⟨rfl, rfl, rfl⟩ := hck
    obtain ⟨x, i, r, rfl, h1⟩ := z_ia_ok h
    obtain ⟨m, g, h2, h3, h4⟩ := z_ar2_ok h1
    exact z_lald C hd h2 h3 (hnx _ _ _ _ h4)
  case iastore =>
    simp only [decide_eq_true_eq] at hck
    obtain ⟨rfl, rfl, rfl⟩ := hck
    obtain ⟨x, i, u, r, rfl, h1⟩ := z_iia_ok h
    obtain ⟨m, g, h2, h3, h4⟩ := z_ar0_ok h1
    exact z_iast C hd h2 h3 (hnx _ _ _ _ h4)
  case bastore =>
    simp only [decide_eq_true_eq] at hck
    obtain ⟨rfl, rfl, rfl⟩ := hck
    obtain ⟨x, i, u, r, rfl, h1⟩ := z_iia_ok h
    obtain ⟨m, g, h2, h3, h4⟩ := z_ar1_ok h1
    exact z_zast C hd h2 h3 (hnx _ _ _ _ h4)
  case lastore =>
    simp only [decide_eq_true_eq] at hck
    obtain ⟨rfl, rfl, rfl⟩ := hck
    obtain ⟨x, i, u, r, rfl, h1⟩ := z_lia_ok h
    obtain ⟨m, g, h2, h3, h4⟩ := z_ar2_ok h1
    exact z_last C hd h2 h3 (hnx _ _ _ _ h4)
  case arraylength =>
    simp only [decide_eq_true_eq] at hck
    obtain ⟨rfl, rfl, rfl⟩ := hck
    obtain ⟨x, r, rfl, h1⟩ := z_1a_ok h
    obtain ⟨m, g, h2, h3⟩ := z_ar0_ok h1
    exact z_alen C hd h2 (hnx _ _ _ _ h3)
  case ireturn =>
    simp only [decide_eq_true_eq] at hck
    obtain ⟨rfl, ⟨rfl, hr⟩ | ⟨rfl, hr⟩⟩ := hck
    · obtain ⟨x, rfl, h1⟩ := z_e1_ok h
      exact z_iret C E hr rfl hc hs hd h1
    · obtain ⟨x, rfl, h0, h1⟩ := z_e1_ok h
      exact z_iret C E hr (by rcases h0 with rfl | rfl <;> rfl) hc hs hd h1
  case lreturn =>
    simp only [decide_eq_true_eq] at hck
    obtain ⟨rfl, rfl, hr⟩ := hck
    obtain ⟨x, rfl, h1⟩ := z_e2_ok h
    exact z_lret C E hr hc hs hd h1
  case return_ =>
    simp only [decide_eq_true_eq] at hck
    obtain ⟨rfl, rfl, hr⟩ := hck
    obtain ⟨rfl, h1⟩ := z_e0_ok h
    exact z_vret C E hr hc hs hd h1
  all_goals exact absurd hck Bool.false_ne_true
theorem z_run_ok (C : z_X G cc own Ts nL Γ) (E : z_E G rm mc ms nm ret Post Γ) {N : Nat} {tb : Nat → zI} (hT : z_tab own Ts nL ret cc N tb) (hc : cells ≤ mc) (hs : slots ≤ ms) {cut : List Nat} : ∀ (k pc : Nat) (lv : zL) (st : List Value) (w : zW), z_run tb cut (fun pc lv st w => z_J G nL Γ w cells slots pc lv st) Post k pc lv st w → z_J G nL Γ w cells slots pc lv st
  | 0, _, _, _, _, h => h
  | k + 1, pc, lv, st, w, h => by
    unfold z_run at h
    split at h
    · exact h
    · have ht := hT pc
      unfold z_ck at ht
      generalize ht2 : tb pc = t at ht h
      obtain ⟨op, a, b, n, v⟩ := t
      unfold z_st1 at h
      dsimp only at ht h
      by_cases h99 : op = 99
      · subst h99; exact h
      · simp only [h99, decide_false, Bool.false_or] at ht
        split at ht
        · rename_i i len hd
          exact z_step_ok C E hd ht hc hs (fun pc lv st w h => z_run_ok C E hT hc hs k pc lv st w h) (fun _ _ _ _ h => h) h
        · cases ht
/-- one step at least, then on till a cut -/
theorem z_go (C : z_X G cc own Ts nL Γ) (E : z_E G rm mc ms nm ret Post Γ) {N : Nat} {tb : Nat → zI} (hT : z_tab own Ts nL ret cc N tb) (hc : cells ≤ mc) (hs : slots ≤ ms) (cut : List Nat) (k : Nat) (h : z_st1 (tb pc) pc lv st w (z_run tb cut (fun pc lv st w => z_J G nL Γ w cells slots pc lv st) Post k) (fun pc lv st w => z_J G nL Γ w cells slots pc lv st) Post) : z_J G nL Γ w cells slots pc lv st := by
  have h1 : z_run tb [] (fun pc lv st w => z_J G nL Γ w cells slots pc lv st) Post 1 pc lv st w ∨ True := Or.inr trivial
  have ht := hT pc
  unfold z_ck at ht
  generalize ht2 : tb pc = t at ht h
  obtain ⟨op, a, b, n, v⟩ := t
  unfold z_st1 at h
  dsimp only at ht h
  by_cases h99 : op = 99
  · subst h99; exact h
  · simp only [h99, decide_false, Bool.false_or] at ht
    split at ht
    · rename_i i len hd
      exact z_step_ok C E hd ht hc hs (fun pc lv st w h => z_run_ok C E hT hc hs k pc lv st w h) (fun _ _ _ _ h => h) h
    · cases ht
end ZS
