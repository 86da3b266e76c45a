/-! ===== an interpreter over shapes, ints and longs (own text) ===== -/
abbrev j_S : Type := List (Nat × Nat × List (Option Nat))
abbrev j_M : Type := Nat → Nat → Int32
abbrev j_N : Type := Nat → Nat → Int64
abbrev j_Me : Type := j_S × j_M × j_N
abbrev j_R : Type := Option Value × j_Me
/-- instruction, length (invokevirtual: the class's number and 3), a, b, v, switch targets, places of words in lw_tbl -/
abbrev j_E : Type := Instr × Nat × Nat × Nat × Value × List (Int32 × Nat) × List Nat
/-- code by pc; cut points with the locals that live there; how many locals -/
abbrev j_K : Type := List (Nat × j_E) × List (Nat × List Bool) × Nat
def j_at : j_S → Nat → Nat × Nat × List (Option Nat)
  | [], _ => (99, 0, [])
  | x :: _, 0 => x
  | _ :: r, k + 1 => j_at r k
def j_nth : List (Option Nat) → Nat → Option Nat
  | [], _ => none
  | x :: _, 0 => x
  | _ :: r, k + 1 => j_nth r k
def j_lk {β : Type} : List (Nat × β) → Nat → Option β
  | [], _ => none
  | (k, x) :: r, p => bif Nat.beq k p then some x else j_lk r p
def j_lg : List Value → Nat → Value
  | [], _ => .null
  | v :: _, 0 => v
  | _ :: r, k + 1 => j_lg r k
def j_kill (v : Value) : Value := match v with
  | .long _ => .null
  | .double _ => .null
  | w => w
def j_put : List Value → Nat → Value → List Value
  | [], _, _ => []
  | _ :: r, 0, v => v :: r
  | w :: r, 1, v => j_kill w :: j_put r 0 v
  | w :: r, k + 2, v => w :: j_put r (k + 1) v
def j_nul : List Value → Nat → List Value
  | [], _ => []
  | _ :: r, 0 => .null :: r
  | w :: r, k + 1 => w :: j_nul r k
def j_mask : List Bool → List Value → List Value
  | b :: bs, v :: vs => (bif b then v else .null) :: j_mask bs vs
  | _, vs => vs
def j_fg (cuts : List (Nat × List Bool)) (pc : Nat) (L : List Value) : List Value := match j_lk cuts pc with
  | none => L
  | some m => j_mask m L
def j_cat : List Value → Nat
  | [] => 0
  | v :: r => v.category + j_cat r
def j_ent : List Value → List Value
  | [] => []
  | .long x :: r => .long x :: .null :: j_ent r
  | .double x :: r => .double x :: .null :: j_ent r
  | v :: r => v :: j_ent r
def j_pad (n : Nat) (L : List Value) : List Value := L ++ List.replicate (n - L.length) .null
def j_w (M : j_M) (c k : Nat) (x : Int32) : j_M := fun y => if y = c then upd (M c) k x else M y
def j_wl (N : j_N) (c k : Nat) (x : Int64) : j_N := fun y => if y = c then vp_updL (N c) k x else N y
def j_row (M : j_M) (c : Nat) (f : Nat → Int32) : j_M := fun y => if y = c then f else M y
def j_rowl (N : j_N) (c : Nat) (f : Nat → Int64) : j_N := fun y => if y = c then f else N y
def j_in (i : Int32) (n : Nat) : Bool := !(decide (i < 0) || Nat.ble n i.toNatClampNeg)
def j_setx : List (Option Nat) → Nat → Nat → List (Option Nat)
  | [], 0, q => [some q]
  | [], k + 1, q => none :: j_setx [] k q
  | _ :: r, 0, q => some q :: r
  | x :: r, k + 1, q => x :: j_setx r k q
def j_sr (S : j_S) (c b q : Nat) : j_S := S.set c ((j_at S c).1, (j_at S c).2.1, j_setx (j_at S c).2.2 b q)
def j_T0 : List Int32 := [-1, 0, 0, 2, 1, 3, 0, 4]
def j_T1 : List Int32 := [1, 10, 11, 2, 20, 0, 0, 0, 0, 30, 0, 0, 0, 41, 40, 0, 0, 0, 50, 0, 0, 0, 0, 60, 70, 0, 0, 0, 0, 80, 0, 81]
def j_tg : List Int32 → Nat → Int32
  | [], _ => 0
  | x :: _, 0 => x
  | _ :: r, k + 1 => j_tg r k
def j_i0 {α : Type} (ks : α) (f : Int32 → α) (st : List Value) : α := match st with
  | [.int x] => f x
  | _ => ks
def j_l0 {α : Type} (ks : α) (f : Int64 → α) (st : List Value) : α := match st with
  | [.long x] => f x
  | _ => ks
def j_i1 {α : Type} (ks : α) (f : Int32 → List Value → α) (st : List Value) : α := match st with
  | .int x :: r => f x r
  | _ => ks
def j_i2 {α : Type} (ks : α) (f : Int32 → Int32 → List Value → α) (st : List Value) : α := match st with
  | .int y :: .int x :: r => f x y r
  | _ => ks
def j_l1 {α : Type} (ks : α) (f : Int64 → List Value → α) (st : List Value) : α := match st with
  | .long x :: r => f x r
  | _ => ks
def j_l2 {α : Type} (ks : α) (f : Int64 → Int64 → List Value → α) (st : List Value) : α := match st with
  | .long y :: .long x :: r => f x y r
  | _ => ks
def j_il {α : Type} (ks : α) (f : Int64 → Int32 → List Value → α) (st : List Value) : α := match st with
  | .int y :: .long x :: r => f x y r
  | _ => ks
def j_r1 {α : Type} (ks : α) (f : Nat → List Value → α) (st : List Value) : α := match st with
  | .ref a :: r => f a r
  | _ => ks
def j_ri {α : Type} (ks : α) (f : Nat → Int32 → List Value → α) (st : List Value) : α := match st with
  | .int i :: .ref a :: r => f a i r
  | _ => ks
def j_rii {α : Type} (ks : α) (f : Nat → Int32 → Int32 → List Value → α) (st : List Value) : α := match st with
  | .int x :: .int i :: .ref a :: r => f a i x r
  | _ => ks
def j_ril {α : Type} (ks : α) (f : Nat → Int32 → Int64 → List Value → α) (st : List Value) : α := match st with
  | .long x :: .int i :: .ref a :: r => f a i x r
  | _ => ks
def j_rir {α : Type} (ks : α) (f : Nat → Int32 → Nat → List Value → α) (st : List Value) : α := match st with
  | .ref x :: .int i :: .ref a :: r => f a i x r
  | _ => ks
def j_rI {α : Type} (ks : α) (f : Nat → Int32 → List Value → α) (st : List Value) : α := match st with
  | .int x :: .ref a :: r => f a x r
  | _ => ks
def j_rr {α : Type} (ks : α) (f : Nat → Nat → List Value → α) (st : List Value) : α := match st with
  | .ref x :: .ref a :: r => f a x r
  | _ => ks
def j_c5 {α : Type} (ks : α) (f : Nat → Int32 → Nat → Int32 → Int32 → List Value → α) (st : List Value) : α := match st with
  | .int n :: .int dp :: .ref a :: .int sp :: .ref a0 :: r => f a0 sp a dp n r
  | _ => ks
def j_v1 {α : Type} (ks : α) (f : Value → List Value → α) (st : List Value) : α := match st with
  | .int x :: r => f (.int x) r
  | .ref x :: r => f (.ref x) r
  | _ => ks
def j_v2 {α : Type} (ks : α) (f : Value → Value → List Value → α) (st : List Value) : α := j_v1 ks (fun v r => j_v1 ks (fun w r2 => f v w r2) r) st
def j_vi {α : Type} (ks : α) (f : Int32 → α) (v : Value) : α := match v with
  | .int x => f x
  | _ => ks
def j_vl {α : Type} (ks : α) (f : Int64 → α) (v : Value) : α := match v with
  | .long x => f x
  | _ => ks
def j_vr {α : Type} (ks : α) (f : Nat → α) (v : Value) : α := match v with
  | .ref x => f x
  | _ => ks
def j_sw {α : Type} (k : Nat → α) (d : Nat) (x : Int32) : List (Int32 × Nat) → α
  | [] => k d
  | (c, t) :: r => if x = c then k t else j_sw k d x r
def j_popk {α : Type} (ks : α) (f : List Value → List Value → α) : Nat → List Value → List Value → α
  | 0, acc, st => f acc st
  | n + 1, acc, x :: r => j_popk ks f n (x :: acc) r
  | _ + 1, _, [] => ks
/-- by the kind of a field or a result: int, long (a field: boolean), else -/
def j_by {α : Type} (v : Value) (i l r : α) : α := match v with
  | .int _ => i
  | .long _ => l
  | _ => r
def j_br {α : Type} (c : Jvm.ClassFile.Cond) (x : Int32) (t f : α) : α := match c with
  | .eq => if x = 0 then t else f
  | .ne => if x = 0 then f else t
  | .lt => if x < 0 then t else f
  | .ge => if 0 ≤ x then t else f
  | .gt => if 0 < x then t else f
  | .le => if x ≤ 0 then t else f
def j_bc {α : Type} (c : Jvm.ClassFile.Cond) (x y : Int32) (t f : α) : α := match c with
  | .eq => if x = y then t else f
  | .ne => if x = y then f else t
  | .lt => if x < y then t else f
  | .ge => if y ≤ x then t else f
  | .gt => if y < x then t else f
  | .le => if x ≤ y then t else f
/-- arraycopy, Math.max, min, min of longs -/
def j_nat {α : Type} (kn : List Value → j_Me → α) (ks : α) (a : Nat) (st : List Value) (me : j_Me) : α :=
  bif Nat.beq a 1000 then j_c5 ks (fun a0 sp a dp n r => bif (!(decide (sp < 0)) && !(decide (dp < 0)) && !(decide (n < 0)) && Nat.ble (sp.toNatClampNeg + n.toNatClampNeg) (j_at me.1 a0).2.1 && Nat.ble (dp.toNatClampNeg + n.toNatClampNeg) (j_at me.1 a).2.1) && Nat.ble (j_cat r) 8 then
      (bif Nat.beq (j_at me.1 a0).1 0 && Nat.beq (j_at me.1 a).1 0 then kn r (me.1, j_row me.2.1 a (va_cpy (me.2.1 a0) (me.2.1 a) sp.toNatClampNeg dp.toNatClampNeg n.toNatClampNeg), me.2.2)
       else bif Nat.beq (j_at me.1 a0).1 1 && Nat.beq (j_at me.1 a).1 1 then kn r (me.1, me.2.1, j_rowl me.2.2 a (va_cpy (me.2.2 a0) (me.2.2 a) sp.toNatClampNeg dp.toNatClampNeg n.toNatClampNeg)) else ks) else ks) st
  else bif Nat.beq a 1001 then j_i2 ks (fun x y r => bif Nat.ble (j_cat r) 8 then kn (.int (if x < y then y else x) :: r) me else ks) st
  else bif Nat.beq a 1002 then j_i2 ks (fun x y r => bif Nat.ble (j_cat r) 8 then kn (.int (if y < x then y else x) :: r) me else ks) st
  else bif Nat.beq a 1003 then j_l2 ks (fun x y r => bif Nat.ble (j_cat r) 8 then kn (.long (if y < x then y else x) :: r) me else ks) st
  else ks
/-- one instruction: kn goes on; kc calls (callee, result's kind, arguments); kcs makes an object; kr returns; ks: stuck -/
def j_st {α : Type} (kn : Nat → List Value → List Value → j_Me → α) (kc : Nat → Value → List Value → Nat → List Value → List Value → j_Me → α) (kcs : Nat → List Value → Nat → List Value → List Value → j_Me → α) (kr : Option Value → j_Me → α) (ks : α) (pc : Nat) (ins : Instr) (z a b : Nat) (v : Value) (ts : List (Int32 × Nat)) (L st : List Value) (me : j_Me) : α := match ins with
  | .iconst _ => kn (pc + 1) L (v :: st) me
  | .bipush _ => kn (pc + 2) L (v :: st) me
  | .sipush _ => kn (pc + 3) L (v :: st) me
  | .ldc _ => kn (pc + 2) L (v :: st) me
  | .ldc_w _ => kn (pc + 3) L (v :: st) me
  | .lconst _ => kn (pc + 1) L (v :: st) me
  | .ldc2_w _ => kn (pc + 3) L (v :: st) me
  | .iload_n _ => j_vi ks (fun x => kn (pc + 1) L (.int x :: st) me) (j_lg L a)
  | .iload _ => j_vi ks (fun x => kn (pc + 2) L (.int x :: st) me) (j_lg L a)
  | .lload_n _ => j_vl ks (fun x => kn (pc + 1) L (.long x :: st) me) (j_lg L a)
  | .lload _ => j_vl ks (fun x => kn (pc + 2) L (.long x :: st) me) (j_lg L a)
  | .aload_n _ => j_vr ks (fun x => kn (pc + 1) L (.ref x :: st) me) (j_lg L a)
  | .aload _ => j_vr ks (fun x => kn (pc + 2) L (.ref x :: st) me) (j_lg L a)
  | .istore_n _ => j_i1 ks (fun x r => kn (pc + 1) (j_put L a (.int x)) r me) st
  | .istore _ => j_i1 ks (fun x r => kn (pc + 2) (j_put L a (.int x)) r me) st
  | .lstore_n _ => j_l1 ks (fun x r => kn (pc + 1) (j_nul (j_put L a (.long x)) (a + 1)) r me) st
  | .lstore _ => j_l1 ks (fun x r => kn (pc + 2) (j_nul (j_put L a (.long x)) (a + 1)) r me) st
  | .astore_n _ => j_r1 ks (fun x r => kn (pc + 1) (j_put L a (.ref x)) r me) st
  | .astore _ => j_r1 ks (fun x r => kn (pc + 2) (j_put L a (.ref x)) r me) st
  | .iinc _ _ => j_vi ks (fun y => j_vi ks (fun x => kn (pc + 3) (j_put L a (.int (x + y))) st me) (j_lg L a)) v
  | .iadd => j_i2 ks (fun x y r => kn (pc + 1) L (.int (x + y) :: r) me) st
  | .isub => j_i2 ks (fun x y r => kn (pc + 1) L (.int (x - y) :: r) me) st
  | .imul => j_i2 ks (fun x y r => kn (pc + 1) L (.int (x * y) :: r) me) st
  | .iand => j_i2 ks (fun x y r => kn (pc + 1) L (.int (x &&& y) :: r) me) st
  | .ior => j_i2 ks (fun x y r => kn (pc + 1) L (.int (x ||| y) :: r) me) st
  | .ixor => j_i2 ks (fun x y r => kn (pc + 1) L (.int (x ^^^ y) :: r) me) st
  | .ishl => j_i2 ks (fun x y r => kn (pc + 1) L (.int (x <<< (y &&& 31)) :: r) me) st
  | .ishr => j_i2 ks (fun x y r => kn (pc + 1) L (.int (x >>> (y &&& 31)) :: r) me) st
  | .iushr => j_i2 ks (fun x y r => kn (pc + 1) L (.int (x.toUInt32 >>> (y.toUInt32 &&& Int32.toUInt32 31)).toInt32 :: r) me) st
  | .idiv => j_i2 ks (fun x y r => if y = 0 then ks else kn (pc + 1) L (.int (x / y) :: r) me) st
  | .irem => j_i2 ks (fun x y r => if y = 0 then ks else kn (pc + 1) L (.int (x - x / y * y) :: r) me) st
  | .ineg => j_i1 ks (fun x r => kn (pc + 1) L (.int (-x) :: r) me) st
  | .ladd => j_l2 ks (fun x y r => kn (pc + 1) L (.long (x + y) :: r) me) st
  | .lmul => j_l2 ks (fun x y r => kn (pc + 1) L (.long (x * y) :: r) me) st
  | .land => j_l2 ks (fun x y r => kn (pc + 1) L (.long (x &&& y) :: r) me) st
  | .lor => j_l2 ks (fun x y r => kn (pc + 1) L (.long (x ||| y) :: r) me) st
  | .ldiv => j_l2 ks (fun x y r => if y = 0 then ks else kn (pc + 1) L (.long (x / y) :: r) me) st
  | .lrem => j_l2 ks (fun x y r => if y = 0 then ks else kn (pc + 1) L (.long (x - x / y * y) :: r) me) st
  | .lshl => j_il ks (fun x y r => kn (pc + 1) L (.long (x <<< (y.toInt64 &&& 63)) :: r) me) st
  | .lcmp => j_l2 ks (fun x y r => kn (pc + 1) L (.int (lg_cmp x y) :: r) me) st
  | .i2l => j_i1 ks (fun x r => kn (pc + 1) L (.long x.toInt64 :: r) me) st
  | .l2i => j_l1 ks (fun x r => kn (pc + 1) L (.int x.toInt32 :: r) me) st
  | .i2b => j_i1 ks (fun x r => kn (pc + 1) L (.int x.toInt8.toInt32 :: r) me) st
  | .i2s => j_i1 ks (fun x r => kn (pc + 1) L (.int x.toInt16.toInt32 :: r) me) st
  | .dup => j_v1 ks (fun w r => kn (pc + 1) L (w :: w :: r) me) st
  | .pop => j_v1 ks (fun _ r => kn (pc + 1) L r me) st
  | .dup2 => j_v2 ks (fun w x r => kn (pc + 1) L (w :: x :: w :: x :: r) me) st
  | .ifCond c _ => j_i1 ks (fun x r => j_br c x (kn a L r me) (kn (pc + 3) L r me)) st
  | .if_icmp c _ => j_i2 ks (fun x y r => j_bc c x y (kn a L r me) (kn (pc + 3) L r me)) st
  | .goto _ => kn a L st me
  | .tableswitch _ _ _ _ => j_i1 ks (fun x r => j_sw (fun t => kn t L r me) a x ts) st
  | .lookupswitch _ _ => j_i1 ks (fun x r => j_sw (fun t => kn t L r me) a x ts) st
  | .getfield _ => j_r1 ks (fun c r => bif Nat.beq (j_at me.1 c).1 (a + 3) then j_by v (kn (pc + 3) L (.int (me.2.1 c b) :: r) me) (kn (pc + 3) L (.int (me.2.1 c b) :: r) me) (bif (j_nth (j_at me.1 c).2.2 b).isSome then kn (pc + 3) L (.ref ((j_nth (j_at me.1 c).2.2 b).getD 0) :: r) me else ks) else ks) st
  | .putfield _ => j_by v (j_rI ks (fun c x r => bif Nat.beq (j_at me.1 c).1 (a + 3) then kn (pc + 3) L r (me.1, j_w me.2.1 c b x, me.2.2) else ks) st)
      (j_rI ks (fun c x r => bif Nat.beq (j_at me.1 c).1 (a + 3) && (decide (x = 0) || decide (x = 1)) then kn (pc + 3) L r (me.1, j_w me.2.1 c b x, me.2.2) else ks) st)
      (j_rr ks (fun c q r => bif Nat.beq (j_at me.1 c).1 (a + 3) then kn (pc + 3) L r (j_sr me.1 c b q, me.2.1, me.2.2) else ks) st)
  | .getstatic _ => kn (pc + 3) L (.ref a :: st) me
  | .new _ => kn (pc + 3) L (.ref me.1.length :: st) (me.1 ++ [(a + 3, b, List.replicate b none)], j_row me.2.1 me.1.length (fun _ => 0), me.2.2)
  | .newarray _ => j_i1 ks (fun n r => bif !(decide (n < 0)) && Nat.ble n.toNatClampNeg 65536 then j_by v (kn (pc + 2) L (.ref me.1.length :: r) (me.1 ++ [(0, n.toNatClampNeg, [])], j_row me.2.1 me.1.length (fun _ => 0), me.2.2)) (kn (pc + 2) L (.ref me.1.length :: r) (me.1 ++ [(1, n.toNatClampNeg, [])], me.2.1, j_rowl me.2.2 me.1.length (fun _ => 0))) ks else ks) st
  | .anewarray _ => j_i1 ks (fun n r => bif !(decide (n < 0)) && Nat.ble n.toNatClampNeg 65536 then kn (pc + 3) L (.ref me.1.length :: r) (me.1 ++ [(2, n.toNatClampNeg, List.replicate n.toNatClampNeg none)], me.2.1, me.2.2) else ks) st
  | .arraylength => j_r1 ks (fun c r => bif Nat.ble (j_at me.1 c).1 2 then kn (pc + 1) L (.int (Int32.ofNat (j_at me.1 c).2.1) :: r) me else ks) st
  | .iaload => j_ri ks (fun c i r => bif Nat.beq c 1000 then (bif j_in i 8 then kn (pc + 1) L (.int (j_tg j_T0 i.toNatClampNeg) :: r) me else ks) else bif Nat.beq c 1001 then (bif j_in i 32 then kn (pc + 1) L (.int (j_tg j_T1 i.toNatClampNeg) :: r) me else ks)
      else bif Nat.beq (j_at me.1 c).1 0 && j_in i (j_at me.1 c).2.1 then kn (pc + 1) L (.int (me.2.1 c i.toNatClampNeg) :: r) me else ks) st
  | .iastore => j_rii ks (fun c i x r => bif Nat.beq (j_at me.1 c).1 0 && j_in i (j_at me.1 c).2.1 then kn (pc + 1) L r (me.1, j_w me.2.1 c i.toNatClampNeg x, me.2.2) else ks) st
  | .laload => j_ri ks (fun c i r => bif Nat.beq (j_at me.1 c).1 1 && j_in i (j_at me.1 c).2.1 then kn (pc + 1) L (.long (me.2.2 c i.toNatClampNeg) :: r) me else ks) st
  | .lastore => j_ril ks (fun c i x r => bif Nat.beq (j_at me.1 c).1 1 && j_in i (j_at me.1 c).2.1 then kn (pc + 1) L r (me.1, me.2.1, j_wl me.2.2 c i.toNatClampNeg x) else ks) st
  | .aaload => j_ri ks (fun c i r => bif Nat.beq (j_at me.1 c).1 2 && j_in i (j_at me.1 c).2.1 && (j_nth (j_at me.1 c).2.2 i.toNatClampNeg).isSome then kn (pc + 1) L (.ref ((j_nth (j_at me.1 c).2.2 i.toNatClampNeg).getD 0) :: r) me else ks) st
  | .aastore => j_rir ks (fun c i q r => bif Nat.beq (j_at me.1 c).1 2 && j_in i (j_at me.1 c).2.1 && Nat.beq (j_at me.1 q).1 12 then kn (pc + 1) L r (j_sr me.1 c i.toNatClampNeg q, me.2.1, me.2.2) else ks) st
  | .invokevirtual _ => j_popk ks (fun as r => j_r1 ks (fun c r => bif Nat.beq (j_at me.1 c).1 z && Nat.ble (j_cat r) 8 then kc a v (.ref c :: as) (pc + 3) L r me else ks) r) b [] st
  | .invokestatic _ => bif Nat.ble 1000 a then j_nat (fun r me => kn (pc + 3) L r me) ks a st me else j_popk ks (fun as r => bif Nat.ble (j_cat r) 8 then kc a v as (pc + 3) L r me else ks) b [] st
  | .invokespecial _ => bif Nat.beq a 999 then j_r1 ks (fun _ r => bif Nat.ble (j_cat r) 8 then kn (pc + 3) L r me else ks) st else j_popk ks (fun as r => j_r1 ks (fun c r => bif Nat.ble (j_cat r) 8 then kcs a (.ref c :: as) (pc + 3) L r me else ks) r) b [] st
  | .ireturn => j_i0 ks (fun x => j_by v (kr (some (.int x)) me) (bif decide (x = 0) || decide (x = 1) then kr (some (.int x)) me else ks) ks) st
  | .lreturn => j_l0 ks (fun x => kr (some (.long x)) me) st
  | .return_ => (match st with
    | [] => kr none me
    | _ => ks)
  | _ => ks
/-- the rest of a call by the kind of its result -/
def j_oi {α : Type} (ks : α) (f : Int32 → α) (o : Option Value) : α := match o with
  | some (.int x) => f x
  | _ => ks
def j_ol {α : Type} (ks : α) (f : Int64 → α) (o : Option Value) : α := match o with
  | some (.long x) => f x
  | _ => ks
def j_ov {α : Type} (ks : α) (f : α) (o : Option Value) : α := match o with
  | none => f
  | _ => ks
def j_res {α : Type} (ks : α) (v : Value) (f : List Value → α) (o : Option Value) : α := j_by v (j_oi ks (fun x => f [.int x]) o) (j_ol ks (fun x => f [.long x]) o) (j_ov ks (f []) o)
def j_go {α : Type} (kn : Nat → List Value → List Value → j_Me → α) (kc : Nat → Value → List Value → Nat → List Value → List Value → j_Me → α) (kcs : Nat → List Value → Nat → List Value → List Value → j_Me → α) (kr : Option Value → j_Me → α) (ks : α) (K : j_K) (pc : Nat) (L st : List Value) (me : j_Me) : α := match j_lk K.1 pc with
  | none => ks
  | some (ins, z, a, b, v, ts, _) => j_st kn kc kcs kr ks pc ins z a b v ts L st me
