/-! ===== the small machine: cells by number, ints, references and longs in rows of their own; a method's run is a relation ===== -/
abbrev zM : Type := (Nat → Nat → Int32) × (Nat → Nat → Option Nat) × (Nat → Nat → Int64) × (Nat → Nat × Nat) × Nat × Nat
def zi (M : zM) : Nat → Nat → Int32 := M.1
def zr (M : zM) : Nat → Nat → Option Nat := M.2.1
def zl (M : zM) : Nat → Nat → Int64 := M.2.2.1
def zk (M : zM) : Nat → Nat × Nat := M.2.2.2.1
def zn (M : zM) : Nat := M.2.2.2.2.1
def zs (M : zM) : Nat := M.2.2.2.2.2
def zup {α : Type} (f : Nat → Nat → α) (a k : Nat) (v : α) : Nat → Nat → α := fun b j => if b = a ∧ j = k then v else f b j
def zwi (M : zM) (a k : Nat) (v : Int32) : zM := (zup M.1 a k v, M.2)
def zwr (M : zM) (a k : Nat) (v : Option Nat) : zM := (M.1, zup M.2.1 a k v, M.2.2)
def zwl (M : zM) (a k : Nat) (v : Int64) : zM := (M.1, M.2.1, zup M.2.2.1 a k v, M.2.2.2)
/-- a new cell of a kind -/
def znw (M : zM) (t n c : Nat) : zM := (M.1, M.2.1, M.2.2.1, (fun a => if a = M.2.2.2.2.1 then (t, n) else M.2.2.2.1 a), M.2.2.2.2.1 + 1, M.2.2.2.2.2 + c)
/-- n ints of cell a0 from s on come to cell a from d on -/
def zcp (M : zM) (a0 s a d n : Nat) : zM := ((fun b j => if b = a ∧ d ≤ j ∧ j < d + n then M.1 a0 (s + (j - d)) else M.1 b j), M.2)
/-- kinds: 0 .. 19 objects of that class; 20 int rows, 21 long rows, 22 .. rows of references -/
def zN (c : Nat) : Nat := (zFk.getD c []).length
def zF (c k : Nat) : Nat := (zFk.getD c []).getD k 0
def zgv (M : zM) (t a k : Nat) : Value := if t = 1 then va_rf (zr M a k) else .int (zi M a k)
def zMt (y : Nat) : zMT := if y < 900 then zMs.getD y (⟨"", "", ""⟩, ⟨#[]⟩, 0, none, 0, 0, 0, 0) else if y = 900 then zMtL else if y = 901 then zMtC else (x, code, maxLocals, ret, 9, 1, 2, 0)
def zNm (y : Nat) : MethodName := (zMt y).1
def zB (y : Nat) : ByteArray := (zMt y).2.1
def zML (y : Nat) : Nat := (zMt y).2.2.1
def zRt (y : Nat) : Option FieldType := (zMt y).2.2.2.1
def zO (y : Nat) : Nat := (zMt y).2.2.2.2.1
def zA (y : Nat) : Nat := (zMt y).2.2.2.2.2.1
def zRk (y : Nat) : Nat := (zMt y).2.2.2.2.2.2.1
def zP (y : Nat) : Nat := (zMt y).2.2.2.2.2.2.2
def zCall (o i : Nat) : Option (Nat × Nat) := ((zSs o).find? (fun q => q.1 == (o, i))).map (fun q => (q.2.1, q.2.2.1))
def zFld (o i : Nat) : Option (Nat × Nat) := ((zGs o).find? (fun q => q.1 == (o, i))).map (fun q => (q.2.1, q.2.2.1))
def zCls (o i : Nat) : Option Nat := (zHs.find? (fun q => q.1 == (o, i))).map (fun q => q.2.1)
def zKi (o i : Nat) : Option Int32 := (zKs.find? (fun q => q.1 == (o, i))).map (fun q => q.2.1)
def zKl (o i : Nat) : Option Int64 := (zLs.find? (fun q => q.1 == (o, i))).map (fun q => q.2.1)
def zKx (o i : Nat) : Option Nat := (zXs.find? (fun q => q.1 == (o, i))).map (fun q => q.2)
def zTx (i : Nat) : List Int32 := ((zXt.getD i "").toList.map (fun c => Int32.ofNat c.toNat))
/-- the static rows: which cell -/
def zSt (o i : Nat) : Option Nat := if o = 7 ∧ i = 300 then some 1 else if o = 3 ∧ i = 80 then some 2 else none
def zld (l : List (Nat × Value)) (i : Nat) : Option Value := (l.find? (fun q => q.1 == i)).map (fun q => q.2)
def zst (l : List (Nat × Value)) (i : Nat) (v : Value) : List (Nat × Value) := (i, v) :: l.filter (fun q => !(q.1 == i) && !(q.1 + 1 == i && q.2.category == 2))
def zcc (c : ClassFile.Cond) (x y : Int32) : Prop := match c with
  | .eq => x = y
  | .ne => ¬ x = y
  | .lt => x < y
  | .ge => y ≤ x
  | .gt => y < x
  | .le => x ≤ y
def zbr (p a b : Prop) : Prop := (p → a) ∧ (¬ p → b)
def zct (st : List Value) : Nat := (st.map fun v => v.category).sum
abbrev zKT : Type := Nat → List (Nat × Value) → List Value → zM → Prop
abbrev zRT : Type := Nat → List Value → zM → Option Value → zM → Prop
/-- an operation on two ints -/
def zb2 (m : Nat) (k : zKT) (pc : Nat) (l : List (Nat × Value)) (st : List Value) (M : zM) (n : Nat) (f : Int32 → Int32 → Int32) : Prop :=
  n = 1 ∧ ∃ x y st', st = .int y :: .int x :: st' ∧ k (pc + 1) l (.int (f x y) :: st') M
def zldI (k : zKT) (pc : Nat) (l : List (Nat × Value)) (st : List Value) (M : zM) (i d : Nat) : Prop := ∃ x : Int32, zld l i = some (.int x) ∧ k (pc + d) l (.int x :: st) M
def zldA (k : zKT) (pc : Nat) (l : List (Nat × Value)) (st : List Value) (M : zM) (i d : Nat) : Prop := ∃ r : Option Nat, zld l i = some (va_rf r) ∧ k (pc + d) l (va_rf r :: st) M
def zstI (m : Nat) (k : zKT) (pc : Nat) (l : List (Nat × Value)) (st : List Value) (M : zM) (i d : Nat) : Prop := i < zML m ∧ ∃ (x : Int32) (st' : List Value), st = .int x :: st' ∧ k (pc + d) (zst l i (.int x)) st' M
def zstA (m : Nat) (k : zKT) (pc : Nat) (l : List (Nat × Value)) (st : List Value) (M : zM) (i d : Nat) : Prop := i < zML m ∧ ∃ (r : Option Nat) (st' : List Value), st = va_rf r :: st' ∧ k (pc + d) (zst l i (va_rf r)) st' M
def zCallS (R : zRT) (k : zKT) (pc : Nat) (l : List (Nat × Value)) (M : zM) (y : Nat) (as rest : List Value) : Prop := zct rest ≤ 8 ∧ ∃ (w : Option Value) (M1 : zM), R y as M w M1 ∧ k (pc + 3) l (w.toList ++ rest) M1
/-- rows of rows: the outer cell, then n rows of ints -/
def znm2 (M : zM) (t n j : Nat) : zM :=
  (M.1, (fun a i => if a = M.2.2.2.2.1 ∧ i < n then some (M.2.2.2.2.1 + 1 + i) else M.2.1 a i), M.2.2.1, (fun a => if a = M.2.2.2.2.1 then (t, n) else if M.2.2.2.2.1 < a ∧ a ≤ M.2.2.2.2.1 + n then (20, j) else M.2.2.2.1 a), M.2.2.2.2.1 + 1 + n, M.2.2.2.2.2 + n + n * j)
/-- rows of rows of rows: the outer cell, then n times a row of q rows of j ints -/
def znm3 (M : zM) (n q j : Nat) : zM :=
  (M.1, (fun a i => if a = M.2.2.2.2.1 ∧ i < n then some (M.2.2.2.2.1 + 1 + i * (1 + q)) else if M.2.2.2.2.1 < a ∧ a ≤ M.2.2.2.2.1 + n * (1 + q) ∧ (a - M.2.2.2.2.1 - 1) % (1 + q) = 0 ∧ i < q then some (a + 1 + i) else M.2.1 a i), M.2.2.1,
    (fun a => if a = M.2.2.2.2.1 then (26, n) else if M.2.2.2.2.1 < a ∧ a ≤ M.2.2.2.2.1 + n * (1 + q) then (if (a - M.2.2.2.2.1 - 1) % (1 + q) = 0 then (25, q) else (20, j)) else M.2.2.2.1 a), M.2.2.2.2.1 + 1 + n * (1 + q), M.2.2.2.2.2 + n + n * (q + q * j))
/-- what a method's end asks of its answer -/
def zRet (y : Nat) (v : Value) : Prop := match zRk y with
  | 1 => ∃ x : Int32, v = .int x
  | 2 => v = .int 0 ∨ v = .int 1
  | 3 => False
  | _ => False
/-- one instruction -/
def zSem (R : zRT) (m : Nat) (k : zKT) (v : Option Value) (M' : zM) (pc : Nat) (l : List (Nat × Value)) (st : List Value) (M : zM) (n : Nat) (i : Instr) : Prop := match i with
  | .aconst_null => n = 1 ∧ k (pc + 1) l (.null :: st) M
  | .iconst z => n = 1 ∧ k (pc + 1) l (.int (Int32.ofInt z) :: st) M
  | .bipush z => n = 2 ∧ k (pc + 2) l (.int (Int8.ofInt z).toInt32 :: st) M
  | .sipush z => n = 3 ∧ k (pc + 3) l (.int (Int16.ofInt z).toInt32 :: st) M
  | .lconst z => n = 1 ∧ k (pc + 1) l (.long (Int64.ofNat (z : Nat)) :: st) M
  | .ldc ix => n = 2 ∧ ((∃ x, zKi (zO m) ix = some x ∧ k (pc + 2) l (.int x :: st) M) ∨ (∃ x, zKx (zO m) ix = some x ∧ k (pc + 2) l (.ref (3 + x) :: st) M))
  | .ldc_w ix => n = 3 ∧ ∃ x, zKi (zO m) ix = some x ∧ k (pc + 3) l (.int x :: st) M
  | .ldc2_w ix => n = 3 ∧ ∃ x, zKl (zO m) ix = some x ∧ k (pc + 3) l (.long x :: st) M
  | .iload_n j => n = 1 ∧ zldI k pc l st M (j : Nat) 1
  | .iload j => n = 2 ∧ zldI k pc l st M j 2
  | .aload_n j => n = 1 ∧ zldA k pc l st M (j : Nat) 1
  | .aload j => n = 2 ∧ zldA k pc l st M j 2
  | .istore_n j => n = 1 ∧ zstI m k pc l st M (j : Nat) 1
  | .istore j => n = 2 ∧ zstI m k pc l st M j 2
  | .astore_n j => n = 1 ∧ zstA m k pc l st M (j : Nat) 1
  | .astore j => n = 2 ∧ zstA m k pc l st M j 2
  | .iinc j z => n = 3 ∧ j < zML m ∧ ∃ x : Int32, zld l j = some (.int x) ∧ k (pc + 3) (zst l j (.int (x + Int32.ofInt z))) st M
  | .iadd => zb2 m k pc l st M n (fun x y => x + y)
  | .isub => zb2 m k pc l st M n (fun x y => x - y)
  | .imul => zb2 m k pc l st M n (fun x y => x * y)
  | .iand => zb2 m k pc l st M n (fun x y => x &&& y)
  | .ior => zb2 m k pc l st M n (fun x y => x ||| y)
  | .ixor => zb2 m k pc l st M n (fun x y => x ^^^ y)
  | .ishl => zb2 m k pc l st M n (fun x y => x <<< (y &&& 31))
  | .ishr => zb2 m k pc l st M n (fun x y => x >>> (y &&& 31))
  | .iushr => zb2 m k pc l st M n (fun x y => (x.toUInt32 >>> (y.toUInt32 &&& Int32.toUInt32 31)).toInt32)
  | .idiv => n = 1 ∧ ∃ x y st', st = .int y :: .int x :: st' ∧ ¬ y = 0 ∧ k (pc + 1) l (.int (x / y) :: st') M
  | .irem => n = 1 ∧ ∃ x y st', st = .int y :: .int x :: st' ∧ ¬ y = 0 ∧ k (pc + 1) l (.int (x - x / y * y) :: st') M
  | .ineg => n = 1 ∧ ∃ x st', st = .int x :: st' ∧ k (pc + 1) l (.int (-x) :: st') M
  | .i2b => n = 1 ∧ ∃ x st', st = .int x :: st' ∧ k (pc + 1) l (.int x.toInt8.toInt32 :: st') M
  | .ladd => n = 1 ∧ ∃ x y st', st = .long y :: .long x :: st' ∧ k (pc + 1) l (.long (x + y) :: st') M
  | .lcmp => n = 1 ∧ ∃ x y st', st = .long y :: .long x :: st' ∧ k (pc + 1) l (.int (lg_cmp x y) :: st') M
  | .dup => n = 1 ∧ ∃ a st', st = a :: st' ∧ a.category = 1 ∧ k (pc + 1) l (a :: a :: st') M
  | .dup2 => n = 1 ∧ ∃ a b st', st = a :: b :: st' ∧ a.category = 1 ∧ b.category = 1 ∧ k (pc + 1) l (a :: b :: a :: b :: st') M
  | .pop => n = 1 ∧ ∃ a st', st = a :: st' ∧ a.category = 1 ∧ k (pc + 1) l st' M
  | .pop2 => n = 1 ∧ ∃ a st', st = a :: st' ∧ a.category = 2 ∧ k (pc + 1) l st' M
  | .goto off => n = 3 ∧ ∃ tgt : Nat, (pc : Int) + off = tgt ∧ k tgt l st M
  | .ifCond c off => n = 3 ∧ ∃ (x : Int32) (st' : List Value) (tgt : Nat), st = .int x :: st' ∧ (pc : Int) + off = tgt ∧ zbr (zcc c x 0) (k tgt l st' M) (k (pc + 3) l st' M)
  | .if_icmp c off => n = 3 ∧ ∃ (x y : Int32) (st' : List Value) (tgt : Nat), st = .int y :: .int x :: st' ∧ (pc : Int) + off = tgt ∧ zbr (zcc c x y) (k tgt l st' M) (k (pc + 3) l st' M)
  | .ifnull off => n = 3 ∧ ∃ (r : Option Nat) (st' : List Value) (tgt : Nat), st = va_rf r :: st' ∧ (pc : Int) + off = tgt ∧ zbr (r = none) (k tgt l st' M) (k (pc + 3) l st' M)
  | .ifnonnull off => n = 3 ∧ ∃ (r : Option Nat) (st' : List Value) (tgt : Nat), st = va_rf r :: st' ∧ (pc : Int) + off = tgt ∧ zbr (r = none) (k (pc + 3) l st' M) (k tgt l st' M)
  | .tableswitch d lo hi offs => ∃ (x : Int32) (st' : List Value), st = .int x :: st' ∧ zbr (x.toInt < lo ∨ hi < x.toInt) (∃ tgt : Nat, (pc : Int) + d = tgt ∧ k tgt l st' M) (∃ (off : Int) (tgt : Nat), offs[(x.toInt - lo).toNat]? = some off ∧ (pc : Int) + off = tgt ∧ k tgt l st' M)
  | .getfield ix => n = 3 ∧ ∃ (a : Nat) (st' : List Value) (c f : Nat), st = .ref a :: st' ∧ zFld (zO m) ix = some (c, f) ∧ zk M a = (c, 0) ∧ k (pc + 3) l (zgv M (zF c f) a f :: st') M
  | .putfield ix => n = 3 ∧ ∃ (w : Value) (a : Nat) (st' : List Value) (c f : Nat), st = w :: .ref a :: st' ∧ zFld (zO m) ix = some (c, f) ∧ zk M a = (c, 0) ∧ (((zCl.getD c ("", zT0, 0)).2.1 f).2.2.2 = true → (zNm m).name = "<init>" ∧ zO m = c) ∧
      ((zF c f = 0 ∧ ∃ x, w = .int x ∧ k (pc + 3) l st' (zwi M a f x)) ∨ (zF c f = 2 ∧ ∃ x, w = .int x ∧ (x = 0 ∨ x = 1) ∧ k (pc + 3) l st' (zwi M a f x)) ∨ (zF c f = 1 ∧ ∃ r, w = va_rf r ∧ k (pc + 3) l st' (zwr M a f r)))
  | .getstatic ix => n = 3 ∧ ∃ a, zSt (zO m) ix = some a ∧ k (pc + 3) l (.ref a :: st) M
  | .arraylength => n = 1 ∧ ∃ (a : Nat) (st' : List Value) (N : Nat), st = .ref a :: st' ∧ (zk M a = (20, N) ∨ zk M a = (21, N) ∨ (a < 3 ∧ zk M a = (30, N))) ∧ k (pc + 1) l (.int (Int32.ofNat N) :: st') M
  | .iaload => n = 1 ∧ ∃ (j : Int32) (a : Nat) (st' : List Value) (N : Nat), st = .int j :: .ref a :: st' ∧ (zk M a = (20, N) ∨ (a < 3 ∧ zk M a = (30, N))) ∧ vp_in j N ∧ k (pc + 1) l (.int (zi M a j.toNatClampNeg) :: st') M
  | .laload => n = 1 ∧ ∃ (j : Int32) (a : Nat) (st' : List Value) (N : Nat), st = .int j :: .ref a :: st' ∧ zk M a = (21, N) ∧ vp_in j N ∧ k (pc + 1) l (.long (zl M a j.toNatClampNeg) :: st') M
  | .aaload => n = 1 ∧ ∃ (j : Int32) (a : Nat) (st' : List Value) (t N : Nat), st = .int j :: .ref a :: st' ∧ zk M a = (t, N) ∧ 22 ≤ t ∧ t < 27 ∧ vp_in j N ∧ k (pc + 1) l (va_rf (zr M a j.toNatClampNeg) :: st') M
  | .iastore => n = 1 ∧ ∃ (x j : Int32) (a : Nat) (st' : List Value) (N : Nat), st = .int x :: .int j :: .ref a :: st' ∧ zk M a = (20, N) ∧ vp_in j N ∧ k (pc + 1) l st' (zwi M a j.toNatClampNeg x)
  | .lastore => n = 1 ∧ ∃ (x : Int64) (j : Int32) (a : Nat) (st' : List Value) (N : Nat), st = .long x :: .int j :: .ref a :: st' ∧ zk M a = (21, N) ∧ vp_in j N ∧ k (pc + 1) l st' (zwl M a j.toNatClampNeg x)
  | .aastore => n = 1 ∧ ∃ (b : Nat) (j : Int32) (a : Nat) (st' : List Value) (t N : Nat), st = .ref b :: .int j :: .ref a :: st' ∧ zk M a = (t, N) ∧ ((t = 22 ∧ zk M b = (1, 0)) ∨ (t = 23 ∧ zk M b = (5, 0)) ∨ (t = 24 ∧ zk M b = (4, 0))) ∧ vp_in j N ∧ k (pc + 1) l st' (zwr M a j.toNatClampNeg (some b))
  | .new ix => n = 3 ∧ ∃ c, zCls (zO m) ix = some c ∧ c < 9 ∧ k (pc + 3) l (.ref (zn M) :: st) (znw M c 0 (zN c))
  | .newarray t => n = 2 ∧ ∃ (z : Int32) (st' : List Value) (N : Nat), st = .int z :: st' ∧ ¬ z < 0 ∧ z.toNatClampNeg = N ∧ N ≤ 65536 ∧ ((t = .int ∧ k (pc + 2) l (.ref (zn M) :: st') (znw M 20 N N)) ∨ (t = .long ∧ k (pc + 2) l (.ref (zn M) :: st') (znw M 21 N N)))
  | .anewarray ix => n = 3 ∧ ∃ (z : Int32) (st' : List Value) (N c t : Nat), st = .int z :: st' ∧ ¬ z < 0 ∧ z.toNatClampNeg = N ∧ N ≤ 65536 ∧ zCls (zO m) ix = some c ∧ ((c = 1 ∧ t = 22) ∨ (c = 5 ∧ t = 23) ∨ (c = 4 ∧ t = 24)) ∧ k (pc + 3) l (.ref (zn M) :: st') (znw M t N N)
  | .multianewarray ix d => n = 4 ∧ ∃ (z j : Int32) (st' : List Value) (N J : Nat), ¬ z < 0 ∧ ¬ j < 0 ∧ z.toNatClampNeg = N ∧ j.toNatClampNeg = J ∧ N ≤ 4096 ∧ J ≤ 4096 ∧
      ((d = 2 ∧ zCls (zO m) ix = some 25 ∧ st = .int j :: .int z :: st' ∧ k (pc + 4) l (.ref (zn M) :: st') (znm2 M 25 N J)) ∨
       (d = 3 ∧ zCls (zO m) ix = some 26 ∧ ∃ (y : Int32) (K : Nat), ¬ y < 0 ∧ y.toNatClampNeg = K ∧ K ≤ 4096 ∧ st = .int j :: .int y :: .int z :: st' ∧ k (pc + 4) l (.ref (zn M) :: st') (znm3 M N K J)))
  | .invokevirtual ix => n = 3 ∧ ∃ (kd y : Nat) (b : Nat) (as rest : List Value), zCall (zO m) ix = some (kd, y) ∧ st = as.reverse ++ .ref b :: rest ∧
      ((kd = 0 ∧ as.length = zA y ∧ zk M b = (zO y, 0) ∧ zCallS R k pc l M y (.ref b :: as) rest) ∨ ((kd = 8 ∨ kd = 9) ∧ zCallS R k pc l M y (.ref b :: as) rest))
  | .invokestatic ix => n = 3 ∧ ∃ (kd y : Nat), zCall (zO m) ix = some (kd, y) ∧
      (((kd = 1 ∨ kd = 4) ∧ ∃ (as rest : List Value), st = as.reverse ++ rest ∧ as.length = zA y ∧ zCallS R k pc l M y as rest) ∨
       (kd = 7 ∧ ∃ (N dp sp : Int32) (a a0 : Nat) (rest : List Value) (n0 n1 : Nat), st = .int N :: .int dp :: .ref a :: .int sp :: .ref a0 :: rest ∧ zk M a0 = (20, n0) ∧ zk M a = (20, n1) ∧ ¬ sp < 0 ∧ ¬ dp < 0 ∧ ¬ N < 0 ∧ sp.toNatClampNeg + N.toNatClampNeg ≤ n0 ∧ dp.toNatClampNeg + N.toNatClampNeg ≤ n1 ∧ zct rest ≤ 8 ∧ k (pc + 3) l rest (zcp M a0 sp.toNatClampNeg a dp.toNatClampNeg N.toNatClampNeg)) ∨
       (kd = 10 ∧ ∃ (a b : Int32) (rest : List Value), st = .int b :: .int a :: rest ∧ zct rest ≤ 8 ∧ k (pc + 3) l (.int (if a < b then b else a) :: rest) M) ∨
       (kd = 11 ∧ ∃ (a b : Int32) (rest : List Value), st = .int b :: .int a :: rest ∧ zct rest ≤ 8 ∧ k (pc + 3) l (.int (if b < a then b else a) :: rest) M))
  | .invokespecial ix => n = 3 ∧ ∃ (kd y : Nat) (b : Nat) (as rest : List Value), zCall (zO m) ix = some (kd, y) ∧ st = as.reverse ++ .ref b :: rest ∧
      ((kd = 6 ∧ as = [] ∧ zct rest ≤ 8 ∧ k (pc + 3) l rest M) ∨ ((kd = 2 ∨ kd = 5) ∧ as.length = zA y ∧ zRk y = 0 ∧ zCallS R k pc l M y (.ref b :: as) rest))
  | .ireturn => n = 1 ∧ ∃ x : Int32, st = [.int x] ∧ (zRk m = 1 ∨ (zRk m = 2 ∧ (x = 0 ∨ x = 1))) ∧ v = some (.int x) ∧ M' = M
  | .lreturn => n = 1 ∧ ∃ x : Int64, st = [.long x] ∧ zRk m = 3 ∧ v = some (.long x) ∧ M' = M
  | .areturn => n = 1 ∧ ∃ r : Option Nat, st = [va_rf r] ∧ zRk m = 4 ∧ v = some (va_rf r) ∧ M' = M
  | .return_ => n = 1 ∧ st = [] ∧ zRk m = 0 ∧ v = none ∧ M' = M
  | _ => False
/-- f instructions of a method, till its end -/
def zLoop (R : zRT) (m : Nat) (v : Option Value) (M' : zM) : Nat → zKT
  | 0 => fun _ _ _ _ => False
  | f + 1 => fun pc l st M => ∃ (i : Instr) (n : Nat), decode (zB m) pc = .ok (i, n) ∧ zSem R m (zLoop R m v M' f) v M' pc l st M n i
/-- a method's run, at most d deep -/
def zEv : Nat → zRT
  | 0 => fun _ _ _ _ _ => False
  | d + 1 => fun y as M v M' =>
    (y = 900 ∧ 6 ≤ d ∧ M' = M ∧ ∃ i, i < 6 ∧ as = [.ref (3 + i)] ∧ v = some (.int (Int32.ofNat (zTx i).length))) ∨
    (y = 901 ∧ 6 ≤ d ∧ M' = M ∧ ∃ i j, i < 6 ∧ j < (zTx i).length ∧ as = [.ref (3 + i), .int (Int32.ofNat j)] ∧ v = some (.int ((zTx i).getD j 0))) ∨
    (y < 216 ∧ zct as ≤ zML y ∧ ∃ f, zLoop (zEv d) y v M' f 0 (lv_args 0 as) [] M)
