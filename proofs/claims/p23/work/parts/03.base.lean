/-! ===== the small machine: cells by number, ints, references and longs in rows of their own; a method's run is a relation ===== -/
abbrev zM : Type := (Nat → Nat → Int32) × (Nat → Nat → Option Nat) × (Nat → Nat → Int64) × (Nat → Nat × Nat) × Nat × Nat
def zi (M : zM) : Nat → Nat → Int32 := M.1
def zr (M : zM) : Nat → Nat → Option Nat := M.2.1
def zl (M : zM) : Nat → Nat → Int64 := M.2.2.1
def zk (M : zM) : Nat → Nat × Nat := M.2.2.2.1
def zn (M : zM) : Nat := M.2.2.2.2.1
def zs (M : zM) : Nat := M.2.2.2.2.2
def zup {α : Type} (f : Nat → Nat → α) (a k : Nat) (v : α) : Nat → Nat → α := fun b j => if b = a ∧ j = k then v else f b j
def zwi (M : zM) (a k : Nat) (v : Int32) : zM := (zup M.1 a k v, M.2)
def zwr (M : zM) (a k : Nat) (v : Option Nat) : zM := (M.1, zup M.2.1 a k v, M.2.2)
def zwl (M : zM) (a k : Nat) (v : Int64) : zM := (M.1, M.2.1, zup M.2.2.1 a k v, M.2.2.2)
/-- a new cell of a kind -/
def znw (M : zM) (t n c : Nat) : zM := (M.1, M.2.1, M.2.2.1, (fun a => if a = M.2.2.2.2.1 then (t, n) else M.2.2.2.1 a), M.2.2.2.2.1 + 1, M.2.2.2.2.2 + c)
/-- n ints of cell a0 from s on come to cell a from d on -/
def zcp (M : zM) (a0 s a d n : Nat) : zM := ((fun b j => if b = a ∧ d ≤ j ∧ j < d + n then M.1 a0 (s + (j - d)) else M.1 b j), M.2)
/-- kinds: 0 .. 19 objects of that class; 20 int rows, 21 long rows, 22 .. rows of references -/
def zN (c : Nat) : Nat := (zFk.getD c []).length
def zF (c k : Nat) : Nat := (zFk.getD c []).getD k 0
def zgv (M : zM) (t a k : Nat) : Value := if t = 1 then va_rf (zr M a k) else .int (zi M a k)
def zMt (y : Nat) : zMT := if y < 900 then zMs.getD y (⟨"", "", ""⟩, ⟨#[]⟩, 0, none, 0, 0, 0, 0) else if y = 900 then zMtL else if y = 901 then zMtC else (x, code, maxLocals, ret, 9, 1, 2, 0)
def zNm (y : Nat) : MethodName := (zMt y).1
def zB (y : Nat) : ByteArray := (zMt y).2.1
def zML (y : Nat) : Nat := (zMt y).2.2.1
def zRt (y : Nat) : Option FieldType := (zMt y).2.2.2.1
def zO (y : Nat) : Nat := (zMt y).2.2.2.2.1
def zA (y : Nat) : Nat := (zMt y).2.2.2.2.2.1
def zRk (y : Nat) : Nat := (zMt y).2.2.2.2.2.2.1
def zP (y : Nat) : Nat := (zMt y).2.2.2.2.2.2.2
def zCall (o i : Nat) : Option (Nat × Nat) := ((zSs o).find? (fun q => q.1 == (o, i))).map (fun q => (q.2.1, q.2.2.1))
def zFld (o i : Nat) : Option (Nat × Nat) := ((zGs o).find? (fun q => q.1 == (o, i))).map (fun q => (q.2.1, q.2.2.1))
def zCls (o i : Nat) : Option Nat := (zHs.find? (fun q => q.1 == (o, i))).map (fun q => q.2.1)
def zKi (o i : Nat) : Option Int32 := (zKs.find? (fun q => q.1 == (o, i))).map (fun q => q.2.1)
def zKl (o i : Nat) : Option Int64 := (zLs.find? (fun q => q.1 == (o, i))).map (fun q => q.2.1)
def zKx (o i : Nat) : Option Nat := (zXs.find? (fun q => q.1 == (o, i))).map (fun q => q.2)
def zTx (i : Nat) : List Int32 := ((zXt.getD i "").toList.map (fun c => Int32.ofNat c.toNat))
/-- the static rows: which cell -/
def zSt (o i : Nat) : Option Nat := if o = 7 ∧ i = 300 then some 1 else if o = 3 ∧ i = 80 then some 2 else none
def zld (l : List (Nat × Value)) (i : Nat) : Option Value := (l.find? (fun q => q.1 == i)).map (fun q => q.2)
def zst (l : List (Nat × Value)) (i : Nat) (v : Value) : List (Nat × Value) := (i, v) :: l.filter (fun q => !(q.1 == i) && !(q.1 + 1 == i && q.2.category == 2))
def zcc (c : ClassFile.Cond) (x y : Int32) : Prop := match c with
  | .eq => x = y
  | .ne => ¬ x = y
  | .lt => x < y
  | .ge => y ≤ x
  | .gt => y < x
  | .le => x ≤ y
def zbr (p a b : Prop) : Prop := (p → a) ∧ (¬ p → b)
def zct (st : List Value) : Nat := (st.map fun v => v.category).sum
abbrev zKT : Type := Nat → List (Nat × Value) → List Value → zM → Prop
abbrev zRT : Type := Nat → List Value → zM → Option Value → zM → Prop
/-- an operation on two ints -/
def zb2 (m : Nat) (k : zKT) (pc : Nat) (l : List (Nat × Value)) (st : List Value) (M : zM) (n : Nat) (f : Int32 → Int32 → Int32) : Prop :=
  n = 1 ∧ ∃ x y st', st = .int y :: .int x :: st' ∧ k (pc + 1) l (.int (f x y) :: st') M
def zldI (k : zKT) (pc : Nat) (l : List (Nat × Value)) (st : List Value) (M : zM) (i d : Nat) : Prop := ∃ x : Int32, zld l i = some (.int x) ∧ k (pc + d) l (.int x :: st) M
def zldA (k : zKT) (pc : Nat) (l : List (Nat × Value)) (st : List Value) (M : zM) (i d : Nat) : Prop := ∃ r : Option Nat, zld l i = some (va_rf r) ∧ k (pc + d) l (va_rf r :: st) M
def zstI (m : Nat) (k : zKT) (pc : Nat) (l : List (Nat × Value)) (st : List Value) (M : zM) (i d : Nat) : Prop := i < zML m ∧ ∃ (x : Int32) (st' : List Value), st = .int x :: st' ∧ k (pc + d) (zst l i (.int x)) st' M
def zstA (m : Nat) (k : zKT) (pc : Nat) (l : List (Nat × Value)) (st : List Value) (M : zM) (i d : Nat) : Prop := i < zML m ∧ ∃ (r : Option Nat) (st' : List Value), st = va_rf r :: st' ∧ k (pc + d) (zst l i (va_rf r)) st' M
def zCallS (R : zRT) (k : zKT) (pc : Nat) (l : List (Nat × Value)) (M : zM) (y : Nat) (as rest : List Value) : Prop := zct rest ≤ 8 ∧ ∃ (w : Option Value) (M1 : zM), R y as M w M1 ∧ k (pc + 3) l (w.toList ++ rest) M1
/-- rows of rows: the outer cell, then n rows of ints -/
def znm2 (M : zM) (t n j : Nat) : zM :=
  (M.1, (fun a i => if a = M.2.2.2.2.1 ∧ i < n then some (M.2.2.2.2.1 + 1 + i) else M.2.1 a i), M.2.2.1, (fun a => if a = M.2.2.2.2.1 then (t, n) else if M.2.2.2.2.1 < a ∧ a ≤ M.2.2.2.2.1 + n then (20, j) else M.2.2.2.1 a), M.2.2.2.2.1 + 1 + n, M.2.2.2.2.2 + n + n * j)
/-- rows of rows of rows: the outer cell, then n times a row of q rows of j ints -/
def znm3 (M : zM) (n q j : Nat) : zM :=
  (M.1, (fun a i => if a = M.2.2.2.2.1 ∧ i < n then some (M.2.2.2.2.1 + 1 + i * (1 + q)) else if M.2.2.2.2.1 < a ∧ a ≤ M.2.2.2.2.1 + n * (1 + q) ∧ (a - M.2.2.2.2.1 - 1) % (1 + q) = 0 ∧ i < q then some (a + 1 + i) else M.2.1 a i), M.2.2.1,
    (fun a => if a = M.2.2.2.2.1 then (26, n) else if M.2.2.2.2.1 < a ∧ a ≤ M.2.2.2.2.1 + n * (1 + q) then (if (a - M.2.2.2.2.1 - 1) % (1 + q) = 0 then (25, q) else (20, j)) else M.2.2.2.1 a), M.2.2.2.2.1 + 1 + n * (1 + q), M.2.2.2.2.2 + n + n * (q + q * j))
/-- what a method's end asks of its answer -/
def zRet (y : Nat) (v : Value) : Prop := match zRk y with
  | 1 => ∃ x : Int32, v = .int x
  | 2 => v = .int 0 ∨ v = .int 1
  | 3 => False
  | _ => False
/-- one instruction -/
def zSem (R : zRT) (m : Nat) (k : zKT) (v : Option Value) (M' : zM) (pc : Nat) (l : List (Nat × Value)) (st : List Value) (M : zM) (n : Nat) (i : Instr) : Prop := match i with
  | .aconst_null => n = 1 ∧ k (pc + 1) l (.null :: st) M
  | .iconst z => n = 1 ∧ k (pc + 1) l (.int (Int32.ofInt z) :: st) M
  | .bipush z => n = 2 ∧ k (pc + 2) l (.int (Int8.ofInt z).toInt32 :: st) M
  | .sipush z => n = 3 ∧ k (pc + 3) l (.int (Int16.ofInt z).toInt32 :: st) M
  | .lconst z => n = 1 ∧ k (pc + 1) l (.long (Int64.ofNat (z : Nat)) :: st) M
  | .ldc ix => n = 2 ∧ ((∃ x, zKi (zO m) ix = some x ∧ k (pc + 2) l (.int x :: st) M) ∨ (∃ x, zKx (zO m) ix = some x ∧ k (pc + 2) l (.ref (3 + x) :: st) M))
  | .ldc_w ix => n = 3 ∧ ∃ x, zKi (zO m) ix = some x ∧ k (pc + 3) l (.int x :: st) M
  | .ldc2_w ix => n = 3 ∧ ∃ x, zKl (zO m) ix = some x ∧ k (pc + 3) l (.long x :: st) M
  | .iload_n j => n = 1 ∧ zldI k pc l st M (j : Nat) 1
  | .iload j => n = 2 ∧ zldI k pc l st M j 2
  | .aload_n j => n = 1 ∧ zldA k pc l st M (j : Nat) 1
  | .aload j => n = 2 ∧ zldA k pc l st M j 2
  | .istore_n j => n = 1 ∧ zstI m k pc l st M (j : Nat) 1
  | .istore j => n = 2 ∧ zstI m k pc l st M j 2
  | .astore_n j => n = 1 ∧ zstA m k pc l st M (j : Nat) 1
  | .astore j => n = 2 ∧ zstA m k pc l st M j 2
  | .iinc j z => n = 3 ∧ j < zML m ∧ ∃ x : Int32, zld l j = some (.int x) ∧ k (pc + 3) (zst l j (.int (x + Int32.ofInt z))) st M
  | .iadd => zb2 m k pc l st M n (fun x y => x + y)
  | .isub => zb2 m k pc l st M n (fun x y => x - y)
  | .imul => zb2 m k pc l st M n (fun x y => x * y)
  | .iand => zb2 m k pc l st M n (fun x y => x &&& y)
  | .ior => zb2 m k pc l st M n (fun x y => x ||| y)
  | .ixor => zb2 m k pc l st M n (fun x y => x ^^^ y)
  | .ishl => zb2 m k pc l st M n (fun x y => x <<< (y &&& 31))
  | .ishr => zb2 m k pc l st M n (fun x y => x >>> (y &&& 31))
  | .iushr => zb2 m k pc l st M n (fun x y => (x.toUInt32 >>> (y.toUInt32 &&& Int32.toUInt32 31)).toInt32)
  | .idiv => n = 1 ∧ ∃ x y st', st = .int y :: .int x :: st' ∧ ¬ y = 0 ∧ k (pc + 1) l (.int (x / y) :: st') M
  | .irem => n = 1 ∧ ∃ x y st', st = .int y :: .int x :: st' ∧ ¬ y = 0 ∧ k (pc + 1) l (.int (x - x / y * y) :: st') M
  | .ineg => n = 1 ∧ ∃ x st', st = .int x :: st' ∧ k (pc + 1) l (.int (-x) :: st') M
  | .i2b => n = 1 ∧ ∃ x st', st = .int x :: st' ∧ k (pc + 1) l (.int x.toInt8.toInt32 :: st') M
  | .ladd => n = 1 ∧ ∃ x y st', st = .long y :: .long x :: st' ∧ k (pc + 1) l (.long (x + y) :: st') M
  | .lcmp => n = 1 ∧ ∃ x y st', st = .long y :: .long x :: st' ∧ k (pc + 1) l (.int (lg_cmp x y) :: st') M
  | .dup => n = 1 ∧ ∃ a st', st = a :: st' ∧ a.category = 1 ∧ k (pc + 1) l (a :: a :: st') M
  | .dup2 => n = 1 ∧ ∃ a b st', st = a :: b :: st' ∧ a.category = 1 ∧ b.category = 1 ∧ k (pc + 1) l (a :: b :: a :: b :: st') M
  | .pop => n = 1 ∧ ∃ a st', st = a :: st' ∧ a.category = 1 ∧ k (pc + 1) l st' M
  | .pop2 => n = 1 ∧ ∃ a st', st = a :: st' ∧ a.category = 2 ∧ k (pc + 1) l st' M
  | .goto off => n = 3 ∧ ∃ tgt : Nat, (pc : Int) + off = tgt ∧ k tgt l st M
  | .ifCond c off => n = 3 ∧ ∃ (x : Int32) (st' : List Value) (tgt : Nat), st = .int x :: st' ∧ (pc : Int) + off = tgt ∧ zbr (zcc c x 0) (k tgt l st' M) (k (pc + 3) l st' M)
  | .if_icmp c off => n = 3 ∧ ∃ (x y : Int32) (st' : List Value) (tgt : Nat), st = .int y :: .int x :: st' ∧ (pc : Int) + off = tgt ∧ zbr (zcc c x y) (k tgt l st' M) (k (pc + 3) l st' M)
  | .ifnull off => n = 3 ∧ ∃ (r : Option Nat) (st' : List Value) (tgt : Nat), st = va_rf r :: st' ∧ (pc : Int) + off = tgt ∧ zbr (r = none) (k tgt l st' M) (k (pc + 3) l st' M)
  | .ifnonnull off => n = 3 ∧ ∃ (r : Option Nat) (st' : List Value) (tgt : Nat), st = va_rf r :: st' ∧ (pc : Int) + off = tgt ∧ zbr (r = none) (k (pc + 3) l st' M) (k tgt l st' M)
  | .tableswitch d lo hi offs => ∃ (x : Int32) (st' : List Value), st = .int x :: st' ∧ zbr (x.toInt < lo ∨ hi < x.toInt) (∃ tgt : Nat, (pc : Int) + d = tgt ∧ k tgt l st' M) (∃ (off : Int) (tgt : Nat), offs[(x.toInt - lo).toNat]? = some off ∧ (pc : Int) + off = tgt ∧ k tgt l st' M)
  | .getfield ix => n = 3 ∧ ∃ (a : Nat) (st' : List Value) (c f : Nat), st = .ref a :: st' ∧ zFld (zO m) ix = some (c, f) ∧ zk M a = (c, 0) ∧ k (pc + 3) l (zgv M (zF c f) a f :: st') M
  | .putfield ix => n = 3 ∧ ∃ (w : Value) (a : Nat) (st' : List Value) (c f : Nat), st = w :: .ref a :: st' ∧ zFld (zO m) ix = some (c, f) ∧ zk M a = (c, 0) ∧ (((zCl.getD c ("", zT0, 0)).2.1 f).2.2.2 = true → (zNm m).name = "<init>" ∧ zO m = c) ∧
      ((zF c f = 0 ∧ ∃ x, w = .int x ∧ k (pc + 3) l st' (zwi M a f x)) ∨ (zF c f = 2 ∧ ∃ x, w = .int x ∧ (x = 0 ∨ x = 1) ∧ k (pc + 3) l st' (zwi M a f x)) ∨ (zF c f = 1 ∧ ∃ r, w = va_rf r ∧ k (pc + 3) l st' (zwr M a f r)))
  | .getstatic ix => n = 3 ∧ ∃ a, zSt (zO m) ix = some a ∧ k (pc + 3) l (.ref a :: st) M
  | .arraylength => n = 1 ∧ ∃ (a : Nat) (st' : List Value) (N : Nat), st = .ref a :: st' ∧ (zk M a = (20, N) ∨ zk M a = (21, N) ∨ (a < 3 ∧ zk M a = (30, N))) ∧ k (pc + 1) l (.int (Int32.ofNat N) :: st') M
  | .iaload => n = 1 ∧ ∃ (j : Int32) (a : Nat) (st' : List Value) (N : Nat), st = .int j :: .ref a :: st' ∧ (zk M a = (20, N) ∨ (a < 3 ∧ zk M a = (30, N))) ∧ vp_in j N ∧ k (pc + 1) l (.int (zi M a j.toNatClampNeg) :: st') M
  | .laload => n = 1 ∧ ∃ (j : Int32) (a : Nat) (st' : List Value) (N : Nat), st = .int j :: .ref a :: st' ∧ zk M a = (21, N) ∧ vp_in j N ∧ k (pc + 1) l (.long (zl M a j.toNatClampNeg) :: st') M
  | .aaload => n = 1 ∧ ∃ (j : Int32) (a : Nat) (st' : List Value) (t N : Nat), st = .int j :: .ref a :: st' ∧ zk M a = (t, N) ∧ 22 ≤ t ∧ t < 27 ∧ vp_in j N ∧ k (pc + 1) l (va_rf (zr M a j.toNatClampNeg) :: st') M
  | .iastore => n = 1 ∧ ∃ (x j : Int32) (a : Nat) (st' : List Value) (N : Nat), st = .int x :: .int j :: .ref a :: st' ∧ zk M a = (20, N) ∧ vp_in j N ∧ k (pc + 1) l st' (zwi M a j.toNatClampNeg x)
  | .lastore => n = 1 ∧ ∃ (x : Int64) (j : Int32) (a : Nat) (st' : List Value) (N : Nat), st = .long x :: .int j :: .ref a :: st' ∧ zk M a = (21, N) ∧ vp_in j N ∧ k (pc + 1) l st' (zwl M a j.toNatClampNeg x)
  | .aastore => n = 1 ∧ ∃ (b : Nat) (j : Int32) (a : Nat) (st' : List Value) (t N : Nat), st = .ref b :: .int j :: .ref a :: st' ∧ zk M a = (t, N) ∧ ((t = 22 ∧ zk M b = (1, 0)) ∨ (t = 23 ∧ zk M b = (5, 0)) ∨ (t = 24 ∧ zk M b = (4, 0))) ∧ vp_in j N ∧ k (pc + 1) l st' (zwr M a j.toNatClampNeg (some b))
  | .new ix => n = 3 ∧ ∃ c, zCls (zO m) ix = some c ∧ c < 9 ∧ k (pc + 3) l (.ref (zn M) :: st) (znw M c 0 (zN c))
  | .newarray t => n = 2 ∧ ∃ (z : Int32) (st' : List Value) (N : Nat), st = .int z :: st' ∧ ¬ z < 0 ∧ z.toNatClampNeg = N ∧ N ≤ 65536 ∧ ((t = .int ∧ k (pc + 2) l (.ref (zn M) :: st') (znw M 20 N N)) ∨ (t = .long ∧ k (pc + 2) l (.ref (zn M) :: st') (znw M 21 N N)))
  | .anewarray ix => n = 3 ∧ ∃ (z : Int32) (st' : List Value) (N c t : Nat), st = .int z :: st' ∧ ¬ z < 0 ∧ z.toNatClampNeg = N ∧ N ≤ 65536 ∧ zCls (zO m) ix = some c ∧ ((c = 1 ∧ t = 22) ∨ (c = 5 ∧ t = 23) ∨ (c = 4 ∧ t = 24)) ∧ k (pc + 3) l (.ref (zn M) :: st') (znw M t N N)
  | .multianewarray ix d => n = 4 ∧ ∃ (z j : Int32) (st' : List Value) (N J : Nat), ¬ z < 0 ∧ ¬ j < 0 ∧ z.toNatClampNeg = N ∧ j.toNatClampNeg = J ∧ N ≤ 4096 ∧ J ≤ 4096 ∧
      ((d = 2 ∧ zCls (zO m) ix = some 25 ∧ st = .int j :: .int z :: st' ∧ k (pc + 4) l (.ref (zn M) :: st') (znm2 M 25 N J)) ∨
       (d = 3 ∧ zCls (zO m) ix = some 26 ∧ ∃ (y : Int32) (K : Nat), ¬ y < 0 ∧ y.toNatClampNeg = K ∧ K ≤ 4096 ∧ st = .int j :: .int y :: .int z :: st' ∧ k (pc + 4) l (.ref (zn M) :: st') (znm3 M N K J)))
  | .invokevirtual ix => n = 3 ∧ ∃ (kd y : Nat) (b : Nat) (as rest : List Value), zCall (zO m) ix = some (kd, y) ∧ st = as.reverse ++ .ref b :: rest ∧
      ((kd = 0 ∧ as.length = zA y ∧ zk M b = (zO y, 0) ∧ zCallS R k pc l M y (.ref b :: as) rest) ∨ ((kd = 8 ∨ kd = 9) ∧ zCallS R k pc l M y (.ref b :: as) rest))
  | .invokestatic ix => n = 3 ∧ ∃ (kd y : Nat), zCall (zO m) ix = some (kd, y) ∧
      (((kd = 1 ∨ kd = 4) ∧ ∃ (as rest : List Value), st = as.reverse ++ rest ∧ as.length = zA y ∧ zCallS R k pc l M y as rest) ∨
       (kd = 7 ∧ ∃ (N dp sp : Int32) (a a0 : Nat) (rest : List Value) (n0 n1 : Nat), st = .int N :: .int dp :: .ref a :: .int sp :: .ref a0 :: rest ∧ zk M a0 = (20, n0) ∧ zk M a = (20, n1) ∧ ¬ sp < 0 ∧ ¬ dp < 0 ∧ ¬ N < 0 ∧ sp.toNatClampNeg + N.toNatClampNeg ≤ n0 ∧ dp.toNatClampNeg + N.toNatClampNeg ≤ n1 ∧ zct rest ≤ 8 ∧ k (pc + 3) l rest (zcp M a0 sp.toNatClampNeg a dp.toNatClampNeg N.toNatClampNeg)) ∨
       (kd = 10 ∧ ∃ (a b : Int32) (rest : List Value), st = .int b :: .int a :: rest ∧ zct rest ≤ 8 ∧ k (pc + 3) l (.int (if a < b then b else a) :: rest) M) ∨
       (kd = 11 ∧ ∃ (a b : Int32) (rest : List Value), st = .int b :: .int a :: rest ∧ zct rest ≤ 8 ∧ k (pc + 3) l (.int (if b < a then b else a) :: rest) M))
  | .invokespecial ix => n = 3 ∧ ∃ (kd y : Nat) (b : Nat) (as rest : List Value), zCall (zO m) ix = some (kd, y) ∧ st = as.reverse ++ .ref b :: rest ∧
      ((kd = 6 ∧ as = [] ∧ zct rest ≤ 8 ∧ k (pc + 3) l rest M) ∨ ((kd = 2 ∨ kd = 5) ∧ as.length = zA y ∧ zRk y = 0 ∧ zCallS R k pc l M y (.ref b :: as) rest))
  | .ireturn => n = 1 ∧ ∃ x : Int32, st = [.int x] ∧ (zRk m = 1 ∨ (zRk m = 2 ∧ (x = 0 ∨ x = 1))) ∧ v = some (.int x) ∧ M' = M
  | .lreturn => n = 1 ∧ ∃ x : Int64, st = [.long x] ∧ zRk m = 3 ∧ v = some (.long x) ∧ M' = M
  | .areturn => n = 1 ∧ ∃ r : Option Nat, st = [va_rf r] ∧ zRk m = 4 ∧ v = some (va_rf r) ∧ M' = M
  | .return_ => n = 1 ∧ st = [] ∧ zRk m = 0 ∧ v = none ∧ M' = M
  | _ => False
/-- f instructions of a method, till its end -/
def zLoop (R : zRT) (m : Nat) (v : Option Value) (M' : zM) : Nat → zKT
  | 0 => fun _ _ _ _ => False
  | f + 1 => fun pc l st M => ∃ (i : Instr) (n : Nat), decode (zB m) pc = .ok (i, n) ∧ zSem R m (zLoop R m v M' f) v M' pc l st M n i
/-- a method's run, at most d deep -/
def zEv : Nat → zRT
  | 0 => fun _ _ _ _ _ => False
  | d + 1 => fun y as M v M' =>
    (y = 900 ∧ 6 ≤ d ∧ M' = M ∧ ∃ i, i < 6 ∧ as = [.ref (3 + i)] ∧ v = some (.int (Int32.ofNat (zTx i).length))) ∨
    (y = 901 ∧ 6 ≤ d ∧ M' = M ∧ ∃ i j, i < 6 ∧ j < (zTx i).length ∧ as = [.ref (3 + i), .int (Int32.ofNat j)] ∧ v = some (.int ((zTx i).getD j 0))) ∨
    (y < 216 ∧ zct as ≤ zML y ∧ ∃ f, zLoop (zEv d) y v M' f 0 (lv_args 0 as) [] M)
/-! ===== what the tables say, checked by the kernel ===== -/
def zW : List Cond := lw_tbl.filter goodWord
theorem zW_in {w : Cond} (i : Nat) (h : lw_tbl[i]? = some w) (g : goodWord w = true) : w ∈ zW := List.mem_filter.mpr ⟨List.mem_of_getElem? h, g⟩
theorem zW_good : GoodIn zW zW := fun w h => ⟨h, good_of_word (List.mem_filter.mp h).2⟩
theorem zW_sub : ∀ w ∈ zW, w ∈ lw_tbl := fun _ h => (List.mem_filter.mp h).1
def zSw (q : zST) : List Cond := match q.2.1 with
  | 0 => [.methodLink (zRn q.1.1) q.1.2 (zNm q.2.2.1), .instanceMethod (zNm q.2.2.1), .selects (zNm q.2.2.1).cls (zNm q.2.2.1) (zNm q.2.2.1), .initialized (zNm q.2.2.1).cls]
  | 1 => [.methodLink (zRn q.1.1) q.1.2 (zNm q.2.2.1), .static (zNm q.2.2.1), .initialized (zNm q.2.2.1).cls]
  | 2 => [.methodLink (zRn q.1.1) q.1.2 (zNm q.2.2.1), .instanceMethod (zNm q.2.2.1), .initialized (zNm q.2.2.1).cls]
  | 4 => [.static (zNm q.2.2.1), .initialized (zNm q.2.2.1).cls]
  | 5 => [.instanceMethod (zNm q.2.2.1), .initialized (zNm q.2.2.1).cls]
  | 6 => [.methodLink (zRn q.1.1) q.1.2 objectInit, .instanceMethod objectInit, .code objectInit object_method_1_code 1 none]
  | 7 => [.methodLink (zRn q.1.1) q.1.2 arraycopyName, .native arraycopyName, .static arraycopyName, .initialized "java/lang/System"]
  | 10 => [.methodLink (zRn q.1.1) q.1.2 Lib.Math.max.name, .static Lib.Math.max.name, .initialized "java/lang/Math"]
  | 11 => [.methodLink (zRn q.1.1) q.1.2 Lib.Math.min.name, .static Lib.Math.min.name, .initialized "java/lang/Math"]
  | _ => [.methodLink (zRn q.1.1) q.1.2 (zNm q.2.2.1), .instanceMethod (zNm q.2.2.1), .selects (zNm q.2.2.1).cls (zNm q.2.2.1) (zNm q.2.2.1), .initialized (zNm q.2.2.1).cls]
def zSwOk (o : Nat) (q : zST) : Bool := decide (zSw q = q.2.2.2.filterMap (fun i => lw_tbl[i]?)) && (zSw q).all goodWord && decide (q.1.1 = o) && decide (q.2.1 = 8 → q.2.2.1 = 900) && decide (q.2.1 = 9 → q.2.2.1 = 901) && decide (q.2.1 < 6 → q.2.2.1 < 216) && decide (q.2.1 = 0 → zO q.2.2.1 < 9) && decide ((q.2.1 = 2 ∨ q.2.1 = 5) → (zNm q.2.2.1).name = "<init>") && decide ((q.2.1 = 4 ∨ q.2.1 = 5) → zNs.any (fun r => decide (r.1 = q.1 ∧ r.2.1 = q.2.2.1)) = true)
theorem zS_0 : zSs0.all (zSwOk 0) = true := by decide +kernel
theorem zS_1 : zSs1.all (zSwOk 1) = true := by decide +kernel
theorem zS_2 : zSs2.all (zSwOk 2) = true := by decide +kernel
theorem zS_3 : zSs3.all (zSwOk 3) = true := by decide +kernel
theorem zS_4 : zSs4.all (zSwOk 4) = true := by decide +kernel
theorem zS_5 : zSs5.all (zSwOk 5) = true := by decide +kernel
theorem zS_6 : zSs6.all (zSwOk 6) = true := by decide +kernel
theorem zS_7 : zSs7.all (zSwOk 7) = true := by decide +kernel
theorem zS_8 : zSs8.all (zSwOk 8) = true := by decide +kernel
theorem zS_9 : zSs9.all (zSwOk 9) = true := by decide +kernel
theorem zS_10 : zSs10.all (zSwOk 10) = true := by decide +kernel
theorem zS_11 : zSs11.all (zSwOk 11) = true := by decide +kernel
theorem zS_12 : zSs12.all (zSwOk 12) = true := by decide +kernel
theorem zS_13 : zSs13.all (zSwOk 13) = true := by decide +kernel
theorem zS_14 : zSs14.all (zSwOk 14) = true := by decide +kernel
theorem zS_15 : zSs15.all (zSwOk 15) = true := by decide +kernel
theorem zS_all (o : Nat) : ∀ q ∈ zSs o, zSwOk o q = true := by
  intro q hq
  unfold zSs at hq
  split at hq
  · exact List.all_eq_true.mp zS_0 q hq
  · exact List.all_eq_true.mp zS_1 q hq
  · exact List.all_eq_true.mp zS_2 q hq
  · exact List.all_eq_true.mp zS_3 q hq
  · exact List.all_eq_true.mp zS_4 q hq
  · exact List.all_eq_true.mp zS_5 q hq
  · exact List.all_eq_true.mp zS_6 q hq
  · exact List.all_eq_true.mp zS_7 q hq
  · exact List.all_eq_true.mp zS_8 q hq
  · exact List.all_eq_true.mp zS_9 q hq
  · exact List.all_eq_true.mp zS_10 q hq
  · exact List.all_eq_true.mp zS_11 q hq
  · exact List.all_eq_true.mp zS_12 q hq
  · exact List.all_eq_true.mp zS_13 q hq
  · exact List.all_eq_true.mp zS_14 q hq
  · exact List.all_eq_true.mp zS_15 q hq
  · cases hq
/-- a call site's words -/
theorem zCall_w {o i kd y : Nat} (h : zCall o i = some (kd, y)) : (∀ w ∈ zSw ((o, i), kd, y, []), w ∈ zW) ∧ (kd = 8 → y = 900) ∧ (kd = 9 → y = 901) ∧ (kd < 6 → y < 216) ∧ (kd = 0 → zO y < 9) ∧ ((kd = 2 ∨ kd = 5) → (zNm y).name = "<init>") ∧ ((kd = 4 ∨ kd = 5) → ∃ r ∈ zNs, r.1 = (o, i) ∧ r.2.1 = y) := by
  unfold zCall at h
  cases hf : (zSs o).find? (fun q => q.1 == (o, i)) with
  | none => rw [hf] at h; cases h
  | some q =>
    rw [hf] at h
    simp only [Option.map_some, Option.some.injEq, Prod.mk.injEq] at h
    obtain ⟨rfl, rfl⟩ := h
    have hm := List.mem_of_find?_eq_some hf
    have he := List.find?_some hf
    have e1 : q.1 = (o, i) := by simpa using he
    have hk := zS_all o q hm
    simp only [zSwOk, Bool.and_eq_true, decide_eq_true_eq] at hk
    obtain ⟨⟨⟨⟨⟨⟨⟨⟨k1, k2⟩, k3⟩, k4⟩, k5⟩, k6⟩, k7⟩, k8⟩, k9⟩ := hk
    obtain ⟨q1, q2, q3, q4⟩ := q
    simp only at e1
    subst e1
    refine ⟨fun w hw => ?_, k4, k5, k6, k7, k8, fun hq => ?_⟩
    · have hw : w ∈ zSw ((o, i), q2, q3, q4) := hw
      have g := List.all_eq_true.mp k2 w hw
      rw [k1] at hw
      obtain ⟨j, -, hj⟩ := List.mem_filterMap.mp hw
      exact zW_in j hj g
    · have h2 := k9 hq
      obtain ⟨r, h3, h4⟩ := List.any_eq_true.mp h2
      exact ⟨r, h3, of_decide_eq_true h4⟩
def zRkOk (r : Option FieldType) (k : Nat) : Bool := match k with
  | 0 => decide (r = none)
  | 1 => decide (r = some .int)
  | 2 => decide (r = some .boolean)
  | 3 => decide (r = some .long)
  | _ => match r with
    | some (.object _) => true
    | some (.array _) => true
    | _ => false
def zMok (q : zMT) : Bool := plainName q.1.cls && decide (q.1.cls ≠ "java/lang/invoke/MethodHandle") && decide (q.1.cls ≠ "java/lang/invoke/VarHandle") && decide ((parseMethodDescriptor q.1.desc).map (fun d => d.parameters.length) = some q.2.2.2.2.2.1) &&
  goodWord (.code q.1 q.2.1 q.2.2.1 q.2.2.2.1) && decide (q.2.2.1 ≤ 30) && decide (q.1.cls = zRn q.2.2.2.2.1) && zRkOk q.2.2.2.1 q.2.2.2.2.2.2.1
theorem zM_all : zMs.all zMok = true := by decide +kernel
theorem zMs_len : zMs.length = 216 := by decide +kernel
theorem zMt_mem {y : Nat} (h : y < 216) : zMt y ∈ zMs := by
  unfold zMt
  rw [if_pos (by omega), List.getD_eq_getElem?_getD, List.getElem?_eq_getElem (by rw [zMs_len]; exact h)]
  exact List.getElem_mem _
theorem zM_ok {y : Nat} (h : y < 216) : plainName (zNm y).cls = true ∧ ((zNm y).cls ≠ "java/lang/invoke/MethodHandle" ∧ (zNm y).cls ≠ "java/lang/invoke/VarHandle") ∧ (parseMethodDescriptor (zNm y).desc).map (fun d => d.parameters.length) = some (zA y) ∧
    Cond.code (zNm y) (zB y) (zML y) (zRt y) ∈ zW ∧ zML y ≤ 30 ∧ (zNm y).cls = zRn (zO y) ∧ zRkOk (zRt y) (zRk y) = true := by
  have hk := List.all_eq_true.mp zM_all _ (zMt_mem h)
  have hw := zMw_all _ (zMt_mem h)
  unfold zNm
  simp only [zMok, Bool.and_eq_true, decide_eq_true_eq] at hk
  obtain ⟨⟨⟨⟨⟨⟨⟨k1, k2⟩, k3⟩, k4⟩, k6⟩, k7⟩, k8⟩, k9⟩ := hk
  exact ⟨k1, ⟨k2, k3⟩, k4, zW_in _ hw k6, k7, k8, k9⟩
/-- the words of nest mates: they go through the contracts' starts -/
def zNw : List Cond := (zNs.map fun q => Cond.methodLinkNest (zRn q.1.1) q.1.2 (zNm q.2.1) "SagaDesk") ++ [.fieldLinkNest "SagaDesk$Reader" 80 "SagaDesk" "ACCOUNTS_OF" "[I" "SagaDesk"]
theorem zNw_in : ∀ w ∈ zNw, w ∈ lw_tbl := by decide +kernel
def zClT (c : Nat) : u_T := (zCl.getD c ("", zT0, 0)).2.1
def zClN (c : Nat) : String := (zCl.getD c ("", zT0, 0)).1
def zYT (c : Nat) : Nat → FieldType := [zY0, zY1, zY2, zY3, zY4, zY5, zY6, zY7, zY8].getD c zY0
def zGok (o : Nat) (q : zGT) : Bool := decide (lw_tbl[q.2.2.2]? = some (.fieldLink (zRn q.1.1) q.1.2 (zClT q.2.1 q.2.2.1).1 (zClT q.2.1 q.2.2.1).2.1 (zClT q.2.1 q.2.2.1).2.2.1)) && goodWord (.fieldLink (zRn q.1.1) q.1.2 (zClT q.2.1 q.2.2.1).1 (zClT q.2.1 q.2.2.1).2.1 (zClT q.2.1 q.2.2.1).2.2.1) && decide (q.1.1 = o) && decide (q.2.1 < 9) && decide (q.2.2.1 < zN q.2.1)
theorem zG_0 : zGs0.all (zGok 0) = true := by decide +kernel
theorem zG_1 : zGs1.all (zGok 1) = true := by decide +kernel
theorem zG_2 : zGs2.all (zGok 2) = true := by decide +kernel
theorem zG_3 : zGs3.all (zGok 3) = true := by decide +kernel
theorem zG_4 : zGs4.all (zGok 4) = true := by decide +kernel
theorem zG_5 : zGs5.all (zGok 5) = true := by decide +kernel
theorem zG_6 : zGs6.all (zGok 6) = true := by decide +kernel
theorem zG_7 : zGs7.all (zGok 7) = true := by decide +kernel
theorem zG_8 : zGs8.all (zGok 8) = true := by decide +kernel
theorem zG_all (o : Nat) : ∀ q ∈ zGs o, zGok o q = true := by
  intro q hq
  unfold zGs at hq
  split at hq
  · exact List.all_eq_true.mp zG_0 q hq
  · exact List.all_eq_true.mp zG_1 q hq
  · exact List.all_eq_true.mp zG_2 q hq
  · exact List.all_eq_true.mp zG_3 q hq
  · exact List.all_eq_true.mp zG_4 q hq
  · exact List.all_eq_true.mp zG_5 q hq
  · exact List.all_eq_true.mp zG_6 q hq
  · exact List.all_eq_true.mp zG_7 q hq
  · exact List.all_eq_true.mp zG_8 q hq
  all_goals cases hq
/-- a field site's word -/
theorem zFld_w {o i c f : Nat} (h : zFld o i = some (c, f)) : Cond.fieldLink (zRn o) i (zClT c f).1 (zClT c f).2.1 (zClT c f).2.2.1 ∈ zW ∧ c < 9 ∧ f < zN c := by
  unfold zFld at h
  cases hf : (zGs o).find? (fun q => q.1 == (o, i)) with
  | none => rw [hf] at h; cases h
  | some q =>
    rw [hf] at h
    simp only [Option.map_some, Option.some.injEq, Prod.mk.injEq] at h
    obtain ⟨rfl, rfl⟩ := h
    have hm := List.mem_of_find?_eq_some hf
    have he := List.find?_some hf
    have e1 : q.1 = (o, i) := by simpa using he
    have hk := zG_all o q hm
    simp only [zGok, Bool.and_eq_true, decide_eq_true_eq] at hk
    obtain ⟨⟨⟨⟨k1, k2⟩, k3⟩, k4⟩, k5⟩ := hk
    rw [e1] at k1 k2
    exact ⟨zW_in _ k1 k2, k4, k5⟩
def zHok (q : (Nat × Nat) × Nat × Nat) : Bool := if q.2.1 < 9 then decide (lw_tbl[q.2.2]? = some (.classLink (zRn q.1.1) q.1.2 (zClN q.2.1))) && goodWord (.classLink (zRn q.1.1) q.1.2 (zClN q.2.1)) else if q.2.1 = 25 then decide (lw_tbl[q.2.2]? = some (.classLink (zRn q.1.1) q.1.2 "[[I")) && goodWord (.classLink (zRn q.1.1) q.1.2 "[[I") else decide (q.2.1 = 26) && decide (lw_tbl[q.2.2]? = some (.classLink (zRn q.1.1) q.1.2 "[[[I")) && goodWord (.classLink (zRn q.1.1) q.1.2 "[[[I")
theorem zH_all : zHs.all zHok = true := by decide +kernel
def zHw (c : Nat) : String := if c < 9 then zClN c else if c = 25 then "[[I" else "[[[I"
theorem zCls_w {o i c : Nat} (h : zCls o i = some c) : Cond.classLink (zRn o) i (zHw c) ∈ zW := by
  unfold zCls at h
  cases hf : zHs.find? (fun q => q.1 == (o, i)) with
  | none => rw [hf] at h; cases h
  | some q =>
    rw [hf] at h
    simp only [Option.map_some, Option.some.injEq] at h
    subst h
    have hm := List.mem_of_find?_eq_some hf
    have he := List.find?_some hf
    have e1 : q.1 = (o, i) := by simpa using he
    have hk := List.all_eq_true.mp zH_all q hm
    unfold zHok at hk
    unfold zHw
    rw [e1] at hk
    split at hk
    · rename_i h9
      rw [if_pos h9]
      simp only [Bool.and_eq_true, decide_eq_true_eq] at hk
      exact zW_in _ hk.1 hk.2
    · rename_i h9
      rw [if_neg h9]
      split at hk
      · rename_i h5
        rw [if_pos h5]
        simp only [Bool.and_eq_true, decide_eq_true_eq] at hk
        exact zW_in _ hk.1 hk.2
      · rename_i h5
        rw [if_neg h5]
        simp only [Bool.and_eq_true, decide_eq_true_eq] at hk
        exact zW_in _ hk.1.2 hk.2
theorem zK_all : zKs.all (fun q => decide (lw_tbl[q.2.2]? = some (.constant (zRn q.1.1) q.1.2 q.2.1)) && goodWord (.constant (zRn q.1.1) q.1.2 q.2.1)) = true := by decide +kernel
theorem zKi_w {o i : Nat} {x : Int32} (h : zKi o i = some x) : Cond.constant (zRn o) i x ∈ zW := by
  unfold zKi at h
  cases hf : zKs.find? (fun q => q.1 == (o, i)) with
  | none => rw [hf] at h; cases h
  | some q =>
    rw [hf] at h
    simp only [Option.map_some, Option.some.injEq] at h
    subst h
    have hm := List.mem_of_find?_eq_some hf
    have he := List.find?_some hf
    have e1 : q.1 = (o, i) := by simpa using he
    have hk := List.all_eq_true.mp zK_all q hm
    simp only [Bool.and_eq_true, decide_eq_true_eq] at hk
    rw [e1] at hk
    exact zW_in _ hk.1 hk.2
theorem zL_all : zLs.all (fun q => decide (lw_tbl[q.2.2]? = some (.constantLong (zRn q.1.1) q.1.2 q.2.1)) && goodWord (.constantLong (zRn q.1.1) q.1.2 q.2.1)) = true := by decide +kernel
theorem zKl_w {o i : Nat} {x : Int64} (h : zKl o i = some x) : Cond.constantLong (zRn o) i x ∈ zW := by
  unfold zKl at h
  cases hf : zLs.find? (fun q => q.1 == (o, i)) with
  | none => rw [hf] at h; cases h
  | some q =>
    rw [hf] at h
    simp only [Option.map_some, Option.some.injEq] at h
    subst h
    have hm := List.mem_of_find?_eq_some hf
    have he := List.find?_some hf
    have e1 : q.1 = (o, i) := by simpa using he
    have hk := List.all_eq_true.mp zL_all q hm
    simp only [Bool.and_eq_true, decide_eq_true_eq] at hk
    rw [e1] at hk
    exact zW_in _ hk.1 hk.2
/-- the classes: their words, the kinds of their fields -/
theorem zC_lay : (List.range 9).all (fun c => (u_ws (zClN c) (zClT c) (zN c)).all (fun w => goodWord w && decide (w ∈ lw_tbl))) = true := by decide +kernel
theorem zC_cl : ∀ c, c < 9 → zCl[c]? = some (zClN c, zClT c, zN c)
  | 0, _ | 1, _ | 2, _ | 3, _ | 4, _ | 5, _ | 6, _ | 7, _ | 8, _ => rfl
  | _ + 9, h => absurd h (by omega)
theorem zC_new : (List.range 9).all (fun c => goodWord (.instantiable (zClN c) (zN c)) && decide (Cond.instantiable (zClN c) (zN c) ∈ lw_tbl) && goodWord (.initialized (zClN c)) && decide (Cond.initialized (zClN c) ∈ lw_tbl)) = true := by decide +kernel
theorem zC_ty : ∀ c, c < 9 → ∀ f, f < zN c → parseFieldDescriptor (zClT c f).2.2.1 = some (zYT c f) ∧ ((zF c f = 0 ∧ zYT c f = .int) ∨ (zF c f = 2 ∧ zYT c f = .boolean) ∨ (zF c f = 1 ∧ (zYT c f).isReference = true)) ∧ (zClT c f).1 = zClN c := by decide +kernel
theorem zC_nm : ∀ c, c < 9 → ∀ a, a < zN c → ∀ b, b < zN c → a ≠ b → (zClT c a).2.1 ≠ (zClT c b).2.1 := by decide +kernel
theorem zC_nr : ∀ c, c < 9 → zClN c = zRn c := by decide +kernel
theorem zC_ok {c : Nat} (h : c < 9) : zCl[c]? = some (zClN c, zClT c, zN c) ∧ (∀ w ∈ u_ws (zClN c) (zClT c) (zN c), w ∈ zW) ∧ Cond.instantiable (zClN c) (zN c) ∈ zW ∧ Cond.initialized (zClN c) ∈ zW := by
  have h1 := List.all_eq_true.mp zC_lay c (List.mem_range.mpr h)
  have h2 := List.all_eq_true.mp zC_new c (List.mem_range.mpr h)
  simp only [Bool.and_eq_true, decide_eq_true_eq] at h2
  refine ⟨zC_cl c h, fun w hw => ?_, List.mem_filter.mpr ⟨h2.1.1.2, h2.1.1.1⟩, List.mem_filter.mpr ⟨h2.2, h2.1.2⟩⟩
  have h3 := List.all_eq_true.mp h1 w hw
  simp only [Bool.and_eq_true, decide_eq_true_eq] at h3
  exact List.mem_filter.mpr ⟨h3.2, h3.1⟩
theorem zAw_i : Cond.arrayClass (newarray.typeOf .int) ∈ zW := List.mem_filter.mpr ⟨by decide +kernel, by decide⟩
theorem zAw_l : Cond.arrayClass (newarray.typeOf .long) ∈ zW := List.mem_filter.mpr ⟨by decide +kernel, by decide⟩
/-! ===== the small machine's cells as the machine's ===== -/
abbrev zX : Type := Nat × (Nat → Nat) × (Nat → ClassId) × va_G × Nat × (Nat → Int32) × (Nat → Nat)
def zb (Z : zX) : Nat := Z.1
def zsp (Z : zX) : Nat → Nat := Z.2.1
def zcy (Z : zX) : Nat → ClassId := Z.2.2.1
def zD (Z : zX) : va_G := Z.2.2.2.1
def zLn (Z : zX) : Nat := Z.2.2.2.2.1
def zxs (Z : zX) : Nat → Int32 := Z.2.2.2.2.2.1
def zav (Z : zX) : Nat → Nat := Z.2.2.2.2.2.2
def zρ (Z : zX) (a : Nat) : Nat := if a < 16 then zsp Z a else zb Z + (a - 16)
def zAd (Z : zX) : Nat → Prop := fun q => zb Z ≤ q
def zτ (Z : zX) (v : Value) : Value := match v with
  | .ref a => .ref (zρ Z a)
  | w => w
theorem zτ_cat (Z : zX) (v : Value) : (zτ Z v).category = v.category := by cases v <;> rfl
theorem zτ_rf (Z : zX) (r : Option Nat) : zτ Z (va_rf r) = va_rf (r.map (zρ Z)) := by cases r <;> rfl
def zlm (Z : zX) (l : List (Nat × Value)) : List (Nat × Value) := l.map fun q => (q.1, zτ Z q.2)
def zent (Z : zX) (M : zM) (a : Nat) : va_E :=
  if (zk M a).1 < 20 then .inr ((zk M a).1, (List.range (zN (zk M a).1)).map fun j => zτ Z (zgv M (zF (zk M a).1 j) a j))
  else if (zk M a).1 = 20 then .inl (zcy Z 20, (zk M a).2, .inl (zi M a))
  else if (zk M a).1 = 21 then .inl (zcy Z 21, (zk M a).2, .inr (.inl (zl M a)))
  else .inl (zcy Z (zk M a).1, (zk M a).2, .inr (.inr (.inr (.inr fun j => (zr M a j).map (zρ Z)))))
def zws (Z : zX) (M : zM) : va_W := (List.range (zn M - 16)).map fun i => (zρ Z (16 + i), zent Z M (16 + i))
def zTy (Z : zX) : List (ClassId × FieldType) := [(zcy Z 20, .int), (zcy Z 21, .long), (zcy Z 22, .object "SagaDesk$Program"), (zcy Z 23, .object "SagaDesk$Saga"), (zcy Z 24, .object "SagaDesk$Row"), (zcy Z 25, .array .int), (zcy Z 26, .array (.array .int))]
theorem zρ_own {Z : zX} {a : Nat} (h : 16 ≤ a) : zρ Z a = zb Z + (a - 16) := if_neg (by omega)
theorem zws_get {Z : zX} {M : zM} {a : Nat} (h1 : 16 ≤ a) (h2 : a < zn M) : (zws Z M)[a - 16]? = some (zρ Z a, zent Z M a) := by
  unfold zws
  rw [List.getElem?_map, List.getElem?_range (by omega)]
  show some (zρ Z (16 + (a - 16)), zent Z M (16 + (a - 16))) = _
  rw [show 16 + (a - 16) = a by omega]
theorem zws_len (Z : zX) (M : zM) : (zws Z M).length = zn M - 16 := by unfold zws; rw [List.length_map, List.length_range]
theorem zws_at {Z : zX} {M : zM} {i : Nat} {q : Nat × va_E} (h : (zws Z M)[i]? = some q) : i < zn M - 16 ∧ q = (zb Z + i, zent Z M (16 + i)) := by
  have hl : i < zn M - 16 := by rw [← zws_len Z M]; exact (List.getElem?_eq_some_iff.mp h).1
  have h2 := zws_get (Z := Z) (M := M) (a := 16 + i) (by omega) (by omega)
  rw [show 16 + i - 16 = i by omega] at h2
  rw [h2] at h
  refine ⟨hl, ?_⟩
  rw [← Option.some.inj h, zρ_own (by omega), show 16 + i - 16 = i by omega]
theorem zws_D (Z : zX) (M : zM) : va_D (zAd Z) (zws Z M) := by
  refine ⟨fun i j p q hi hj e => ?_, fun k q hk => ?_⟩
  · rw [(zws_at hi).2, (zws_at hj).2] at e
    have e : zb Z + i = zb Z + j := e
    omega
  · rw [(zws_at hk).2]
    exact Nat.le_add_right _ _
theorem zws_upd {Z : zX} {M M2 : zM} {a : Nat} (h1 : 16 ≤ a) (hn : zn M2 = zn M) (he : ∀ b, b ≠ a → zent Z M2 b = zent Z M b) : zws Z M2 = (zws Z M).set (a - 16) (zρ Z a, zent Z M2 a) := by
  apply List.ext_getElem?
  intro i
  rcases Nat.lt_or_ge i (zn M - 16) with hi | hi
  · have e2 := zws_get (Z := Z) (M := M2) (a := 16 + i) (by omega) (by omega)
    have e1 := zws_get (Z := Z) (M := M) (a := 16 + i) (by omega) (by omega)
    rw [show 16 + i - 16 = i by omega] at e1 e2
    rw [e2]
    by_cases hia : i = a - 16
    · subst hia
      rw [List.getElem?_set_self (by rw [zws_len]; exact hi), show 16 + (a - 16) = a by omega]
    · rw [List.getElem?_set_ne (Ne.symm hia), e1, he _ (by omega)]
  · rw [List.getElem?_eq_none (by rw [zws_len]; omega), List.getElem?_eq_none (by rw [List.length_set, zws_len]; omega)]
theorem zws_new {Z : zX} {M M2 : zM} (h1 : 16 ≤ zn M) (hn : zn M2 = zn M + 1) (he : ∀ b, b < zn M → zent Z M2 b = zent Z M b) : zws Z M2 = zws Z M ++ [(zρ Z (zn M), zent Z M2 (zn M))] := by
  unfold zws
  rw [hn, show zn M + 1 - 16 = (zn M - 16) + 1 by omega, List.range_succ, List.map_append]
  congr 1
  · apply List.map_congr_left
    intro i hi
    rw [he _ (by have := List.mem_range.mp hi; omega)]
  · rw [List.map_singleton, show 16 + (zn M - 16) = zn M by omega]
def zFr (M : zM) : Prop := ∀ a, zn M ≤ a → zk M a = (99, 0) ∧ ∀ j, zi M a j = 0 ∧ zr M a j = none ∧ zl M a j = 0
def zUn (j : Nat) : Int32 := [-1, 0, 0, 1, 2, 0].getD j 0
def zAo (j : Nat) : Int32 := [1, 1, 2, 1, 2, 0].getD j 0
def zSk (Z : zX) (M : zM) : Prop := zk M 0 = (30, zLn Z) ∧ zk M 1 = (30, 6) ∧ zk M 2 = (30, 6) ∧ (∀ a, 3 ≤ a → a < 16 → zk M a = (98, 0)) ∧ zi M 0 = zxs Z ∧ zi M 1 = zUn ∧ zi M 2 = zAo
theorem zSk_own {Z : zX} {M : zM} {a : Nat} (h : zSk Z M) (hf : zFr M) (hk : (zk M a).1 < 30) : 16 ≤ a ∧ a < zn M := by
  refine ⟨?_, ?_⟩
  · rcases Nat.lt_or_ge a 16 with q | q
    · exfalso
      rcases Nat.lt_or_ge a 3 with q3 | q3
      · rcases (show a = 0 ∨ a = 1 ∨ a = 2 by omega) with rfl | rfl | rfl
        · rw [h.1] at hk; exact absurd hk (Nat.lt_irrefl 30)
        · rw [h.2.1] at hk; exact absurd hk (by decide)
        · rw [h.2.2.1] at hk; exact absurd hk (by decide)
      · rw [h.2.2.2.1 a q3 q] at hk; exact absurd hk (by decide)
    · exact q
  · rcases Nat.lt_or_ge a (zn M) with q | q
    · exact q
    · rw [(hf a q).1] at hk; exact absurd hk (by decide)
/-- entries under writes -/
theorem zent_wi {Z : zX} {M : zM} {a k b : Nat} {x : Int32} (h : b ≠ a) : zent Z (zwi M a k x) b = zent Z M b := by
  have e : zi (zwi M a k x) b = zi M b := funext fun j => if_neg (fun q => h q.1)
  have e2 : ∀ t j, zgv (zwi M a k x) t b j = zgv M t b j := fun t j => by
    unfold zgv
    rw [e]
    rfl
  unfold zent
  simp only [e2, e]
  rfl
theorem zent_wr {Z : zX} {M : zM} {a k b : Nat} {x : Option Nat} (h : b ≠ a) : zent Z (zwr M a k x) b = zent Z M b := by
  have e : zr (zwr M a k x) b = zr M b := funext fun j => if_neg (fun q => h q.1)
  have e2 : ∀ t j, zgv (zwr M a k x) t b j = zgv M t b j := fun t j => by
    unfold zgv
    rw [e]
    rfl
  unfold zent
  simp only [e2, e]
  rfl
theorem zent_wl {Z : zX} {M : zM} {a k b : Nat} {x : Int64} (h : b ≠ a) : zent Z (zwl M a k x) b = zent Z M b := by
  have e : zl (zwl M a k x) b = zl M b := funext fun j => if_neg (fun q => h q.1)
  have e2 : ∀ t j, zgv (zwl M a k x) t b j = zgv M t b j := fun t j => rfl
  unfold zent
  simp only [e2, e]
  rfl
theorem zent_cp {Z : zX} {M : zM} {a0 s a d n b : Nat} (h : b ≠ a) : zent Z (zcp M a0 s a d n) b = zent Z M b := by
  have e : zi (zcp M a0 s a d n) b = zi M b := funext fun j => if_neg (fun q => h q.1)
  have e2 : ∀ t j, zgv (zcp M a0 s a d n) t b j = zgv M t b j := fun t j => by
    unfold zgv
    rw [e]
    rfl
  unfold zent
  simp only [e2, e]
  rfl
theorem zent_o {Z : zX} {M : zM} {a c : Nat} (h : zk M a = (c, 0)) (hc : c < 9) : zent Z M a = .inr (c, (List.range (zN c)).map fun j => zτ Z (zgv M (zF c j) a j)) := by
  unfold zent
  rw [h, if_pos (show c < 20 by omega)]
theorem zent_i {Z : zX} {M : zM} {a n : Nat} (h : zk M a = (20, n)) : zent Z M a = .inl (zcy Z 20, n, .inl (zi M a)) := by
  unfold zent
  rw [h, if_neg (show ¬ (20 : Nat) < 20 by decide), if_pos rfl]
theorem zent_l {Z : zX} {M : zM} {a n : Nat} (h : zk M a = (21, n)) : zent Z M a = .inl (zcy Z 21, n, .inr (.inl (zl M a))) := by
  unfold zent
  rw [h, if_neg (show ¬ (21 : Nat) < 20 by decide), if_neg (show ¬ (21 : Nat) = 20 by decide), if_pos rfl]
theorem zent_r {Z : zX} {M : zM} {a t n : Nat} (h : zk M a = (t, n)) (ht : 22 ≤ t) : zent Z M a = .inl (zcy Z t, n, .inr (.inr (.inr (.inr fun j => (zr M a j).map (zρ Z))))) := by
  unfold zent
  rw [h, if_neg (show ¬ t < 20 by omega), if_neg (show ¬ t = 20 by omega), if_neg (show ¬ t = 21 by omega)]
theorem zfs_get {Z : zX} {M : zM} {a c f : Nat} (hf : f < zN c) : ((List.range (zN c)).map fun j => zτ Z (zgv M (zF c j) a j))[f]? = some (zτ Z (zgv M (zF c f) a f)) := by
  rw [List.getElem?_map, List.getElem?_range hf]
  rfl
theorem zfs_set {Z : zX} {M M2 : zM} {a c f : Nat} {v : Value} (hf : f < zN c) (hv : zτ Z (zgv M2 (zF c f) a f) = v) (he : ∀ j, j ≠ f → zgv M2 (zF c j) a j = zgv M (zF c j) a j) :
    ((List.range (zN c)).map fun j => zτ Z (zgv M2 (zF c j) a j)) = ((List.range (zN c)).map fun j => zτ Z (zgv M (zF c j) a j)).set f v := by
  apply List.ext_getElem?
  intro i
  rcases Nat.lt_or_ge i (zN c) with hi | hi
  · by_cases e : i = f
    · subst e
      rw [List.getElem?_set_self (by rw [List.length_map, List.length_range]; exact hi), zfs_get hi, hv]
    · rw [List.getElem?_set_ne (Ne.symm e), zfs_get hi, zfs_get hi, he i e]
  · rw [List.getElem?_eq_none (by rw [List.length_map, List.length_range]; exact hi), List.getElem?_eq_none (by rw [List.length_set, List.length_map, List.length_range]; exact hi)]
/-- what is there beside the small machine's own cells: the script, the class's static rows, the texts -/
def zLen : List Nat := [3, 4, 4, 4, 4, 4]
def zByt : List (List Int32) := [zTx 0, zTx 1, zTx 2, zTx 3, zTx 4, zTx 5]
def zSpc (Z : zX) (U : State) (H : Heap) : Prop :=
  va_T .int (zsp Z 0) (zLn Z) (fun j => .int (zxs Z j)) (zAd Z) U H ∧ va_T .int (zsp Z 1) 6 (fun j => .int (zUn j)) (zAd Z) U H ∧ va_T .int (zsp Z 2) 6 (fun j => .int (zAo j)) (zAd Z) U H ∧
  va_Z "SagaDesk" "UNDER" "[I" (.ref (zsp Z 1)) (zAd Z) U H ∧ va_Z "SagaDesk" "ACCOUNTS_OF" "[I" (.ref (zsp Z 2)) (zAd Z) U H ∧
  vk_S 6 zLen zByt (fun i => zsp Z (3 + i)) (zav Z) (zAd Z) U H ∧ va_Z "java/lang/String" "COMPACT_STRINGS" "Z" (.int 1) (zAd Z) U H ∧ va_Zq "jdk/internal/util/Preconditions" "SIOOBE_FORMATTER" "Ljava/util/function/BiFunction;" (zAd Z) U H
/-- the tables on rows of rows -/
def zAA (Z : zX) (V : Vm) : Prop := (∃ k co, V.classes[zcy Z 20]? = some k ∧ k.kind = .array co .int) ∧ (∃ k, V.classes[zcy Z 25]? = some k ∧ k.kind = .array (zcy Z 20) (.array .int)) ∧ (∃ k, V.classes[zcy Z 26]? = some k ∧ k.kind = .array (zcy Z 25) (.array (.array .int)))
theorem zAA.moved {Z : zX} {V W : Vm} (hvm : V.Alike W) (h : zAA Z V) : zAA Z W := by
  obtain ⟨⟨k1, co, h1, h2⟩, ⟨k2, h3, h4⟩, ⟨k3, h5, h6⟩⟩ := h
  obtain ⟨k1', g1, e1⟩ := hvm.2.2 _ _ h1
  obtain ⟨k2', g2, e2⟩ := hvm.2.2 _ _ h3
  obtain ⟨k3', g3, e3⟩ := hvm.2.2 _ _ h5
  exact ⟨⟨k1', co, g1, by rw [e1]; exact h2⟩, ⟨k2', g2, by rw [e2]; exact h4⟩, ⟨k3', g3, by rw [e3]; exact h6⟩⟩
def zTab (Z : zX) (U : State) : Prop :=
  va_K (zD Z) zCl (zTy Z) U ∧ (∀ q ∈ zXs, vk_R (zRn q.1.1) q.1.2 (zXt.getD q.2 "") (zsp Z (3 + q.2)) U) ∧ (∀ w ∈ zNw, va_Nw w U) ∧ va_AO "SagaDesk$Program" U ∧ va_AO "SagaDesk$Saga" U ∧ va_AO "SagaDesk$Row" U ∧ zAA Z U.vm
theorem zSpc.kept {Z : zX} {U : State} {H H1 : Heap} (h : zSpc Z U H) (hq : ∀ a : Nat, a < H.size → ¬ zAd Z a → H1[a]? = H[a]?) : zSpc Z U H1 :=
  ⟨h.1.kept hq, h.2.1.kept hq, h.2.2.1.kept hq, h.2.2.2.1.kept hq, h.2.2.2.2.1.kept hq, h.2.2.2.2.2.1.kept hq, h.2.2.2.2.2.2.1.kept hq, h.2.2.2.2.2.2.2.kept hq⟩
theorem zSpc.moved {Z : zX} {u U : State} {H : Heap} (hvm : u.vm.Alike U.vm) (h : zSpc Z u H) : zSpc Z U H :=
  ⟨h.1.moved hvm, h.2.1.moved hvm, h.2.2.1.moved hvm, h.2.2.2.1.moved hvm, h.2.2.2.2.1.moved hvm, h.2.2.2.2.2.1.moved hvm, h.2.2.2.2.2.2.1.moved hvm, h.2.2.2.2.2.2.2.moved hvm⟩
theorem zNw_warm {s U : State} (hW : s.WarmedH U.vm) (h : ∀ w ∈ zNw, va_Nw w s) : ∀ w ∈ zNw, va_Nw w U := by
  intro w hw
  have h1 := h w hw
  unfold zNw at hw
  rcases List.mem_append.mp hw with h2 | h2
  · obtain ⟨q, -, rfl⟩ := List.mem_map.mp h2
    exact h1.warmM hW
  · rw [List.mem_singleton] at h2
    subst h2
    exact h1.warmF hW
theorem zTab.warm {Z : zX} {s U : State} (hW : s.WarmedH U.vm) (h : zTab Z s) : zTab Z U :=
  ⟨h.1.moved hW.alike, fun q hq => (h.2.1 q hq).warm hW, zNw_warm hW h.2.2.1, h.2.2.2.1.moved hW.alike, h.2.2.2.2.1.moved hW.alike, h.2.2.2.2.2.1.moved hW.alike, h.2.2.2.2.2.2.moved hW.alike⟩
theorem zNw_same {s U : State} (hW : U.vm = s.vm) (h : ∀ w ∈ zNw, va_Nw w s) : ∀ w ∈ zNw, va_Nw w U := by
  intro w hw
  have h1 := h w hw
  unfold zNw at hw
  rcases List.mem_append.mp hw with h2 | h2
  · obtain ⟨q, -, rfl⟩ := List.mem_map.mp h2
    exact h1.same rfl hW.symm
  · rw [List.mem_singleton] at h2
    subst h2
    exact h1.same rfl hW.symm
theorem zTab.same {Z : zX} {s U : State} (hW : U.vm = s.vm) (h : zTab Z s) : zTab Z U := by
  have ha : s.vm.Alike U.vm := by rw [hW]; exact Vm.Alike.refl _
  exact ⟨h.1.moved ha, fun q hq => (h.2.1 q hq).same hW, zNw_same hW h.2.2.1, h.2.2.2.1.moved ha, h.2.2.2.2.1.moved ha, h.2.2.2.2.2.1.moved ha, h.2.2.2.2.2.2.moved ha⟩
/-- a heap that holds the small machine's cells -/
def zCore (Z : zX) (M : zM) (H : Heap) : Prop := 16 ≤ zn M ∧ H.size = zb Z + (zn M - 16) ∧ va_P (zD Z) zCl (zws Z M) H ∧ zFr M ∧ zSk Z M
def zRep (Z : zX) (M : zM) (U : State) : Prop := zCore Z M U.heap ∧ zTab Z U ∧ zSpc Z U U.heap
def zPc (Z : zX) (as : List Value) (M : zM) : Array Value → State → Prop := va_Pc (as.map (zτ Z)) (zRep Z M)
def zQc (Z : zX) (v : Option Value) (M' : zM) : Array Value → State → Outcome → State → Prop := fun _ st o t => o = .returned (v.map (zτ Z)) ∧ zCore Z M' t.heap ∧ va_F (zAd Z) st t
theorem zPc_blind (Z : zX) (as : List Value) (M : zM) : FrameBlind (zPc Z as M) := fun a U g mk h => by
  obtain ⟨h1, h2, h3, h4⟩ := h
  exact ⟨h1, h2, zTab.same (s := U) (U := U.calling g mk a) rfl h3, zSpc.moved (u := U) (U := U.calling g mk a) (Vm.Alike.refl U.vm) h4⟩
def zRm (d c n : Nat) : Room := { frames := d, cells := c, slots := n, locals := 60 * d }
def zWs (y : Nat) : List Cond := .code (zNm y) (zB y) (zML y) (zRt y) :: zW
/-! ===== what the small machine does the machine does ===== -/
theorem z_mono {R : zRT} {m : Nat} {v : Option Value} {M' : zM} (hR : ∀ y as M w M1, R y as M w M1 → zn M ≤ zn M1 ∧ zs M ≤ zs M1) : ∀ (f pc : Nat) (l : List (Nat × Value)) (st : List Value) (M : zM), zLoop R m v M' f pc l st M → zn M ≤ zn M' ∧ zs M ≤ zs M' := by
  intro f
  induction f with
  | zero => intro _ _ _ _ h; exact h.elim
  | succ f ih =>
    intro pc l st M h
    obtain ⟨i, n, -, h⟩ := h
    have hcs : ∀ y as rest pc l, zCallS R (zLoop R m v M' f) pc l M y as rest → zn M ≤ zn M' ∧ zs M ≤ zs M' := by
      intro y as rest pc l h
      obtain ⟨-, w, M1, h1, h2⟩ := h
      have a := hR _ _ _ _ _ h1
      have b := ih _ _ _ _ h2
      exact ⟨Nat.le_trans a.1 b.1, Nat.le_trans a.2 b.2⟩
    have hbr : ∀ (p A B : Prop), (A → zn M ≤ zn M' ∧ zs M ≤ zs M') → (B → zn M ≤ zn M' ∧ zs M ≤ zs M') → zbr p A B → zn M ≤ zn M' ∧ zs M ≤ zs M' := by
      intro p A B hA hB h
      by_cases hp : p
      · exact hA (h.1 hp)
      · exact hB (h.2 hp)
    cases i with
    | ldc ix =>
      obtain ⟨-, h⟩ := h
      rcases h with ⟨x, -, h⟩ | ⟨x, -, h⟩
      · have b := ih _ _ _ _ h; exact b
      · have b := ih _ _ _ _ h; exact b
    | ifCond c off =>
      obtain ⟨-, x, st', tgt, -, -, h⟩ := h
      exact hbr _ _ _ (ih _ _ _ _) (ih _ _ _ _) h
    | if_icmp c off =>
      obtain ⟨-, x, y, st', tgt, -, -, h⟩ := h
      exact hbr _ _ _ (ih _ _ _ _) (ih _ _ _ _) h
    | ifnull off =>
      obtain ⟨-, r, st', tgt, -, -, h⟩ := h
      exact hbr _ _ _ (ih _ _ _ _) (ih _ _ _ _) h
    | ifnonnull off =>
      obtain ⟨-, r, st', tgt, -, -, h⟩ := h
      exact hbr _ _ _ (ih _ _ _ _) (ih _ _ _ _) h
    | tableswitch d lo hi offs =>
      obtain ⟨x, st', -, h⟩ := h
      exact hbr _ _ _ (fun ⟨_, _, h⟩ => ih _ _ _ _ h) (fun ⟨_, _, _, _, h⟩ => ih _ _ _ _ h) h
    | putfield ix =>
      obtain ⟨-, w, a, st', c, f', -, -, -, -, h⟩ := h
      rcases h with ⟨-, x, -, h⟩ | ⟨-, x, -, -, h⟩ | ⟨-, x, -, h⟩
      · have b := ih _ _ _ _ h; exact b
      · have b := ih _ _ _ _ h; exact b
      · have b := ih _ _ _ _ h; exact b
    | new ix =>
      obtain ⟨-, c, -, -, h⟩ := h
      have b := ih _ _ _ _ h
      exact ⟨Nat.le_trans (Nat.le_succ _) b.1, Nat.le_trans (Nat.le_add_right _ _) b.2⟩
    | newarray t =>
      obtain ⟨-, z, st', N, -, -, -, -, h⟩ := h
      rcases h with ⟨-, h⟩ | ⟨-, h⟩
      · have b := ih _ _ _ _ h
        exact ⟨Nat.le_trans (Nat.le_succ _) b.1, Nat.le_trans (Nat.le_add_right _ _) b.2⟩
      · have b := ih _ _ _ _ h
        exact ⟨Nat.le_trans (Nat.le_succ _) b.1, Nat.le_trans (Nat.le_add_right _ _) b.2⟩
    | anewarray ix =>
      obtain ⟨-, z, st', N, c, t, -, -, -, -, -, -, h⟩ := h
      have b := ih _ _ _ _ h
      exact ⟨Nat.le_trans (Nat.le_succ _) b.1, Nat.le_trans (Nat.le_add_right _ _) b.2⟩
    | multianewarray ix d =>
      obtain ⟨-, z, j, st', N, J, -, -, -, -, -, -, h⟩ := h
      rcases h with ⟨-, -, -, h⟩ | ⟨-, -, y, K, -, -, -, -, h⟩
      · have b := ih _ _ _ _ h
        refine ⟨Nat.le_trans ?_ b.1, Nat.le_trans ?_ b.2⟩
        · show zn M ≤ zn M + 1 + N; omega
        · show zs M ≤ zs M + N + N * J; omega
      · have b := ih _ _ _ _ h
        refine ⟨Nat.le_trans ?_ b.1, Nat.le_trans ?_ b.2⟩
        · show zn M ≤ zn M + 1 + N * (1 + K); omega
        · show zs M ≤ zs M + N + N * (K + K * J); omega
    | invokevirtual ix =>
      obtain ⟨-, kd, y, b, as, rest, -, -, h⟩ := h
      rcases h with ⟨-, -, -, h⟩ | ⟨-, h⟩
      · exact hcs _ _ _ _ _ h
      · exact hcs _ _ _ _ _ h
    | invokestatic ix =>
      obtain ⟨-, kd, y, -, h⟩ := h
      rcases h with ⟨-, as, rest, -, -, h⟩ | ⟨-, N, dp, sp, a, a0, rest, n0, n1, -, -, -, -, -, -, -, -, -, h⟩ | ⟨-, a, b, rest, -, -, h⟩ | ⟨-, a, b, rest, -, -, h⟩
      · exact hcs _ _ _ _ _ h
      · have b := ih _ _ _ _ h; exact b
      · have b := ih _ _ _ _ h; exact b
      · have b := ih _ _ _ _ h; exact b
    | invokespecial ix =>
      obtain ⟨-, kd, y, b, as, rest, -, -, h⟩ := h
      rcases h with ⟨-, -, -, h⟩ | ⟨-, -, -, h⟩
      · have b := ih _ _ _ _ h; exact b
      · exact hcs _ _ _ _ _ h
    | ireturn => obtain ⟨-, x, -, -, -, h⟩ := h; subst h; exact ⟨Nat.le_refl _, Nat.le_refl _⟩
    | lreturn => obtain ⟨-, x, -, -, -, h⟩ := h; subst h; exact ⟨Nat.le_refl _, Nat.le_refl _⟩
    | areturn => obtain ⟨-, x, -, -, -, h⟩ := h; subst h; exact ⟨Nat.le_refl _, Nat.le_refl _⟩
    | return_ => obtain ⟨-, -, -, -, h⟩ := h; subst h; exact ⟨Nat.le_refl _, Nat.le_refl _⟩
    | _ => first
      | exact h.elim
      | (obtain ⟨-, h⟩ := h; have b := ih _ _ _ _ h; exact b)
      | (obtain ⟨-, _, h⟩ := h; have b := ih _ _ _ _ h; exact b)
      | (obtain ⟨-, _, _, h⟩ := h; have b := ih _ _ _ _ h; exact b)
      | (obtain ⟨-, _, _, _, h⟩ := h; have b := ih _ _ _ _ h; exact b)
      | (obtain ⟨-, _, _, _, _, h⟩ := h; have b := ih _ _ _ _ h; exact b)
      | (obtain ⟨-, _, _, _, _, _, h⟩ := h; have b := ih _ _ _ _ h; exact b)
      | (obtain ⟨-, _, _, _, _, _, _, h⟩ := h; have b := ih _ _ _ _ h; exact b)
      | (obtain ⟨-, _, _, _, _, _, _, _, h⟩ := h; have b := ih _ _ _ _ h; exact b)
      | (obtain ⟨-, _, _, _, _, _, _, _, _, h⟩ := h; have b := ih _ _ _ _ h; exact b)
      | (obtain ⟨-, _, _, _, _, _, _, _, _, _, h⟩ := h; have b := ih _ _ _ _ h; exact b)
      | (obtain ⟨-, _, _, _, _, _, _, _, _, _, _, h⟩ := h; have b := ih _ _ _ _ h; exact b)
theorem zEv_mono : ∀ (d y : Nat) (as : List Value) (M : zM) (v : Option Value) (M' : zM), zEv d y as M v M' → zn M ≤ zn M' ∧ zs M ≤ zs M' := by
  intro d
  induction d with
  | zero => intro _ _ _ _ _ h; exact h.elim
  | succ d ih =>
    intro y as M v M' h
    rcases h with ⟨-, -, rfl, -⟩ | ⟨-, -, rfl, -⟩ | ⟨-, -, f, h⟩
    · exact ⟨Nat.le_refl _, Nat.le_refl _⟩
    · exact ⟨Nat.le_refl _, Nat.le_refl _⟩
    · exact z_mono ih _ _ _ _ _ h
def zInv (Z : zX) (s : State) (M : zM) (H : Heap) (locs : List Loc) (cells : Nat) : Prop := zCore Z M H ∧ s.heap.size + cells = zb Z + (zn M - 16) ∧ va_S (zAd Z) s.heap H locs ∧ zb Z ≤ s.heap.size
def zEnd (m : Nat) (i : Instr) (st : List Value) (v : Option Value) : Prop := match i with
  | .ireturn => ∃ x : Int32, st = [.int x] ∧ (zRk m = 1 ∨ (zRk m = 2 ∧ (x = 0 ∨ x = 1))) ∧ v = some (.int x)
  | .lreturn => ∃ x : Int64, st = [.long x] ∧ zRk m = 3 ∧ v = some (.long x)
  | .areturn => ∃ r : Option Nat, st = [va_rf r] ∧ zRk m = 4 ∧ v = some (va_rf r)
  | .return_ => st = [] ∧ zRk m = 0 ∧ v = none
  | _ => False
theorem zlm_ld {Z : zX} {ls : Array Slot} {nL : Nat} {l : List (Nat × Value)} {i : Nat} {w : Value} (hl : lv_has ls nL (zlm Z l)) (h : zld l i = some w) : ls[i]? = some (.val (zτ Z w)) := by
  unfold zld at h
  cases hf : l.find? (fun q => q.1 == i) with
  | none => rw [hf] at h; cases h
  | some q =>
    rw [hf] at h
    have hm := List.mem_of_find?_eq_some hf
    have he := List.find?_some hf
    have e1 : q.1 = i := by simpa using he
    have e2 : q.2 = w := by simpa using h
    have := hl.2.2 (q.1, zτ Z q.2) (List.mem_map.mpr ⟨q, hm, rfl⟩)
    rw [e1, e2] at this
    exact this
theorem zlm_ix {Z : zX} {l : List (Nat × Value)} {i : Nat} {w : Value} (h : zld l i = some w) : ∃ k : Nat, (zlm Z l)[k]? = some (i, zτ Z w) := by
  unfold zld at h
  cases hf : l.find? (fun q => q.1 == i) with
  | none => rw [hf] at h; cases h
  | some q =>
    rw [hf] at h
    have hm := List.mem_of_find?_eq_some hf
    have he := List.find?_some hf
    have e1 : q.1 = i := by simpa using he
    have e2 : q.2 = w := by simpa using h
    have h3 : (i, zτ Z w) ∈ zlm Z l := List.mem_map.mpr ⟨q, hm, by rw [e1, e2]⟩
    exact List.getElem?_of_mem h3
theorem zlm_st {Z : zX} {l : List (Nat × Value)} {i : Nat} {w : Value} : (i, zτ Z w) :: (zlm Z l).filter (fun q => !(q.1 == i) && !(q.1 + 1 == i && q.2.category == 2)) = zlm Z (zst l i w) := by
  unfold zst zlm
  rw [List.map_cons]
  congr 1
  rw [List.filter_map]
  congr 1
  apply List.filter_congr
  intro q _
  simp [Function.comp, zτ_cat]
theorem zct_map (Z : zX) (st : List Value) : ((st.map (zτ Z)).map fun v => v.category).sum = zct st := by
  unfold zct
  rw [List.map_map]
  congr 1
  apply List.map_congr_left
  intro v _
  exact zτ_cat Z v
section ZS
variable {p : Program} {lc : Launch} {e : Env} {R0 : Room} {s : State} {mm : MethodId} {args : Array Value} {below : List Frame} {meth : Method} {c : Code} {H : Heap} {locs : List Loc} {cells slots : Nat} {Q : State → Prop} {Z : zX} {M M2 : zM} {g : JFrame}
theorem z_size (h : H.size ≤ s.heap.size + cells → W p lc e R0 s mm args below meth c H locs cells slots Q g) : W p lc e R0 s mm args below meth c H locs cells slots Q g := by
  intro T hT X
  exact h (by rw [← hT]; exact X.heapSize) T hT X
theorem zInv.self (h : zInv Z s M H locs cells) : va_S (zAd Z) H H locs := ⟨Nat.le_refl _, fun _ _ _ => rfl, h.2.2.1.2.2⟩
theorem zS_tr {H1 : Heap} {locs1 : List Loc} (h : va_S (zAd Z) s.heap H locs) (h1 : va_S (zAd Z) H H1 locs1) : va_S (zAd Z) s.heap H1 locs1 :=
  ⟨Nat.le_trans h.1 h1.1, fun q hq ha => (h1.2.1 q (Nat.lt_of_lt_of_le hq h.1) ha).trans (h.2.1 q hq ha), h1.2.2⟩
/-- behind a write -/
theorem z_wr {H1 : Heap} {locs1 : List Loc} (hI : zInv Z s M H locs cells) (hn : zn M2 = zn M) (hP1 : va_P (zD Z) zCl (zws Z M2) H1) (hS1 : va_S (zAd Z) H H1 locs1) (hf : zFr M2) (hk : zSk Z M2)
    (kk : zInv Z s M2 H1 locs1 cells → W p lc e R0 s mm args below meth c H1 locs1 cells slots Q g) : W p lc e R0 s mm args below meth c H1 locs1 cells slots Q g := by
  refine z_size fun hz => kk ?_
  obtain ⟨⟨h16, hH, hP, hfr, hsk⟩, hc, hS, hb⟩ := hI
  have h1 := hS1.1
  exact ⟨⟨by rw [hn]; exact h16, by rw [hn]; omega, hP1, hf, hk⟩, by rw [hn]; exact hc, zS_tr hS hS1, hb⟩
theorem zFr_wi {a k : Nat} {x : Int32} (h : zFr M) (ha : a < zn M) : zFr (zwi M a k x) := fun b hb => by
  have hb : zn M ≤ b := hb
  refine ⟨(h b hb).1, fun j => ⟨?_, ((h b hb).2 j).2⟩⟩
  show (if b = a ∧ j = k then x else zi M b j) = 0
  rw [if_neg (fun q => by omega)]
  exact ((h b hb).2 j).1
theorem zFr_wr {a k : Nat} {x : Option Nat} (h : zFr M) (ha : a < zn M) : zFr (zwr M a k x) := fun b hb => by
  have hb : zn M ≤ b := hb
  refine ⟨(h b hb).1, fun j => ⟨((h b hb).2 j).1, ?_, ((h b hb).2 j).2.2⟩⟩
  show (if b = a ∧ j = k then x else zr M b j) = none
  rw [if_neg (fun q => by omega)]
  exact ((h b hb).2 j).2.1
theorem zFr_wl {a k : Nat} {x : Int64} (h : zFr M) (ha : a < zn M) : zFr (zwl M a k x) := fun b hb => by
  have hb : zn M ≤ b := hb
  refine ⟨(h b hb).1, fun j => ⟨((h b hb).2 j).1, ((h b hb).2 j).2.1, ?_⟩⟩
  show (if b = a ∧ j = k then x else zl M b j) = 0
  rw [if_neg (fun q => by omega)]
  exact ((h b hb).2 j).2.2
theorem zFr_cp {a0 s0 a d n : Nat} (h : zFr M) (ha : a < zn M) : zFr (zcp M a0 s0 a d n) := fun b hb => by
  have hb : zn M ≤ b := hb
  refine ⟨(h b hb).1, fun j => ⟨?_, ((h b hb).2 j).2⟩⟩
  show (if b = a ∧ d ≤ j ∧ j < d + n then zi M a0 (s0 + (j - d)) else zi M b j) = 0
  rw [if_neg (fun q => by omega)]
  exact ((h b hb).2 j).1
theorem zSk_wi {a k : Nat} {x : Int32} (h : zSk Z M) (ha : 16 ≤ a) : zSk Z (zwi M a k x) := by
  have e : ∀ b, b < 16 → zi (zwi M a k x) b = zi M b := fun b hb => funext fun j => if_neg (fun q => by omega)
  exact ⟨h.1, h.2.1, h.2.2.1, h.2.2.2.1, (e 0 (by omega)).trans h.2.2.2.2.1, (e 1 (by omega)).trans h.2.2.2.2.2.1, (e 2 (by omega)).trans h.2.2.2.2.2.2⟩
theorem zSk_cp {a0 s0 a d n : Nat} (h : zSk Z M) (ha : 16 ≤ a) : zSk Z (zcp M a0 s0 a d n) := by
  have e : ∀ b, b < 16 → zi (zcp M a0 s0 a d n) b = zi M b := fun b hb => funext fun j => if_neg (fun q => by omega)
  exact ⟨h.1, h.2.1, h.2.2.1, h.2.2.2.1, (e 0 (by omega)).trans h.2.2.2.2.1, (e 1 (by omega)).trans h.2.2.2.2.2.1, (e 2 (by omega)).trans h.2.2.2.2.2.2⟩
theorem zSk_wr {a k : Nat} {x : Option Nat} (h : zSk Z M) : zSk Z (zwr M a k x) := h
theorem zSk_wl {a k : Nat} {x : Int64} (h : zSk Z M) : zSk Z (zwl M a k x) := h
theorem zSk_new {t n k : Nat} (h : zSk Z M) (h16 : 16 ≤ zn M) : zSk Z (znw M t n k) := by
  have e : ∀ b, b < 16 → zk (znw M t n k) b = zk M b := fun b hb => if_neg (show ¬ b = zn M by omega)
  exact ⟨(e 0 (by omega)).trans h.1, (e 1 (by omega)).trans h.2.1, (e 2 (by omega)).trans h.2.2.1, fun a h1 h2 => (e a h2).trans (h.2.2.2.1 a h1 h2), h.2.2.2.2⟩
theorem zFr_new {t n k : Nat} (h : zFr M) : zFr (znw M t n k) := fun b hb => by
  have hb : zn M + 1 ≤ b := hb
  refine ⟨?_, (h b (by omega)).2⟩
  show (if b = zn M then (t, n) else zk M b) = (99, 0)
  rw [if_neg (by omega)]
  exact (h b (by omega)).1
theorem zk_new {t n k : Nat} : zk (znw M t n k) (zn M) = (t, n) := if_pos rfl
theorem zent_new {t n k b : Nat} (h : b < zn M) : zent Z (znw M t n k) b = zent Z M b := by
  have e : zk (znw M t n k) b = zk M b := if_neg (show ¬ b = zn M by omega)
  unfold zent
  rw [e]
  rfl
/-- behind a new cell: its address is the next -/
theorem z_nw {H1 : Heap} {t n k q : Nat} (hI : zInv Z s M H locs cells) (hP1 : va_P (zD Z) zCl (zws Z M ++ [(q, zent Z (znw M t n k) (zn M))]) H1) (hD1 : va_D (zAd Z) (zws Z M ++ [(q, zent Z (znw M t n k) (zn M))])) (hS1 : va_S (zAd Z) H H1 locs)
    (kk : q = zρ Z (zn M) → zInv Z s (znw M t n k) H1 locs (cells + 1) → W p lc e R0 s mm args below meth c H1 locs (cells + 1) slots Q g) : W p lc e R0 s mm args below meth c H1 locs (cells + 1) slots Q g := by
  refine z_size fun hz => ?_
  obtain ⟨⟨h16, hH, hP, hfr, hsk⟩, hc, hS, hb⟩ := hI
  have hlen := zws_len Z M
  have hl : (zws Z M ++ [(q, zent Z (znw M t n k) (zn M))])[(zws Z M).length]? = some (q, zent Z (znw M t n k) (zn M)) := by
    rw [List.getElem?_append_right (Nat.le_refl _), Nat.sub_self]
    rfl
  have hlt := (hP1 _ _ hl).lt
  have hq : q = zb Z + (zn M - 16) := by
    have hA : zb Z ≤ q := hD1.2 _ _ hl
    rcases Nat.lt_or_ge q (zb Z + (zn M - 16)) with h1 | h1
    · exfalso
      have h2 := zws_get (Z := Z) (M := M) (a := q - zb Z + 16) (by omega) (by omega)
      rw [zρ_own (by omega), show q - zb Z + 16 - 16 = q - zb Z by omega, show zb Z + (q - zb Z) = q by omega] at h2
      have h3 : (zws Z M ++ [(q, zent Z (znw M t n k) (zn M))])[q - zb Z]? = some (q, zent Z M (q - zb Z + 16)) := by
        rw [List.getElem?_append_left (by rw [hlen]; omega)]
        exact h2
      have := hD1.1 _ _ _ _ h3 hl rfl
      omega
    · have h1' := hS1.1
      have hlt : q < H1.size := hlt
      omega
  have hq2 : q = zρ Z (zn M) := by rw [hq, zρ_own h16]
  have h1' := hS1.1
  have hlt : q < H1.size := hlt
  refine kk hq2 ⟨⟨?_, ?_, ?_, zFr_new hfr, zSk_new hsk h16⟩, ?_, zS_tr hS hS1, hb⟩
  · show 16 ≤ zn M + 1; omega
  · show H1.size = zb Z + (zn M + 1 - 16); omega
  · rw [zws_new h16 rfl (fun b hb => zent_new hb), ← hq2]
    exact hP1
  · show s.heap.size + (cells + 1) = zb Z + (zn M + 1 - 16); omega
theorem z_back {mc ms pc : Nat} {ls : Array Slot} {st0 rest : List Value} {Qa : State → Outcome → State → Prop} {free : Addr → Prop} (hr : va_Run p lc e R0 s mm args below meth c H locs cells slots mc ms (F0 mm pc ls st0) rest Qa free)
    (kk : ∀ (v : Option Value) (st1 t : State) (L : List Loc), st1.heap = H → s.WarmedH t.vm → Qa st1 (.returned v) t → (∀ q ∈ L, free q.base) → W p lc e R0 s mm args below meth c t.heap (locs ++ L) (cells + mc) (slots + ms) Q (F0 mm (pc + 3) ls (v.toList ++ rest))) :
    W p lc e R0 s mm args below meth c H locs cells slots Q (F0 mm pc ls st0) := by
  intro T hT X
  obtain ⟨v, st₀, t, T', L, h0, X', hL, e1, e2, hq, st⟩ := hr T hT X
  obtain ⟨t2, a1, b1⟩ := kk v st₀ t L h0 (by rw [← e2]; exact X'.warmed) hq hL T' e1 X'
  exact ⟨t2, st t2 a1, b1⟩
end ZS
/-! ===== new T[n][m] and new T[n][m][k] ===== -/
section ZMW
variable {E : CtlPost} {e : Env} {d : Bool} {acts : List Action} {s : State}
theorem zm_new {c comp : ClassId} {k : Class} {ty : FieldType} {n : Nat} {v : Value} (hk : s.vm.classes[c]? = some k) (hkind : k.kind = .array comp ty)
    (hl : ¬ n > e.platform.arrayLengthLimit) (hb : ¬ n * componentBytes ty > e.platform.maxHeapBytes) (hf : fits ty v = true) (hv : v.isDefault = true) {Q : Addr → Pre}
    (h1 : s.heap.size < e.platform.maxCells) (h2 : s.slotsUsed + n ≤ e.platform.maxSlots) (hq : Q s.heap.size d acts (s.pushCell (arrV c n (fun _ => v)))) : wp (Jvm.newArray c n v) Q E e d acts s := by
  rw [← arrV_new] at hq
  have hfit : ∀ i w, (Array.replicate n v)[i]? = some w → s.fitsSlot c .none i w = true := by
    intro i w hw
    rw [Array.getElem?_replicate] at hw
    by_cases hi : i < n
    · rw [if_pos hi] at hw
      cases hw
      simp [State.fitsSlot, State.slotType?, hk, hkind, hf]
    · rw [if_neg hi] at hw
      cases hw
  have hact : allocActs (Array.replicate n v) s.heap.size acts = acts := by
    unfold allocActs
    rw [if_pos]
    rw [Array.all_replicate]
    split <;> simp [hv]
  simp only [Jvm.newArray, Jvm.arrayFits, wp_bind', W.ask, W.ite, hl, if_false, wp_pure', W.theClass, hk, hkind, hb, W.alloc, W.stop, Option.some.injEq, exists_eq_left', Array.size_replicate, hact]
  rw [if_neg (by omega)]
  exact ⟨h1, h2, hfit, hq⟩
/-- what a 'make' of a row of some shape does: 'a' cells of 'b' slots, laid as L says -/
def zMk (P : State → Nat → Nat → Prop) (V : Vm) (e : Env) (Rc Rs : Nat) (c : ClassId) (ns : List Int32) (a b : Nat) (L : Nat → Heap → Prop) : Prop :=
  ∀ (E : CtlPost) (s : State) (x y : Nat) (d : Bool) (acts : List Action) (Q : Addr → Pre), P s x y → s.vm = V → x + a ≤ Rc → y + b ≤ Rs →
    (∀ s' d' acts', P s' (x + a) (y + b) → s'.vm = V → s'.heap.size = s.heap.size + a → (∀ q, q < s.heap.size → s'.heap[q]? = s.heap[q]?) → L s.heap.size s'.heap → Q s.heap.size d' acts' s') → wp (multianewarray.make c ns) Q E e d acts s
theorem zMk_1 {P : State → Nat → Nat → Prop} {V : Vm} {Rc Rs : Nat} {c comp : ClassId} {k : Class} {n : Int32} {N : Nat} (hroom : ∀ s x y a b, P s x y → x + a ≤ Rc → y + b ≤ Rs → s.heap.size + a ≤ e.platform.maxCells ∧ s.slotsUsed + b ≤ e.platform.maxSlots)
    (hpush : ∀ s x y cell, P s x y → P (s.pushCell cell) (x + 1) (y + cell.slots.size)) (hk : V.classes[c]? = some k) (hkind : k.kind = .array comp .int) (hn : ¬ n < 0) (hN : n.toNatClampNeg = N) (hl : ¬ N > e.platform.arrayLengthLimit) (hb : ¬ N * 4 > e.platform.maxHeapBytes) :
    zMk P V e Rc Rs c [n] 1 N (fun h H => H[h]? = some (arrV c N (fun _ => .int 0))) := by
  subst hN
  intro E s x y d acts Q hP hV hx hy hq
  obtain ⟨r1, r2⟩ := hroom s x y 1 n.toNatClampNeg hP hx hy
  have hk' : s.vm.classes[c]? = some k := by rw [hV]; exact hk
  rw [multianewarray.make]
  simp only [wp_bind', W.ite, hn, if_false, wp_pure', W.theClass, hk', hkind, Option.some.injEq, exists_eq_left']
  refine zm_new hk' hkind hl hb rfl rfl (by omega) r2 ?_
  have hs := hpush s x y (arrV c n.toNatClampNeg (fun _ => .int 0)) hP
  rw [arrV_size] at hs
  exact hq _ _ _ hs hV (size_pushCell _ _) (fun q hq => State.heap_pushCell_of_lt _ _ hq) (State.heap_pushCell_size _ _)
theorem zMk_S {P : State → Nat → Nat → Prop} {V : Vm} {Rc Rs : Nat} {c comp : ClassId} {k : Class} {t : FieldType} {n m : Int32} {ms : List Int32} {N a b B : Nat} {L : Nat → Heap → Prop} (hroom : ∀ s x y a b, P s x y → x + a ≤ Rc → y + b ≤ Rs → s.heap.size + a ≤ e.platform.maxCells ∧ s.slotsUsed + b ≤ e.platform.maxSlots)
    (hpush : ∀ s x y cell, P s x y → P (s.pushCell cell) (x + 1) (y + cell.slots.size)) (hset : ∀ s x y q cell i v, P s x y → s.heap[q]? = some cell → B ≤ q → P (s.setCell q (cell.setSlot i v)) x y) (hB : ∀ s x y, P s x y → B ≤ s.heap.size)
    (hk : V.classes[c]? = some k) (hkind : k.kind = .array comp t) (href : t.isReference = true) (hn : ¬ n < 0) (hN : n.toNatClampNeg = N) (hl : ¬ N > e.platform.arrayLengthLimit) (hb : ¬ N * componentBytes t > e.platform.maxHeapBytes) (hneg : (m :: ms).find? (· < 0) = none)
    (hL : ∀ h H H', L h H → (∀ q, h ≤ q → q < h + a → H'[q]? = H[q]?) → L h H') (sub : zMk P V e Rc Rs comp (m :: ms) a b L) :
    zMk P V e Rc Rs c (n :: m :: ms) (1 + N * a) (N + N * b) (fun h H => H[h]? = some (arrV c N (fun j => .ref (h + 1 + j * a))) ∧ ∀ j, j < N → L (h + 1 + j * a) H) := by
  subst hN
  intro E s x y d acts Q hP hV hx hy hq
  generalize hNN : n.toNatClampNeg = N at *
  obtain ⟨r1, r2⟩ := hroom s x y (1 + N * a) (N + N * b) hP hx hy
  have hk' : s.vm.classes[c]? = some k := by rw [hV]; exact hk
  have hrf : ∀ v, v = .null ∨ (∃ q, v = .ref q) → fits t v = true := by
    intro v hv
    rcases hv with rfl | ⟨q, rfl⟩ <;> cases t <;> simp [FieldType.isReference] at href <;> rfl
  rw [multianewarray.make]
  simp only [wp_bind', W.ite, hn, if_false, wp_pure', W.theClass, hk', hkind, Option.some.injEq, exists_eq_left', hNN]
  refine zm_new hk' hkind hl hb (hrf _ (Or.inl rfl)) rfl (by omega) (by have := Nat.zero_le (N * b); omega) ?_
  simp only [hneg]
  rw [ite_self, wp_bind', Std.Legacy.Range.forIn_eq_forIn_range']
  have hsz : ([:N] : Std.Legacy.Range).size = N := by simp [Std.Legacy.Range.size]
  rw [hsz]
  show wp (forIn (List.range' 0 N 1) PUnit.unit _) _ E e d acts _
  have hP0 := hpush s x y (arrV c N (fun _ => .null)) hP
  rw [arrV_size] at hP0
  refine wp_forIn_inv (fun rest s' => ∃ i, i ≤ N ∧ rest = List.range' i (N - i) ∧ P s' (x + 1 + i * a) (y + N + i * b) ∧ s'.vm = V ∧ s'.heap.size = s.heap.size + 1 + i * a ∧ (∀ q, q < s.heap.size → s'.heap[q]? = s.heap[q]?) ∧
    s'.heap[s.heap.size]? = some (arrV c N (fun j => if j < i then .ref (s.heap.size + 1 + j * a) else .null)) ∧ ∀ j, j < i → L (s.heap.size + 1 + j * a) s'.heap) _ _ ?_ ?_ ?_
  · refine ⟨0, Nat.zero_le _, rfl, by simpa using hP0, hV, by rw [size_pushCell]; simp, fun q hq => State.heap_pushCell_of_lt _ _ hq, ?_, fun j hj => absurd hj (Nat.not_lt_zero _)⟩
    rw [State.heap_pushCell_size]
    congr 2
  · rintro z rest s' d' acts' Q' ⟨i, hi, hl2, hPi, hVi, hsi, hold, hout, hin⟩ hnext
    have hlt : i < N := by
      rcases Nat.lt_or_ge i N with h | h
      · exact h
      · rw [show N - i = 0 from by omega] at hl2; simp at hl2
    obtain ⟨rfl, hrest⟩ : z = i ∧ rest = List.range' (i + 1) (N - (i + 1)) := by
      rw [show N - i = (N - (i + 1)) + 1 from by omega, List.range'_succ] at hl2
      exact ⟨(List.cons.inj hl2).1, (List.cons.inj hl2).2⟩
    have m1 : z * a + a ≤ N * a := by
      have := Nat.mul_le_mul_right a (show z + 1 ≤ N from hlt)
      rw [Nat.succ_mul] at this; exact this
    have m2 : z * b + b ≤ N * b := by
      have := Nat.mul_le_mul_right b (show z + 1 ≤ N from hlt)
      rw [Nat.succ_mul] at this; exact this
    simp only [wp_bind']
    refine sub E s' _ _ d' acts' _ hPi hVi (by omega) (by omega) (fun s2 d2 acts2 hP2 hV2 hs2 hold2 hL2 => ?_)
    have hlt0 : s.heap.size < s'.heap.size := by omega
    have hcell : s2.heap[s.heap.size]? = some (arrV c N (fun j => if j < z then .ref (s.heap.size + 1 + j * a) else .null)) := by rw [hold2 _ hlt0]; exact hout
    simp only [wp_bind', W.writeLoc, wp_pure']
    have hst : (arrV c N (fun j => if j < z then Value.ref (s.heap.size + 1 + j * a) else .null)).setSlot z (.ref s'.heap.size) = arrV c N (fun j => if j < z + 1 then .ref (s.heap.size + 1 + j * a) else .null) := by
      rw [arrV_store]
      congr 1
      funext j
      unfold updV
      by_cases hj : j = z
      · subst hj
        rw [if_pos rfl, if_pos (Nat.lt_succ_self _), hsi]
      · rw [if_neg hj]
        dsimp only
        by_cases hj2 : j < z
        · rw [if_pos hj2, if_pos (by omega)]
        · rw [if_neg hj2, if_neg (by omega)]
    have hk2 : s2.vm.classes[c]? = some k := by rw [hV2]; exact hk
    have hlt2 : s.heap.size < s2.heap.size := by omega
    refine ⟨_, hcell, fun q => (by cases q), by rw [arrV_size]; exact hlt, ?_, ?_⟩
    · show s2.fitsSlot c .none z _ = true
      simp [State.fitsSlot, State.slotType?, hk2, hkind, hrf _ (Or.inr ⟨_, rfl⟩)]
    · rw [hst]
      have hP3 := hset s2 _ _ s.heap.size _ z (.ref s'.heap.size) hP2 hcell (hB s x y hP)
      rw [hst] at hP3
      have hne : ∀ q, q ≠ s.heap.size → (s2.setCell s.heap.size (arrV c N (fun j => if j < z + 1 then .ref (s.heap.size + 1 + j * a) else .null))).heap[q]? = s2.heap[q]? := fun q hq => heapAt_setCell_ne _ (Ne.symm hq)
      refine hnext _ _ _ ⟨z + 1, hlt, hrest, ?_, hV2, ?_, ?_, heapAt_setCell_self _ hlt2, ?_⟩
      · rw [Nat.succ_mul, Nat.succ_mul]
        rw [show x + 1 + (z * a + a) = x + 1 + z * a + a by omega, show y + N + (z * b + b) = y + N + z * b + b by omega]
        exact hP3
      · rw [size_setCell, hs2, hsi, Nat.succ_mul]; omega
      · intro q hq
        rw [hne q (by omega), hold2 q (by omega), hold q hq]
      · intro j hj
        rcases Nat.lt_or_ge j z with h | h
        · refine hL _ s'.heap _ (hin j h) (fun q h1 h2 => ?_)
          have m3 : j * a + a ≤ z * a := by
            have := Nat.mul_le_mul_right a (show j + 1 ≤ z from h)
            rw [Nat.succ_mul] at this; exact this
          rw [hne q (by omega), hold2 q (by omega)]
        · obtain rfl : j = z := by omega
          refine hL _ s2.heap _ (by rw [← hsi]; exact hL2) (fun q h1 h2 => ?_)
          rw [hne q (by omega)]
  · rintro s' d' acts' ⟨i, hi, hl2, hPi, hVi, hsi, hold, hout, hin⟩
    have hiN : i = N := by
      rcases Nat.lt_or_ge i N with h | h
      · rw [show N - i = (N - (i + 1)) + 1 from by omega, List.range'_succ] at hl2; cases hl2
      · omega
    subst hiN
    simp only [wp_pure']
    refine hq _ _ _ (by rw [← Nat.add_assoc, ← Nat.add_assoc]; exact hPi) hVi (by omega) hold ⟨?_, hin⟩
    rw [hout]
    congr 1
    unfold arrV
    congr 1
    apply Array.ext_getElem?
    intro j
    by_cases hj : j < i
    · simp [Array.getElem?_ofFn, hj]
    · simp [Array.getElem?_ofFn, hj]
end ZMW
section ZMX
variable {p : Program} {lc : Launch} {e : Env} {R0 : Room} {s : State} {mm : MethodId} {args : Array Value} {below : List Frame} {meth : Method} {c : Code} {H : Heap} {locs : List Loc} {cells slots : Nat} {Q : State → Prop} {Z : zX}
/-- the machine stands there, nothing written below B -/
def zMP (p : Program) (lc : Launch) (e : Env) (R0 : Room) (s : State) (mm : MethodId) (args : Array Value) (below : List Frame) (meth : Method) (c : Code) (g : JFrame) (B : Nat) (u : State) (x y : Nat) : Prop :=
  ∃ (T : State) (locs : List Loc), u = T.setTop g ∧ Stand p lc e R0 s mm args below meth c T locs x y ∧ (∀ q ∈ locs, B ≤ q.base) ∧ B ≤ T.heap.size
theorem zMP_room {g : JFrame} {B : Nat} : ∀ u x y a b, zMP p lc e R0 s mm args below meth c g B u x y → x + a ≤ R0.cells → y + b ≤ R0.slots → u.heap.size + a ≤ e.platform.maxCells ∧ u.slotsUsed + b ≤ e.platform.maxSlots := by
  rintro u x y a b ⟨T, locs, rfl, X, -, -⟩ h1 h2
  exact X.roomAbove h1 h2
theorem zMP_push {g : JFrame} {B : Nat} : ∀ u x y cell, zMP p lc e R0 s mm args below meth c g B u x y → zMP p lc e R0 s mm args below meth c g B (u.pushCell cell) (x + 1) (y + cell.slots.size) := by
  rintro u x y cell ⟨T, locs, rfl, X, hl, hB⟩
  exact ⟨T.pushCell cell, locs, rfl, X.pushed cell, hl, by rw [size_pushCell]; omega⟩
theorem zMP_set {g : JFrame} {B : Nat} : ∀ u x y q cell i v, zMP p lc e R0 s mm args below meth c g B u x y → u.heap[q]? = some cell → B ≤ q → zMP p lc e R0 s mm args below meth c g B (u.setCell q (cell.setSlot i v)) x y := by
  rintro u x y q cell i v ⟨T, locs, rfl, X, hl, hB⟩ hc hq
  have hc : T.heap[q]? = some cell := hc
  refine ⟨T.setCell q (cell.setSlot i v), locs ++ [⟨q, i⟩], rfl, X.stored hc i v, ?_, by rw [size_setCell]; exact hB⟩
  intro r hr
  rcases List.mem_append.mp hr with h | h
  · exact hl r h
  · rw [List.mem_singleton] at h
    subst h
    exact hq
/-- one instruction, to the state behind it, whichever that is -/
theorem z_instrE {s : State} {f : JFrame} (h : At s f.method c below) {P : State → Prop} {i : Instr} {len : Nat} (hd : decode c.code f.pc = .ok (i, len))
    (hw : wpRun (p.tables.exec i) (fun _ s₁ _ => ∀ acts, P (afterInstr e len (.ok () s₁ acts)).1) (fun x s₁ _ => ∀ acts, P (afterInstr e len (.ctl x s₁ acts)).1) e (s.setTop f)) : ∃ s', P s' ∧ Steps p.tables e below (s.setTop f) s' := by
  have hw := (wpRun_iff_run _ _ _ _ _).mp hw
  refine ⟨(stepThread p.tables e (s.setTop f)).1, ?_, Steps.head ⟨h.running, by rw [State.curStatus?_setTop]; exact h.runnable, by rw [State.alone_setTop]; exact h.alone⟩ (h.within f) (Steps.refl _)⟩
  rw [stepThread_java (State.frames_setTop' f h.top) h.plain h.code hd]
  cases hr : (p.tables.exec i).run e (s.setTop f) with
  | ok a s₁ acts => rw [hr] at hw; exact hw acts
  | ctl x s₁ acts => rw [hr] at hw; cases x <;> first | exact hw acts | exact hw.elim
set_option maxHeartbeats 2000000 in
/-- the instruction, over what its 'make' does -/
theorem z_multiE {T : State} {own cn : String} {ix dm a b B : Nat} {ns : List Int32} {rest : List Value} {cA : ClassId} {L : Nat → Heap → Prop} {g : JFrame} (X : Stand p lc e R0 s mm args below meth c T locs cells slots) (hx : p.tables.exec = Jvm.exec) (hown : s.vm.findClass own = some mm.cls)
    (hcl : (Cond.classLink own ix cn).before args s = true) (hcA : s.vm.findClass cn = some cA) (hB : B ≤ T.heap.size) (hlo : ∀ q ∈ locs, B ≤ q.base) (hg : g.method = mm) (hstack : g.stack = (ns.map Value.int).reverse ++ rest) (hlen : ns.length = dm) (hdm : dm = 2 ∨ dm = 3)
    (mk : lc.admits e → ∀ (V : Vm) (g : JFrame), s.vm.Alike V → zMk (zMP p lc e R0 s mm args below meth c g B) V e R0.cells R0.slots cA ns a b L) (hc : cells + a ≤ R0.cells) (hs : slots + b ≤ R0.slots) (hd : decode c.code g.pc = .ok (.multianewarray ix dm, 4))
    {G : State → Prop} (kk : ∀ (T' : State) (locs' : List Loc), Stand p lc e R0 s mm args below meth c T' locs' (cells + a) (slots + b) → T'.heap.size = T.heap.size + a → (∀ q, q < T.heap.size → T'.heap[q]? = T.heap[q]?) → L T.heap.size T'.heap → (∀ q ∈ locs', B ≤ q.base) → G (T'.setTop { g with pc := g.pc + 4, stack := .ref T.heap.size :: rest })) :
    ∃ s', G s' ∧ Steps p.tables e below (T.setTop g) s' := by
  subst hg
  have hpl : e.platform.magicAccessors = ({} : Platform).magicAccessors := by rw [X.admits.platform]
  obtain ⟨c0, hfc0, hcl0⟩ := Cond.classLink_spec hown hcl e.platform hpl
  cases hcA.symm.trans hfc0
  obtain ⟨hg₁, hwarm₁, hready₁⟩ := State.classEntry (e := e) X.warmed hcl0
  generalize T.vm.noted g.method.cls ix (.cls cA) = vm₁ at hg₁ hwarm₁ hready₁
  have X₁ := X.noted hwarm₁
  have hgo : ∀ (Q' : Addr → Pre) (d' : Bool) (acts' : List Action), (∀ (T' : State) (locs' : List Loc) d2 acts2, Stand p lc e R0 s g.method args below meth c T' locs' (cells + a) (slots + b) → T'.heap.size = T.heap.size + a → (∀ q, q < T.heap.size → T'.heap[q]? = T.heap[q]?) → L T.heap.size T'.heap → (∀ q ∈ locs', B ≤ q.base) → Q' T.heap.size d2 acts2 (T'.setTop { g with stack := rest })) →
      ∀ E : CtlPost, wp (multianewarray.make cA ns) Q' E e d' acts' ((T.setVm vm₁).setTop { g with stack := rest }) := by
    intro Q' d' acts' hq E
    refine mk X.admits vm₁ { g with stack := rest } hwarm₁.alike E _ cells slots d' acts' Q' ⟨T.setVm vm₁, locs, rfl, X₁, hlo, hB⟩ rfl hc hs ?_
    rintro s' d2 acts2 ⟨T', locs', rfl, X', h1, h2⟩ h3 h4 h5 h6
    exact hq T' locs' d2 acts2 X' h4 h5 h6 h1
  refine z_instrE (P := G) X.here hd ?_
  rw [hx]
  simp only [wpRun, exec, multianewarray.sem, wp_bind', W.resolveClassAt_links (State.method?_setTop g X.here.top) hg₁]
  have eS : ((T.setTop g).setVm vm₁).setTop { g with stack := rest } = (T.setVm vm₁).setTop { g with stack := rest } := by
    show ((T.setVm vm₁).setTop g).setTop _ = _
    rw [State.setTop_setTop]
  have fin : ∀ (T' : State) (locs' : List Loc) (d2 : Bool) (acts2 : List Action), Stand p lc e R0 s g.method args below meth c T' locs' (cells + a) (slots + b) → T'.heap.size = T.heap.size + a → (∀ q, q < T.heap.size → T'.heap[q]? = T.heap[q]?) → L T.heap.size T'.heap → (∀ q ∈ locs', B ≤ q.base) →
      wp (do mark "op.multianewarray"; pushRef T.heap.size) (fun _ _ acts s₁ => ∀ acts, G (afterInstr e 4 (.ok () s₁ acts)).1) (fun x acts s₁ => ∀ acts, G (afterInstr e 4 (.ctl x s₁ acts)).1) e d2 acts2 (T'.setTop { g with stack := rest }) := by
    intro T' locs' d2 acts2 X' h1 h2 h3 h4
    simp only [wp_bind', W.mark, W.pushRef, State.topJava?_setTop' _ X'.here.top, Option.some.injEq, exists_eq_left', State.setTop_setTop]
    intro acts
    have := kk T' locs' X' h1 h2 h3 h4
    simpa [jvm, X'.here.top] using this
  rcases hdm with rfl | rfl
  · match ns, hlen with
    | [n, m], _ =>
      rw [W.popN, if_neg (by decide)]
      refine ⟨g, State.topJava?_setTop' (s := T.setVm vm₁) g X.here.top, [.int n, .int m], rest, rfl, hstack, ?_⟩
      simp only [List.mapM_cons, List.mapM_nil, wp_bind', wp_pure']
      rw [eS]
      exact hgo _ _ _ (fun T' locs' d2 acts2 X' h1 h2 h3 h4 => by have := fin T' locs' d2 acts2 X' h1 h2 h3 h4; simpa only [wp_bind'] using this) _
  · match ns, hlen with
    | [n, m, k], _ =>
      rw [W.popN, if_neg (by decide)]
      refine ⟨g, State.topJava?_setTop' (s := T.setVm vm₁) g X.here.top, [.int n, .int m, .int k], rest, rfl, hstack, ?_⟩
      simp only [List.mapM_cons, List.mapM_nil, wp_bind', wp_pure']
      rw [eS]
      exact hgo _ _ _ (fun T' locs' d2 acts2 X' h1 h2 h3 h4 => by have := fin T' locs' d2 acts2 X' h1 h2 h3 h4; simpa only [wp_bind'] using this) _
theorem z_multi {cc : ByteArray} {own cn : String} {ix pc dm a b B : Nat} {ns : List Int32} {rest : List Value} {ls : Array Slot} {cA : ClassId} {L : Nat → Heap → Prop} (hx : p.tables.exec = Jvm.exec) (hb : c.code = cc) (hown : s.vm.findClass own = some mm.cls)
    (hcl : (Cond.classLink own ix cn).before args s = true) (hcA : s.vm.findClass cn = some cA) (hB : B ≤ H.size) (hlo : ∀ q ∈ locs, B ≤ q.base) (hlen : ns.length = dm) (hdm : dm = 2 ∨ dm = 3)
    (mk : lc.admits e → ∀ (V : Vm) (g : JFrame), s.vm.Alike V → zMk (zMP p lc e R0 s mm args below meth c g B) V e R0.cells R0.slots cA ns a b L) (hc : cells + a ≤ R0.cells) (hs : slots + b ≤ R0.slots) (hd : decode cc pc = .ok (.multianewarray ix dm, 4))
    (kk : ∀ (H1 : Heap) (locs1 : List Loc), H1.size = H.size + a → (∀ q, q < H.size → H1[q]? = H[q]?) → L H.size H1 → (∀ q ∈ locs1, B ≤ q.base) → W p lc e R0 s mm args below meth c H1 locs1 (cells + a) (slots + b) Q (F0 mm (pc + 4) ls (.ref H.size :: rest))) :
    W p lc e R0 s mm args below meth c H locs cells slots Q (F0 mm pc ls ((ns.map Value.int).reverse ++ rest)) := by
  intro T hT X
  subst hT
  obtain ⟨s', ⟨t, h1, h2⟩, h3⟩ := z_multiE (g := F0 mm pc ls ((ns.map Value.int).reverse ++ rest)) X hx hown hcl hcA hB hlo rfl rfl hlen hdm mk hc hs (by rw [hb]; exact hd)
    (G := fun u => ∃ t, Steps p.tables e below u t ∧ Q t) (fun T' locs' X' h1 h2 h3 h4 => kk T'.heap locs' h1 h2 h3 h4 T' rfl X')
  exact ⟨t, h3.trans h1, h2⟩
theorem zm_lim (h : lc.admits e) {n k : Nat} (hn : n ≤ 4096) (hk : k ≤ 8) : ¬ n > e.platform.arrayLengthLimit ∧ ¬ n * k > e.platform.maxHeapBytes := by
  have h8 : n * k ≤ 4096 * 8 := Nat.mul_le_mul hn hk
  rw [Launch.admits_arrayLengthLimit h, Launch.admits_maxHeapBytes h]
  exact ⟨by omega, by omega⟩
theorem arrV_cg {cA : ClassId} {N : Nat} {f g : Nat → Value} (h : ∀ j, j < N → f j = g j) : arrV cA N f = arrV cA N g := by
  unfold arrV
  congr 1
  apply Array.ext_getElem?
  intro j
  by_cases hj : j < N
  · simp [Array.getElem?_ofFn, hj, h j hj]
  · simp [Array.getElem?_ofFn, hj]
theorem zm_neg {m : Int32} {ms : List Int32} (h : ¬ m < 0) (h2 : ms.find? (· < 0) = none) : (m :: ms).find? (· < 0) = none := by
  rw [List.find?_cons]
  have : decide (m < 0) = false := by simpa using h
  rw [this]
  exact h2
def zL1 (Z : zX) (J : Nat) : Nat → Heap → Prop := fun h H => H[h]? = some (arrV (zcy Z 20) J (fun _ => .int 0))
def zL2 (Z : zX) (N J : Nat) : Nat → Heap → Prop := fun h H => H[h]? = some (arrV (zcy Z 25) N (fun j => .ref (h + 1 + j * 1))) ∧ ∀ j, j < N → zL1 Z J (h + 1 + j * 1) H
def zL3 (Z : zX) (N K J : Nat) : Nat → Heap → Prop := fun h H => H[h]? = some (arrV (zcy Z 26) N (fun j => .ref (h + 1 + j * (1 + K * 1)))) ∧ ∀ j, j < N → zL2 Z K J (h + 1 + j * (1 + K * 1)) H
theorem zMk_d2 {V : Vm} {g : JFrame} {B : Nat} {n j : Int32} {N J : Nat} (had : lc.admits e) (hA : zAA Z V) (hn : ¬ n < 0) (hj : ¬ j < 0) (hN : n.toNatClampNeg = N) (hJ : j.toNatClampNeg = J) (hN4 : N ≤ 4096) (hJ4 : J ≤ 4096) :
    zMk (zMP p lc e R0 s mm args below meth c g B) V e R0.cells R0.slots (zcy Z 25) [n, j] (1 + N * 1) (N + N * J) (zL2 Z N J) := by
  obtain ⟨⟨k1, co, h1, h2⟩, ⟨k2, h3, h4⟩, -⟩ := hA
  obtain ⟨q1, q2⟩ := zm_lim (k := 4) had hN4 (by decide)
  obtain ⟨q3, q4⟩ := zm_lim (k := 4) had hJ4 (by decide)
  refine zMk_S (P := zMP p lc e R0 s mm args below meth c g B) (B := B) zMP_room zMP_push zMP_set (fun s x y ⟨T, l, e, _, _, hB⟩ => by rw [e]; exact hB) h3 h4 rfl hn hN q1 q2 (zm_neg hj rfl) (fun h H H' hl hq => ?_) (zMk_1 zMP_room zMP_push h1 h2 hj hJ q3 q4)
  show H'[h]? = _
  rw [hq h (Nat.le_refl _) (by omega)]
  exact hl
theorem zMk_d3 {V : Vm} {g : JFrame} {B : Nat} {n y j : Int32} {N K J : Nat} (had : lc.admits e) (hA : zAA Z V) (hn : ¬ n < 0) (hy : ¬ y < 0) (hj : ¬ j < 0) (hN : n.toNatClampNeg = N) (hK : y.toNatClampNeg = K) (hJ : j.toNatClampNeg = J) (hN4 : N ≤ 4096) (hK4 : K ≤ 4096) (hJ4 : J ≤ 4096) :
    zMk (zMP p lc e R0 s mm args below meth c g B) V e R0.cells R0.slots (zcy Z 26) [n, y, j] (1 + N * (1 + K * 1)) (N + N * (K + K * J)) (zL3 Z N K J) := by
  obtain ⟨-, -, ⟨k3, h5, h6⟩⟩ := id hA
  obtain ⟨q1, q2⟩ := zm_lim (k := 4) had hN4 (by decide)
  refine zMk_S (P := zMP p lc e R0 s mm args below meth c g B) (B := B) zMP_room zMP_push zMP_set (fun s x y ⟨T, l, e, _, _, hB⟩ => by rw [e]; exact hB) h5 h6 rfl hn hN q1 q2 (zm_neg hy (zm_neg hj rfl)) (fun h H H' hl hq => ?_) (zMk_d2 had hA hy hj hK hJ hK4 hJ4)
  refine ⟨?_, fun i hi => ?_⟩
  · rw [hq h (Nat.le_refl _) (by omega)]
    exact hl.1
  · show H'[_]? = _
    rw [hq _ (by omega) (by omega)]
    exact hl.2 i hi
theorem znm2_k (M : zM) (t N J a : Nat) : zk (znm2 M t N J) a = if a = zn M then (t, N) else if zn M < a ∧ a ≤ zn M + N then (20, J) else zk M a := rfl
theorem znm2_r (M : zM) (t N J a i : Nat) : zr (znm2 M t N J) a i = if a = zn M ∧ i < N then some (zn M + 1 + i) else zr M a i := rfl
theorem znm3_k (M : zM) (N K J a : Nat) : zk (znm3 M N K J) a = if a = zn M then (26, N) else if zn M < a ∧ a ≤ zn M + N * (1 + K) then (if (a - zn M - 1) % (1 + K) = 0 then (25, K) else (20, J)) else zk M a := rfl
theorem znm3_r (M : zM) (N K J a i : Nat) : zr (znm3 M N K J) a i = if a = zn M ∧ i < N then some (zn M + 1 + i * (1 + K)) else if zn M < a ∧ a ≤ zn M + N * (1 + K) ∧ (a - zn M - 1) % (1 + K) = 0 ∧ i < K then some (a + 1 + i) else zr M a i := rfl
theorem zent_eq {M M2 : zM} {b : Nat} (h1 : zk M2 b = zk M b) (h2 : zi M2 b = zi M b) (h3 : zr M2 b = zr M b) (h4 : zl M2 b = zl M b) : zent Z M2 b = zent Z M b := by
  have e2 : ∀ t j, zgv M2 t b j = zgv M t b j := fun t j => by
    unfold zgv
    rw [h2, h3]
  unfold zent
  simp only [e2, h1, h2, h3, h4]
/-- behind new cells -/
theorem z_nws {M M2 : zM} {H1 : Heap} {locs1 : List Loc} {k : Nat} (hI : zInv Z s M H locs cells) (hn : zn M2 = zn M + k) (hsz : H1.size = H.size + k) (hold : ∀ q, q < H.size → H1[q]? = H[q]?) (hlo : ∀ q ∈ locs1, zb Z ≤ q.base)
    (he : ∀ b, b < zn M → zent Z M2 b = zent Z M b) (hnew : ∀ i, i < k → va_at (zD Z) zCl (H.size + i, zent Z M2 (zn M + i)) H1) (hf : zFr M2) (hk : zSk Z M2) : zInv Z s M2 H1 locs1 (cells + k) := by
  obtain ⟨⟨h16, hH, hP, hfr, hsk⟩, hc, hS, hb⟩ := hI
  refine ⟨⟨by omega, by omega, fun i q hq => ?_, hf, hk⟩, by omega, ⟨by have := hS.1; omega, fun q h1 h2 => (hold q (Nat.lt_of_lt_of_le h1 hS.1)).trans (hS.2.1 q h1 h2), hlo⟩, hb⟩
  obtain ⟨hi, rfl⟩ := zws_at hq
  rcases Nat.lt_or_ge i (zn M - 16) with h | h
  · have h2 := zws_get (Z := Z) (M := M) (a := 16 + i) (by omega) (by omega)
    rw [show 16 + i - 16 = i by omega, zρ_own (by omega), show 16 + i - 16 = i by omega] at h2
    have h3 := hP i _ h2
    rw [he _ (by omega)]
    exact h3.kept (hold _ h3.lt)
  · have h4 := hnew (i - (zn M - 16)) (by omega)
    rw [show H.size + (i - (zn M - 16)) = zb Z + i by omega, show zn M + (i - (zn M - 16)) = 16 + i by omega] at h4
    exact h4
theorem z_m2 {M : zM} {H1 : Heap} {locs1 : List Loc} {N J : Nat} (hI : zInv Z s M H locs cells) (hsz : H1.size = H.size + (1 + N * 1)) (hold : ∀ q, q < H.size → H1[q]? = H[q]?) (hL : zL2 Z N J H.size H1) (hlo : ∀ q ∈ locs1, zb Z ≤ q.base) :
    zInv Z s (znm2 M 25 N J) H1 locs1 (cells + (1 + N * 1)) := by
  obtain ⟨h16, hH, hP, hfr, hsk⟩ := hI.1
  have kold : ∀ b, b < zn M → zk (znm2 M 25 N J) b = zk M b ∧ zr (znm2 M 25 N J) b = zr M b := by
    intro b hb
    refine ⟨?_, funext fun i => ?_⟩
    · rw [znm2_k, if_neg (by omega), if_neg (by omega)]
    · rw [znm2_r, if_neg (by omega)]
  refine z_nws (k := 1 + N * 1) hI (by show zn M + 1 + N = _; omega) hsz hold hlo (fun b hb => zent_eq (kold b hb).1 rfl (kold b hb).2 rfl) (fun i hi => ?_) (fun b hb => ?_) ?_
  · have f0 := hfr (zn M + i) (by omega)
    rcases Nat.eq_zero_or_pos i with h | h
    · subst h
      have hk : zk (znm2 M 25 N J) (zn M) = (25, N) := if_pos rfl
      show va_at _ _ (H.size, zent Z (znm2 M 25 N J) (zn M)) H1
      rw [zent_r hk (by decide)]
      show H1[H.size]? = some (vp_cell _ _)
      rw [vp_cell_q, hL.1]
      congr 1
      refine arrV_cg fun j hj => ?_
      rw [znm2_r, if_pos ⟨rfl, hj⟩]
      show _ = Value.ref (zρ Z (zn M + 1 + j))
      rw [zρ_own (by omega), hH]
      exact congrArg Value.ref (show zb Z + (zn M - 16) + 1 + j * 1 = zb Z + (zn M + 1 + j - 16) by omega)
    · have hk : zk (znm2 M 25 N J) (zn M + i) = (20, J) := by
        rw [znm2_k, if_neg (by omega), if_pos (by omega)]
      rw [zent_i hk]
      show H1[H.size + i]? = some (vp_cell _ _)
      rw [vp_cell_i]
      have h2 := hL.2 (i - 1) (by omega)
      unfold zL1 at h2
      rw [show H.size + 1 + (i - 1) * 1 = H.size + i by omega] at h2
      rw [h2]
      congr 1
      refine arrV_cg fun j hj => ?_
      show _ = Value.int (zi M (zn M + i) j)
      rw [(f0.2 j).1]
  · have hb : zn M + 1 + N ≤ b := hb
    have f0 := hfr b (by omega)
    refine ⟨?_, fun j => ⟨(f0.2 j).1, ?_, (f0.2 j).2.2⟩⟩
    · rw [znm2_k, if_neg (by omega), if_neg (by omega)]
      exact f0.1
    · rw [znm2_r, if_neg (by omega)]
      exact (f0.2 j).2.1
  · exact ⟨(kold 0 (by omega)).1.trans hsk.1, (kold 1 (by omega)).1.trans hsk.2.1, (kold 2 (by omega)).1.trans hsk.2.2.1, fun a h1 h2 => (kold a (by omega)).1.trans (hsk.2.2.2.1 a h1 h2), hsk.2.2.2.2⟩
theorem z_m3 {M : zM} {H1 : Heap} {locs1 : List Loc} {N K J : Nat} (hI : zInv Z s M H locs cells) (hsz : H1.size = H.size + (1 + N * (1 + K * 1))) (hold : ∀ q, q < H.size → H1[q]? = H[q]?) (hL : zL3 Z N K J H.size H1) (hlo : ∀ q ∈ locs1, zb Z ≤ q.base) :
    zInv Z s (znm3 M N K J) H1 locs1 (cells + (1 + N * (1 + K * 1))) := by
  obtain ⟨h16, hH, hP, hfr, hsk⟩ := hI.1
  rw [Nat.mul_one] at hsz ⊢
  have kold : ∀ b, b < zn M → zk (znm3 M N K J) b = zk M b ∧ zr (znm3 M N K J) b = zr M b := by
    intro b hb
    refine ⟨?_, funext fun i => ?_⟩
    · rw [znm3_k, if_neg (by omega), if_neg (by omega)]
    · rw [znm3_r, if_neg (by omega), if_neg (fun q => by omega)]
  refine z_nws (k := 1 + N * (1 + K)) hI (by show zn M + 1 + N * (1 + K) = _; omega) hsz hold hlo (fun b hb => zent_eq (kold b hb).1 rfl (kold b hb).2 rfl) (fun i hi => ?_) (fun b hb => ?_) ?_
  · have f0 := hfr (zn M + i) (by omega)
    rcases Nat.eq_zero_or_pos i with h | h
    · subst h
      have hk : zk (znm3 M N K J) (zn M) = (26, N) := if_pos rfl
      show va_at _ _ (H.size, zent Z (znm3 M N K J) (zn M)) H1
      rw [zent_r hk (by decide)]
      show H1[H.size]? = some (vp_cell _ _)
      rw [vp_cell_q, hL.1]
      congr 1
      refine arrV_cg fun j hj => ?_
      rw [znm3_r, if_pos ⟨rfl, hj⟩]
      show _ = Value.ref (zρ Z (zn M + 1 + j * (1 + K)))
      rw [zρ_own (by omega), hH, Nat.mul_one]
      exact congrArg Value.ref (show zb Z + (zn M - 16) + 1 + j * (1 + K) = zb Z + (zn M + 1 + j * (1 + K) - 16) by omega)
    · have hdm := Nat.div_add_mod (i - 1) (1 + K)
      have hml := Nat.mod_lt (i - 1) (show 1 + K > 0 by omega)
      have hdl : (i - 1) / (1 + K) < N := Nat.div_lt_of_lt_mul (by rw [Nat.mul_comm]; omega)
      generalize (i - 1) / (1 + K) = t at hdm hdl
      have hmc : (1 + K) * t = t * (1 + K) := Nat.mul_comm _ _
      have h3 := hL.2 t hdl
      rw [Nat.mul_one] at h3
      have hmod : (zn M + i - zn M - 1) % (1 + K) = (i - 1) % (1 + K) := by congr 1; omega
      by_cases hr : (i - 1) % (1 + K) = 0
      · have hk : zk (znm3 M N K J) (zn M + i) = (25, K) := by
          rw [znm3_k, if_neg (by omega), if_pos (by omega), hmod, if_pos hr]
        rw [zent_r hk (by decide)]
        show H1[H.size + i]? = some (vp_cell _ _)
        rw [vp_cell_q]
        have h4 := h3.1
        rw [show H.size + 1 + t * (1 + K) = H.size + i by omega] at h4
        rw [h4]
        congr 1
        refine arrV_cg fun j hj => ?_
        rw [znm3_r, if_neg (by omega), if_pos ⟨by omega, by omega, by rw [hmod]; exact hr, hj⟩]
        show _ = Value.ref (zρ Z (zn M + i + 1 + j))
        rw [zρ_own (by omega), hH]
        exact congrArg Value.ref (show zb Z + (zn M - 16) + i + 1 + j * 1 = zb Z + (zn M + i + 1 + j - 16) by omega)
      · have hk : zk (znm3 M N K J) (zn M + i) = (20, J) := by
          rw [znm3_k, if_neg (by omega), if_pos (by omega), hmod, if_neg hr]
        rw [zent_i hk]
        show H1[H.size + i]? = some (vp_cell _ _)
        rw [vp_cell_i]
        have h4 := h3.2 ((i - 1) % (1 + K) - 1) (by omega)
        unfold zL1 at h4
        rw [show H.size + 1 + t * (1 + K) + 1 + ((i - 1) % (1 + K) - 1) * 1 = H.size + i by omega] at h4
        rw [h4]
        congr 1
        refine arrV_cg fun j hj => ?_
        show _ = Value.int (zi M (zn M + i) j)
        rw [(f0.2 j).1]
  · have hb : zn M + 1 + N * (1 + K) ≤ b := hb
    have f0 := hfr b (by omega)
    refine ⟨?_, fun j => ⟨(f0.2 j).1, ?_, (f0.2 j).2.2⟩⟩
    · rw [znm3_k, if_neg (by omega), if_neg (by omega)]
      exact f0.1
    · rw [znm3_r, if_neg (by omega), if_neg (fun q => by omega)]
      exact (f0.2 j).2.1
  · exact ⟨(kold 0 (by omega)).1.trans hsk.1, (kold 1 (by omega)).1.trans hsk.2.1, (kold 2 (by omega)).1.trans hsk.2.2.1, fun a h1 h2 => (kold a (by omega)).1.trans (hsk.2.2.2.1 a h1 h2), hsk.2.2.2.2⟩
end ZMX
/-! ===== one instruction after another ===== -/
section ZR
variable {p : Program} {lc : Launch} {e : Env} {R0 : Room} {s : State} {mm : MethodId} {args : Array Value} {below : List Frame} {meth : Method} {c : Code} {Q : State → Prop} {Z : zX} {M' : zM} {d m : Nat} {v : Option Value}
theorem zUpd_rf {f : Nat → Option Nat} {k b : Nat} {Z : zX} : (fun j => (va_up f k (some b) j).map (zρ Z)) = va_up (fun j => (f j).map (zρ Z)) k (some (zρ Z b)) := by
  funext j
  unfold va_up
  by_cases h : j = k
  · rw [if_pos h, if_pos h]; rfl
  · rw [if_neg h, if_neg h]
theorem zi_wi_self {M : zM} {a k : Nat} {x : Int32} : zi (zwi M a k x) a = upd (zi M a) k x := by
  funext j
  show (if a = a ∧ j = k then x else zi M a j) = upd (zi M a) k x j
  unfold upd
  by_cases h : j = k
  · rw [if_pos ⟨rfl, h⟩, if_pos h]
  · rw [if_neg (fun q => h q.2), if_neg h]
theorem zl_wl_self {M : zM} {a k : Nat} {x : Int64} : zl (zwl M a k x) a = vp_updL (zl M a) k x := by
  funext j
  show (if a = a ∧ j = k then x else zl M a j) = vp_updL (zl M a) k x j
  unfold vp_updL
  by_cases h : j = k
  · rw [if_pos ⟨rfl, h⟩, if_pos h]
  · rw [if_neg (fun q => h q.2), if_neg h]
theorem zr_wr_self {M : zM} {a k : Nat} {x : Option Nat} : zr (zwr M a k x) a = va_up (zr M a) k x := by
  funext j
  show (if a = a ∧ j = k then x else zr M a j) = va_up (zr M a) k x j
  unfold va_up
  by_cases h : j = k
  · rw [if_pos ⟨rfl, h⟩, if_pos h]
  · rw [if_neg (fun q => h q.2), if_neg h]
theorem zi_cp_self {M : zM} {a0 s0 a dd n : Nat} : zi (zcp M a0 s0 a dd n) a = va_cpy (zi M a0) (zi M a) s0 dd n := by
  funext j
  show (if a = a ∧ dd ≤ j ∧ j < dd + n then zi M a0 (s0 + (j - dd)) else zi M a j) = va_cpy (zi M a0) (zi M a) s0 dd n j
  unfold va_cpy
  by_cases h : dd ≤ j ∧ j < dd + n
  · rw [if_pos ⟨rfl, h⟩, if_pos h]
  · rw [if_neg (fun q => h q.2), if_neg h]
/-- an int row that stands beside the machine's own -/
theorem z_tld {H : Heap} {locs : List Loc} {cells slots pc t N : Nat} {ls : Array Slot} {rest : List Value} {f : Nat → Int32} {A : Nat → Prop} {i : Int32} (hexec : p.tables.exec = Jvm.exec) {cc : ByteArray} (hb : c.code = cc) (hT : va_T .int t N (fun j => .int (f j)) A s s.heap) (hS : va_S A s.heap H locs) (hin : vp_in i N) (hdg : decode cc pc = .ok (.iaload, 1))
    (kk : W p lc e R0 s mm args below meth c H locs cells slots Q (F0 mm (pc + 1) ls (.int (f i.toNatClampNeg) :: rest))) : W p lc e R0 s mm args below meth c H locs cells slots Q (F0 mm pc ls (.int i :: .ref t :: rest)) := by
  obtain ⟨cell, h1, h2, h3, h4, h5, h6, h7⟩ := hT
  have hlt : t < s.heap.size := (Array.getElem?_eq_some_iff.mp h1).1
  have hj : i.toNatClampNeg < N := Nat.not_le.mp fun q => hin (Or.inr q)
  exact W.iald hexec hb (by rw [hS.2.1 t hlt h7]; exact h1) h2 h3 (fun q => q.elim (fun q => hin (Or.inl q)) (fun q => by omega)) (h6 _ hj) rfl rfl hdg kk
theorem z_tlen {H : Heap} {locs : List Loc} {cells slots pc t N : Nat} {ls : Array Slot} {rest : List Value} {f : Nat → Int32} {A : Nat → Prop} (hexec : p.tables.exec = Jvm.exec) {cc : ByteArray} (hb : c.code = cc) (hT : va_T .int t N (fun j => .int (f j)) A s s.heap) (hS : va_S A s.heap H locs) (hdg : decode cc pc = .ok (.arraylength, 1))
    (kk : W p lc e R0 s mm args below meth c H locs cells slots Q (F0 mm (pc + 1) ls (.int (Int32.ofNat N) :: rest))) : W p lc e R0 s mm args below meth c H locs cells slots Q (F0 mm pc ls (.ref t :: rest)) := by
  obtain ⟨cell, h1, h2, h3, h4, h5, h6, h7⟩ := hT
  have hlt : t < s.heap.size := (Array.getElem?_eq_some_iff.mp h1).1
  exact W.alen hexec hb (by rw [hS.2.1 t hlt h7]; exact h1) h2 h5 rfl rfl hdg kk
theorem zSp_at {M : zM} {a N : Nat} (h : zSk Z M) (ha : a < 3) (hk : zk M a = (30, N)) (hs : zSpc Z s s.heap) : va_T .int (zρ Z a) N (fun j => .int (zi M a j)) (zAd Z) s s.heap := by
  have e : zρ Z a = zsp Z a := if_pos (by omega)
  rw [e]
  rcases (show a = 0 ∨ a = 1 ∨ a = 2 by omega) with rfl | rfl | rfl
  · have hN : N = zLn Z := by have := hk.symm.trans h.1; simpa using this
    rw [hN, h.2.2.2.2.1]
    exact hs.1
  · have hN : N = 6 := by have := hk.symm.trans h.2.1; simpa using this
    rw [hN, h.2.2.2.2.2.1]
    exact hs.2.1
  · have hN : N = 6 := by have := hk.symm.trans h.2.2.1; simpa using this
    rw [hN, h.2.2.2.2.2.2]
    exact hs.2.2.1
theorem z_aald {H : Heap} {locs : List Loc} {cells slots pc a n : Nat} {ls : Array Slot} {rest : List Value} {f : Nat → Option Nat} {cA : ClassId} {ty : FieldType} {i : Int32} (hexec : p.tables.exec = Jvm.exec) {cc : ByteArray} (hb : c.code = cc) (hA : ArrOfT s cA ty) (hty : ty.isReference = true)
    (ha : H[a]? = some (vp_cell cA (n, .inr (.inr (.inr (.inr f)))))) (hin : vp_in i n) (hdg : decode cc pc = .ok (.aaload, 1))
    (kk : W p lc e R0 s mm args below meth c H locs cells slots Q (F0 mm (pc + 1) ls (va_rf (f i.toNatClampNeg) :: rest))) : W p lc e R0 s mm args below meth c H locs cells slots Q (F0 mm pc ls (.int i :: .ref a :: rest)) := by
  have hlt : i.toNatClampNeg < n := Nat.not_le.mp fun q => hin (Or.inr q)
  exact W.aald (v := va_rf (f i.toNatClampNeg)) (ty := ty) hexec hb ha (hA n (fun j => va_rf (f j))) hty (fun q => by cases q) (by show ¬ (i < 0 ∨ (arrV _ _ _).slots.size ≤ _); rw [arrV_size]; exact hin) (by show (arrV _ _ _).slots[_]? = _; rw [arrV_read _ _ hlt]) rfl rfl hdg kk
theorem zTy_at (t : Nat) (h1 : 20 ≤ t) (h2 : t < 27) : ∃ ty, (zTy Z)[t - 20]? = some (zcy Z t, ty) ∧ (22 ≤ t → ty.isReference = true) := by
  rcases (show t = 20 ∨ t = 21 ∨ t = 22 ∨ t = 23 ∨ t = 24 ∨ t = 25 ∨ t = 26 by omega) with rfl | rfl | rfl | rfl | rfl | rfl | rfl
  · exact ⟨_, rfl, fun h => absurd h (by decide)⟩
  · exact ⟨_, rfl, fun h => absurd h (by decide)⟩
  all_goals exact ⟨_, rfl, fun _ => rfl⟩
/-- a call that comes back: the worlds of before and behind -/
theorem z_call {H : Heap} {locs : List Loc} {cells slots pc : Nat} {ls : Array Slot} {st0 rest : List Value} {M M1 : zM} {w : Option Value} {aa : Array Value} (hI : zInv Z s M H locs cells) (hm1 : zn M ≤ zn M1)
    (hr : va_Run p lc e R0 s mm args below meth c H locs cells slots (zn M1 - zn M) (zs M1 - zs M) (F0 mm pc ls st0) (rest.map (zτ Z)) (zQc Z w M1 aa) (zAd Z))
    (kk : ∀ (H1 : Heap) (locs1 : List Loc), zInv Z s M1 H1 locs1 (cells + (zn M1 - zn M)) → W p lc e R0 s mm args below meth c H1 locs1 (cells + (zn M1 - zn M)) (slots + (zs M1 - zs M)) Q (F0 mm (pc + 3) ls ((w.toList ++ rest).map (zτ Z)))) :
    W p lc e R0 s mm args below meth c H locs cells slots Q (F0 mm pc ls st0) := by
  refine z_back hr (fun v st1 t L h0 hW hq hL => ?_)
  obtain ⟨hv, hcore1, hF⟩ := hq
  obtain ⟨hcore, hcs, hS, hbs⟩ := hI
  have hv : v = w.map (zτ Z) := by cases hv; rfl
  have e : v.toList ++ rest.map (zτ Z) = (w.toList ++ rest).map (zτ Z) := by
    rw [hv, List.map_append]
    cases w <;> rfl
  rw [e]
  rw [show va_F (zAd Z) st1 t = (st1.heap.size ≤ t.heap.size ∧ ∀ q : Nat, q < st1.heap.size → ¬ zAd Z q → t.heap[q]? = st1.heap[q]?) from rfl, h0] at hF
  have h16 := hcore.1
  exact kk t.heap (locs ++ L) ⟨hcore1, by omega, ⟨Nat.le_trans hS.1 hF.1, fun q h1 h2 => (hF.2 q (Nat.lt_of_lt_of_le h1 hS.1) h2).trans (hS.2.1 q h1 h2), fun q hq => by
    rcases List.mem_append.mp hq with h | h
    · exact hS.2.2 q h
    · exact hL q h⟩, hbs⟩
theorem zSpc_now {H : Heap} {locs : List Loc} (hSp : zSpc Z s s.heap) (hS : va_S (zAd Z) s.heap H locs) : zSpc Z s H := hSp.kept (fun a h1 h2 => hS.2.1 a h1 h2)
/-- a callee's start at a call -/
theorem z_pre {H : Heap} {locs : List Loc} {cells : Nat} {M : zM} {as : List Value} (hT : zTab Z s) (hSp : zSpc Z s s.heap) (hI : zInv Z s M H locs cells) : ∀ U : State, U.heap = H → s.WarmedH U.vm → zPc Z as M (as.map (zτ Z)).toArray U := by
  intro U hU hW
  obtain ⟨hcore, hcs, hS, hbs⟩ := hI
  exact ⟨rfl, by rw [hU]; exact hcore, hT.warm hW, by rw [hU]; exact (zSpc_now hSp hS).moved hW.alike⟩
theorem zWs_in {y : Nat} (hy : y < 216) : GoodIn zW (zWs y) := by
  intro w hw
  rcases List.mem_cons.mp hw with h | h
  · subst h
    exact zW_good _ (zM_ok hy).2.2.2.1
  · exact zW_good _ h
theorem zCB {R0 : Room} {y ix mc ms o : Nat} (hts : ∀ w ∈ zW, w.before args s = true) (hfr : d + 1 ≤ R0.frames) (hlo : 60 * (d + 1) ≤ R0.locals) (hy : y < 216) (hini : (Cond.initialized (zNm y).cls).before args s = true) (hl : (Cond.methodLink (zRn o) ix (zNm y)).before args s = true) :
    CallB R0 s args (zRn o) ix (zNm y) (zB y) (zML y) (zRt y) (zWs y) (zRm d mc ms) mc ms (zA y) := by
  obtain ⟨k1, k2, k3, k4, k5, k6, k7⟩ := zM_ok hy
  exact callB_of (zA y) hts (zWs_in hy) rfl rfl rfl hini hl ⟨k2.1, k2.2, k3⟩ ⟨hfr, by show 8 + (zML y + 11) + 60 * d ≤ R0.locals; omega⟩
theorem zct_room {rest : List Value} {pc : Nat} {ls : Array Slot} {st0 : List Value} (h : zct rest ≤ 8) : 2 * (F0 mm pc ls st0).monitorRoom + ((rest.map (zτ Z)).map fun v => v.category).sum ≤ 8 := by
  refine lv_room ?_
  rw [zct_map]
  exact h
theorem zmap_stack {as rest : List Value} {b : Nat} : (as.reverse ++ .ref b :: rest).map (zτ Z) = (as.map (zτ Z)).reverse ++ .ref (zρ Z b) :: rest.map (zτ Z) := by
  rw [List.map_append, List.map_reverse]
  rfl
/-- a call, whatever its kind -/
theorem z_callX {f pc y : Nat} {l : List (Nat × Value)} {as rest st0 : List Value} {M : zM} {H : Heap} {locs : List Loc} {cells slots : Nat} {ls : Array Slot}
    (hI : zInv Z s M H locs cells)
    (hmono : ∀ (M1 : zM) (pc : Nat) (l : List (Nat × Value)) (st : List Value), zLoop (zEv d) m v M' f pc l st M1 → zn M1 ≤ zn M' ∧ zs M1 ≤ zs M')
    (h : zCallS (zEv d) (zLoop (zEv d) m v M' f) pc l M y as rest) (hc : cells + (zn M' - zn M) ≤ R0.cells) (hs : slots + (zs M' - zs M) ≤ R0.slots)
    (hrun : ∀ (w : Option Value) (M1 : zM), zEv d y as M w M1 → zct rest ≤ 8 → cells + (zn M1 - zn M) ≤ R0.cells ∧ slots + (zs M1 - zs M) ≤ R0.slots → va_Run p lc e R0 s mm args below meth c H locs cells slots (zn M1 - zn M) (zs M1 - zs M) (F0 mm pc ls st0) (rest.map (zτ Z)) (zQc Z w M1 (as.map (zτ Z)).toArray) (zAd Z))
    (kk : ∀ (M1 : zM) (w : Option Value) (H1 : Heap) (locs1 : List Loc) (cells1 slots1 : Nat), zInv Z s M1 H1 locs1 cells1 → cells1 + (zn M' - zn M1) ≤ R0.cells → slots1 + (zs M' - zs M1) ≤ R0.slots → zLoop (zEv d) m v M' f (pc + 3) l (w.toList ++ rest) M1 → W p lc e R0 s mm args below meth c H1 locs1 cells1 slots1 Q (F0 mm (pc + 3) ls ((w.toList ++ rest).map (zτ Z)))) :
    W p lc e R0 s mm args below meth c H locs cells slots Q (F0 mm pc ls st0) := by
  obtain ⟨hct, w, M1, hev, hlp⟩ := h
  have m1 := zEv_mono d y _ M w M1 hev
  have m2 := hmono M1 _ _ _ hlp
  exact z_call hI m1.1 (hrun w M1 hev hct ⟨by omega, by omega⟩) (fun H1 locs1 hI1 => kk M1 w H1 locs1 _ _ hI1 (by omega) (by omega) hlp)
theorem zNs_w {o ix y : Nat} (hT : zTab Z s) (h : ∃ r ∈ zNs, r.1 = (o, ix) ∧ r.2.1 = y) : va_Nw (.methodLinkNest (zRn o) ix (zNm y) "SagaDesk") s := by
  obtain ⟨r, h1, h2, h3⟩ := h
  have := hT.2.2.1 _ (List.mem_append_left _ (List.mem_map.mpr ⟨r, h1, rfl⟩))
  rw [h2, h3] at this
  exact this
theorem zRt_none {y : Nat} (hy : y < 216) (h : zRk y = 0) : zRt y = none := by
  have := (zM_ok hy).2.2.2.2.2.2
  rw [h] at this
  exact of_decide_eq_true this
set_option maxHeartbeats 4000000 in
set_option maxRecDepth 20000 in
theorem z_run (hx : p.tables.exec = Jvm.exec) (hb : c.code = zB m) (hml : c.maxLocals = zML m) (hown : s.vm.findClass (zRn (zO m)) = some mm.cls) (hts : ∀ w ∈ zW, w.before args s = true) (hT : zTab Z s) (hSp : zSpc Z s s.heap) (hin : (zNm m).name = "<init>" → meth.name = "<init>")
    (hfr : d + 1 ≤ R0.frames) (hlo : 60 * (d + 1) ≤ R0.locals)
    (hM : ∀ y as M w M1, zEv d y as M w M1 → Met lc (zNm y) (zWs y) (zRm d (zn M1 - zn M) (zs M1 - zs M)) (zPc Z as M) (zQc Z w M1) (zn M1 - zn M) (zs M1 - zs M) (zAd Z))
    (hend : ∀ (pc : Nat) (H : Heap) (locs : List Loc) (cells slots : Nat) (ls : Array Slot) (st : List Value) (i : Instr), decode (zB m) pc = .ok (i, 1) → zEnd m i st v → zInv Z s M' H locs cells → cells ≤ R0.cells → slots ≤ R0.slots → W p lc e R0 s mm args below meth c H locs cells slots Q (F0 mm pc ls (st.map (zτ Z)))) :
    ∀ (f pc : Nat) (l : List (Nat × Value)) (st : List Value) (M : zM) (H : Heap) (locs : List Loc) (cells slots : Nat) (ls : Array Slot), zLoop (zEv d) m v M' f pc l st M → lv_has ls (zML m) (zlm Z l) → zInv Z s M H locs cells → cells + (zn M' - zn M) ≤ R0.cells → slots + (zs M' - zs M) ≤ R0.slots →
      W p lc e R0 s mm args below meth c H locs cells slots Q (F0 mm pc ls (st.map (zτ Z))) := by
  intro f
  induction f with
  | zero => intro _ _ _ _ _ _ _ _ _ h; exact h.elim
  | succ f ih =>
    intro pc l st M H locs cells slots ls h hl hI hc hs
    obtain ⟨i, n, hd, h⟩ := h
    have hmono := fun (M1 : zM) (pc : Nat) (l : List (Nat × Value)) (st : List Value) (h : zLoop (zEv d) m v M' f pc l st M1) => z_mono (fun y as M w M1 h => zEv_mono d y as M w M1 h) f pc l st M1 h
    cases i with
    | aconst_null => obtain ⟨rfl, h⟩ := h; exact lv_null hx hb hd (ih _ _ _ _ _ _ _ _ _ h hl hI hc hs)
    | iconst z => obtain ⟨rfl, h⟩ := h; exact lv_iconst hx hb hd rfl (ih _ _ _ _ _ _ _ _ _ h hl hI hc hs)
    | bipush z => obtain ⟨rfl, h⟩ := h; exact lv_bipush hx hb hd rfl (ih _ _ _ _ _ _ _ _ _ h hl hI hc hs)
    | sipush z => obtain ⟨rfl, h⟩ := h; exact lv_sipush hx hb hd rfl (ih _ _ _ _ _ _ _ _ _ h hl hI hc hs)
    | lconst z => obtain ⟨rfl, h⟩ := h; exact lv_lconst hx hb hd rfl (ih _ _ _ _ _ _ _ _ _ h hl hI hc hs)
    | ldc ix =>
      obtain ⟨rfl, h⟩ := h
      rcases h with ⟨x, hk, h⟩ | ⟨x, hk, h⟩
      · exact lv_ldc hx hb hown (hts _ (zKi_w hk)) hd (ih _ _ _ _ _ _ _ _ _ h hl hI hc hs)
      · unfold zKx at hk
        cases hf : zXs.find? (fun q => q.1 == (zO m, ix)) with
        | none => rw [hf] at hk; cases hk
        | some q =>
          rw [hf] at hk
          have hm := List.mem_of_find?_eq_some hf
          have he := List.find?_some hf
          have e1 : q.1 = (zO m, ix) := by simpa using he
          have e2 : q.2 = x := by simpa using hk
          have hz := hT.2.1 q hm
          rw [e1, e2] at hz
          have hx6 : x < 6 := by
            have : ∀ q ∈ zXs, q.2 < 6 := by decide
            rw [← e2]; exact this q hm
          have e3 : zρ Z (3 + x) = zsp Z (3 + x) := if_pos (by omega)
          refine va_ldcS hx hb hown hz hd ?_
          have := ih _ _ _ _ _ _ _ _ _ h hl hI hc hs
          rw [List.map_cons] at this
          rw [← e3]
          exact this
    | ldc_w ix =>
      obtain ⟨rfl, x, hk, h⟩ := h
      exact lv_ldcw hx hb hown (hts _ (zKi_w hk)) hd (ih _ _ _ _ _ _ _ _ _ h hl hI hc hs)
    | ldc2_w ix =>
      obtain ⟨rfl, x, hk, h⟩ := h
      exact lv_ldc2 hx hb hown (hts _ (zKl_w hk)) hd (ih _ _ _ _ _ _ _ _ _ h hl hI hc hs)
    | iload_n j => obtain ⟨rfl, x, hk, h⟩ := h; exact lv_iload_n hx hb hd rfl (zlm_ld hl hk) (ih _ _ _ _ _ _ _ _ _ h hl hI hc hs)
    | iload j => obtain ⟨rfl, x, hk, h⟩ := h; exact lv_iload hx hb hd (zlm_ld hl hk) (ih _ _ _ _ _ _ _ _ _ h hl hI hc hs)
    | aload_n j =>
      obtain ⟨rfl, r, hk, h⟩ := h
      cases r with
      | none => exact lv_aload_nN hx hb hd rfl (zlm_ld hl hk) (ih _ _ _ _ _ _ _ _ _ h hl hI hc hs)
      | some a => exact lv_aload_n hx hb hd rfl (zlm_ld hl hk) (ih _ _ _ _ _ _ _ _ _ h hl hI hc hs)
    | aload j =>
      obtain ⟨rfl, r, hk, h⟩ := h
      cases r with
      | none => exact lv_aloadN hx hb hd (zlm_ld hl hk) (ih _ _ _ _ _ _ _ _ _ h hl hI hc hs)
      | some a => exact lv_aload hx hb hd (zlm_ld hl hk) (ih _ _ _ _ _ _ _ _ _ h hl hI hc hs)
    | istore_n j => obtain ⟨rfl, hj, x, st', rfl, h⟩ := h; exact lv_istore_n hx hb hd rfl hl hj (zlm_st (w := .int x)) (fun ls' hl' => ih _ _ _ _ _ _ _ _ _ h hl' hI hc hs)
    | istore j => obtain ⟨rfl, hj, x, st', rfl, h⟩ := h; exact lv_istore hx hb hd hl hj (zlm_st (w := .int x)) (fun ls' hl' => ih _ _ _ _ _ _ _ _ _ h hl' hI hc hs)
    | astore_n j =>
      obtain ⟨rfl, hj, r, st', rfl, h⟩ := h
      cases r with
      | none => exact lv_astore_nN hx hb hd rfl hl hj (zlm_st (w := va_rf none)) (fun ls' hl' => ih _ _ _ _ _ _ _ _ _ h hl' hI hc hs)
      | some a => exact lv_astore_n hx hb hd rfl hl hj (zlm_st (w := va_rf (some a))) (fun ls' hl' => ih _ _ _ _ _ _ _ _ _ h hl' hI hc hs)
    | astore j =>
      obtain ⟨rfl, hj, r, st', rfl, h⟩ := h
      cases r with
      | none => exact lv_astoreN hx hb hd hl hj (zlm_st (w := va_rf none)) (fun ls' hl' => ih _ _ _ _ _ _ _ _ _ h hl' hI hc hs)
      | some a => exact lv_astore hx hb hd hl hj (zlm_st (w := va_rf (some a))) (fun ls' hl' => ih _ _ _ _ _ _ _ _ _ h hl' hI hc hs)
    | iinc j z =>
      obtain ⟨rfl, hj, x, hk, h⟩ := h
      obtain ⟨k, hk⟩ := zlm_ix (Z := Z) hk
      exact lv_iinc (k := k) hx hb hd hl hk rfl hj (zlm_st (w := .int (x + Int32.ofInt z))) (fun ls' hl' => ih _ _ _ _ _ _ _ _ _ h hl' hI hc hs)
    | iadd => obtain ⟨rfl, x, y, st', rfl, h⟩ := h; exact lv_iadd hx hb hd (ih _ _ _ _ _ _ _ _ _ h hl hI hc hs)
    | isub => obtain ⟨rfl, x, y, st', rfl, h⟩ := h; exact lv_isub hx hb hd (ih _ _ _ _ _ _ _ _ _ h hl hI hc hs)
    | imul => obtain ⟨rfl, x, y, st', rfl, h⟩ := h; exact lv_imul hx hb hd (ih _ _ _ _ _ _ _ _ _ h hl hI hc hs)
    | iand => obtain ⟨rfl, x, y, st', rfl, h⟩ := h; exact lv_iand hx hb hd (ih _ _ _ _ _ _ _ _ _ h hl hI hc hs)
    | ior => obtain ⟨rfl, x, y, st', rfl, h⟩ := h; exact lv_ior hx hb hd (ih _ _ _ _ _ _ _ _ _ h hl hI hc hs)
    | ixor => obtain ⟨rfl, x, y, st', rfl, h⟩ := h; exact lv_ixor hx hb hd (ih _ _ _ _ _ _ _ _ _ h hl hI hc hs)
    | ishl => obtain ⟨rfl, x, y, st', rfl, h⟩ := h; exact lv_ishl hx hb hd (ih _ _ _ _ _ _ _ _ _ h hl hI hc hs)
    | ishr => obtain ⟨rfl, x, y, st', rfl, h⟩ := h; exact lv_ishr hx hb hd (ih _ _ _ _ _ _ _ _ _ h hl hI hc hs)
    | iushr => obtain ⟨rfl, x, y, st', rfl, h⟩ := h; exact lv_iushr hx hb hd rfl (ih _ _ _ _ _ _ _ _ _ h hl hI hc hs)
    | idiv => obtain ⟨rfl, x, y, st', rfl, hy, h⟩ := h; exact lv_idiv hx hb hd hy (ih _ _ _ _ _ _ _ _ _ h hl hI hc hs)
    | irem => obtain ⟨rfl, x, y, st', rfl, hy, h⟩ := h; exact lv_irem hx hb hd hy (ih _ _ _ _ _ _ _ _ _ h hl hI hc hs)
    | ineg => obtain ⟨rfl, x, st', rfl, h⟩ := h; exact lv_ineg hx hb hd (ih _ _ _ _ _ _ _ _ _ h hl hI hc hs)
    | i2b => obtain ⟨rfl, x, st', rfl, h⟩ := h; exact lv_i2b hx hb hd rfl (ih _ _ _ _ _ _ _ _ _ h hl hI hc hs)
    | ladd => obtain ⟨rfl, x, y, st', rfl, h⟩ := h; exact lv_ladd hx hb hd (ih _ _ _ _ _ _ _ _ _ h hl hI hc hs)
    | lcmp => obtain ⟨rfl, x, y, st', rfl, h⟩ := h; exact W.lcmp hx hb hd (ih _ _ _ _ _ _ _ _ _ h hl hI hc hs)
    | dup => obtain ⟨rfl, a, st', rfl, ha, h⟩ := h; exact lv_dup hx hb hd (by rw [zτ_cat]; exact ha) (ih _ _ _ _ _ _ _ _ _ h hl hI hc hs)
    | dup2 => obtain ⟨rfl, a, b, st', rfl, ha, hb2, h⟩ := h; exact lv_dup2_11 hx hb hd (by rw [zτ_cat]; exact ha) (by rw [zτ_cat]; exact hb2) (ih _ _ _ _ _ _ _ _ _ h hl hI hc hs)
    | pop => obtain ⟨rfl, a, st', rfl, ha, h⟩ := h; exact lv_pop hx hb hd (by rw [zτ_cat]; exact ha) (ih _ _ _ _ _ _ _ _ _ h hl hI hc hs)
    | pop2 => obtain ⟨rfl, a, st', rfl, ha, h⟩ := h; exact lv_pop2_2 hx hb hd (by rw [zτ_cat]; exact ha) (ih _ _ _ _ _ _ _ _ _ h hl hI hc hs)
    | goto off => obtain ⟨rfl, tgt, ht, h⟩ := h; exact lv_goto hx hb hd ht (ih _ _ _ _ _ _ _ _ _ h hl hI hc hs)
    | ifCond cd off =>
      obtain ⟨rfl, x, st', tgt, rfl, ht, h⟩ := h
      have kt := fun q => ih _ _ _ _ _ _ _ _ _ (h.1 q) hl hI hc hs
      have kf := fun q => ih _ _ _ _ _ _ _ _ _ (h.2 q) hl hI hc hs
      cases cd with
      | eq => exact lv_if_eq hx hb hd ht kt kf
      | ne => exact lv_if_ne hx hb hd ht kt (fun q => kf (fun z => z q))
      | lt => exact lv_if_lt hx hb hd ht kt kf
      | ge => exact lv_if_ge hx hb hd ht kt kf
      | gt => exact lv_if_gt hx hb hd ht kt kf
      | le => exact lv_if_le hx hb hd ht kt kf
    | if_icmp cd off =>
      obtain ⟨rfl, x, y, st', tgt, rfl, ht, h⟩ := h
      have kt := fun q => ih _ _ _ _ _ _ _ _ _ (h.1 q) hl hI hc hs
      have kf := fun q => ih _ _ _ _ _ _ _ _ _ (h.2 q) hl hI hc hs
      cases cd with
      | eq => exact lv_icmp_eq hx hb hd ht kt kf
      | ne => exact lv_icmp_ne hx hb hd ht kt (fun q => kf (fun z => z q))
      | lt => exact lv_icmp_lt hx hb hd ht kt kf
      | ge => exact lv_icmp_ge hx hb hd ht kt kf
      | gt => exact lv_icmp_gt hx hb hd ht kt kf
      | le => exact lv_icmp_le hx hb hd ht kt kf
    | ifnull off =>
      obtain ⟨rfl, r, st', tgt, rfl, ht, h⟩ := h
      cases r with
      | none => exact lv_ifnullN hx hb hd ht (ih _ _ _ _ _ _ _ _ _ (h.1 rfl) hl hI hc hs)
      | some a => exact lv_ifnull hx hb hd (ih _ _ _ _ _ _ _ _ _ (h.2 (fun q => by cases q)) hl hI hc hs)
    | ifnonnull off =>
      obtain ⟨rfl, r, st', tgt, rfl, ht, h⟩ := h
      cases r with
      | none => exact lv_ifnonnullN hx hb hd (ih _ _ _ _ _ _ _ _ _ (h.1 rfl) hl hI hc hs)
      | some a => exact lv_ifnonnull hx hb hd ht (ih _ _ _ _ _ _ _ _ _ (h.2 (fun q => by cases q)) hl hI hc hs)
    | tableswitch df lo hi offs =>
      obtain ⟨x, st', rfl, h⟩ := h
      by_cases hq : x.toInt < lo ∨ hi < x.toInt
      · obtain ⟨tgt, ht, h⟩ := h.1 hq
        exact lv_tableOut hx hb hd hq ht (ih _ _ _ _ _ _ _ _ _ h hl hI hc hs)
      · obtain ⟨off, tgt, ho, ht, h⟩ := h.2 hq
        exact lv_tableIn hx hb hd (fun z => hq (Or.inl z)) (fun z => hq (Or.inr z)) ho ht (ih _ _ _ _ _ _ _ _ _ h hl hI hc hs)
    | getstatic ix =>
      obtain ⟨rfl, a, ha, h⟩ := h
      unfold zSt at ha
      have hS := hI.2.2.1
      by_cases h1 : zO m = 7 ∧ ix = 300
      · rw [if_pos h1] at ha
        obtain ⟨ho, rfl⟩ := h1
        cases ha
        have hz := hSp.2.2.2.1
        have hlk : Cond.fieldLink (zRn (zO m)) 300 "SagaDesk" "UNDER" "[I" ∈ zW := by rw [ho]; exact zW_in zUnP zUnW rfl
        exact va_gets hx hb hz hS hown (hts _ hlk) (fun x hx => hx) hd (ih _ _ _ _ _ _ _ _ _ h hl hI hc hs)
      · rw [if_neg h1] at ha
        by_cases h2 : zO m = 3 ∧ ix = 80
        · rw [if_pos h2] at ha
          obtain ⟨ho, rfl⟩ := h2
          cases ha
          have hz := hSp.2.2.2.2.1
          have hlk : va_Nw (.fieldLinkNest (zRn (zO m)) 80 "SagaDesk" "ACCOUNTS_OF" "[I" "SagaDesk") s := by
            rw [ho]
            exact hT.2.2.1 _ (List.mem_append_right _ (List.mem_singleton.mpr rfl))
          exact va_getsN hx hb hz hS hown (hlk.use rfl) (fun x hx => hx) hd (ih _ _ _ _ _ _ _ _ _ h hl hI hc hs)
        · rw [if_neg h2] at ha; cases ha
    | getfield ix =>
      obtain ⟨rfl, a, st', cc, fl, rfl, hf, hk, h⟩ := h
      obtain ⟨hlk, hc9, hfl⟩ := zFld_w hf
      obtain ⟨hcore, hcs, hS, hbs⟩ := id hI
      obtain ⟨ha1, ha2⟩ := zSk_own (a := a) hcore.2.2.2.2 hcore.2.2.2.1 (by rw [hk]; show cc < 30; omega)
      have hws := zws_get (Z := Z) ha1 ha2
      rw [zent_o hk hc9] at hws
      obtain ⟨k1, k2, k3, k4⟩ := zC_ok hc9
      have hty := zC_ty cc hc9 fl hfl
      exact va_get (ref := (zClT cc fl).1) hx hb hts k2 hown hT.1 hcore.2.2.1 (a - 16) hws k1 fl hfl (hts _ hlk) (fun x hx => hx) (zfs_get hfl) hd (ih _ _ _ _ _ _ _ _ _ h hl hI hc hs)
    | putfield ix =>
      obtain ⟨rfl, w, a, st', cc, fl, rfl, hf, hk, hfin, h⟩ := h
      obtain ⟨hlk, hc9, hfl⟩ := zFld_w hf
      obtain ⟨hcore, hcs, hS, hbs⟩ := id hI
      obtain ⟨ha1, ha2⟩ := zSk_own (a := a) hcore.2.2.2.2 hcore.2.2.2.1 (by rw [hk]; show cc < 30; omega)
      have hws := zws_get (Z := Z) ha1 ha2
      rw [zent_o hk hc9] at hws
      obtain ⟨k1, k2, k3, k4⟩ := zC_ok hc9
      have hty := zC_ty cc hc9 fl hfl
      have hlen : fl < ((List.range (zN cc)).map fun j => zτ Z (zgv M (zF cc j) a j)).length := by rw [List.length_map, List.length_range]; exact hfl
      have hyt : ∀ k, k < zN cc → parseFieldDescriptor (zClT cc k).2.2.1 = some (zYT cc k) := fun k hk => (zC_ty cc hc9 k hk).1
      have put : ∀ (wv : Value), narrow (zYT cc fl) wv = wv → fits (zYT cc fl) wv = true → (∀ (H1 : Heap) (locs1 : List Loc), va_P (zD Z) zCl ((zws Z M).set (a - 16) (zρ Z a, .inr (cc, ((List.range (zN cc)).map fun j => zτ Z (zgv M (zF cc j) a j)).set fl wv))) H1 → va_S (zAd Z) H H1 locs1 → W p lc e R0 s mm args below meth c H1 locs1 cells slots Q (F0 mm (pc + 3) ls (st'.map (zτ Z)))) →
          W p lc e R0 s mm args below meth c H locs cells slots Q (F0 mm pc ls (wv :: .ref (zρ Z a) :: st'.map (zτ Z))) := by
        intro wv hn hfi kk
        by_cases hq : (zClT cc fl).2.2.2 = true
        · obtain ⟨hi1, hi2⟩ := hfin hq
          exact va_putF (ref := (zClT cc fl).1) hx hb hts k2 (zYT cc) hyt (zC_nm cc hc9) hown hT.1 hcore.2.2.1 (zws_D Z M) hI.self (a - 16) hws k1 fl hfl (hts _ hlk) (fun x hx => hx) hq (hin hi1) (by rw [hty.2.2, hi2]; exact zC_nr cc hc9) hty.1 hn hfi hlen hd (fun H1 locs1 h1 _ h3 => kk H1 locs1 h1 h3)
        · have hq : (zClT cc fl).2.2.2 = false := by simpa using hq
          exact va_put (ref := (zClT cc fl).1) hx hb hts k2 (zYT cc) hyt (zC_nm cc hc9) hown hT.1 hcore.2.2.1 (zws_D Z M) hI.self (a - 16) hws k1 fl hfl (hts _ hlk) (fun x hx => hx) hq hty.1 hn hfi hlen hd (fun H1 locs1 h1 _ h3 => kk H1 locs1 h1 h3)
      have wi : ∀ (x : Int32), zF cc fl ≠ 1 → narrow (zYT cc fl) (.int x) = .int x → fits (zYT cc fl) (.int x) = true → zLoop (zEv d) m v M' f (pc + 3) l st' (zwi M a fl x) → W p lc e R0 s mm args below meth c H locs cells slots Q (F0 mm pc ls (.int x :: .ref (zρ Z a) :: st'.map (zτ Z))) := by
        intro x hF hn hfi h
        refine put (.int x) hn hfi fun H1 locs1 h1 h3 => ?_
        have e : zws Z (zwi M a fl x) = (zws Z M).set (a - 16) (zρ Z a, .inr (cc, ((List.range (zN cc)).map fun j => zτ Z (zgv M (zF cc j) a j)).set fl (.int x))) := by
          rw [zws_upd (M := M) (M2 := zwi M a fl x) ha1 rfl (fun b hb => zent_wi hb), zent_o (M := zwi M a fl x) hk hc9]
          congr 3
          refine congrArg (Prod.mk cc) (zfs_set hfl ?_ ?_)
          · unfold zgv
            rw [if_neg hF]
            show Value.int (if a = a ∧ fl = fl then x else _) = _
            rw [if_pos ⟨rfl, rfl⟩]
          · intro j hj
            unfold zgv
            split
            · rfl
            · show Value.int (if a = a ∧ j = fl then x else _) = _
              rw [if_neg (fun q => hj q.2)]
              rfl
        rw [← e] at h1
        exact z_wr (M2 := zwi M a fl x) hI rfl h1 h3 (zFr_wi hcore.2.2.2.1 ha2) (zSk_wi hcore.2.2.2.2 ha1) (fun hI2 => ih _ _ _ _ _ _ _ _ _ h hl hI2 hc hs)
      rcases h with ⟨hF, x, rfl, h⟩ | ⟨hF, x, rfl, hx01, h⟩ | ⟨hF, r, rfl, h⟩
      · have hy : zYT cc fl = .int := by
          rcases hty.2.1 with q | q | q
          · exact q.2
          · rw [hF] at q; exact absurd q.1 (by decide)
          · rw [hF] at q; exact absurd q.1 (by decide)
        exact wi x (by rw [hF]; decide) (by rw [hy]; rfl) (by rw [hy]; rfl) h
      · have hy : zYT cc fl = .boolean := by
          rcases hty.2.1 with q | q | q
          · rw [hF] at q; exact absurd q.1 (by decide)
          · exact q.2
          · rw [hF] at q; exact absurd q.1 (by decide)
        exact wi x (by rw [hF]; decide) (by rw [hy]; rcases hx01 with rfl | rfl <;> decide) (by rw [hy]; rcases hx01 with rfl | rfl <;> decide) h
      · have hy : (zYT cc fl).isReference = true := by
          rcases hty.2.1 with q | q | q
          · rw [hF] at q; exact absurd q.1 (by decide)
          · rw [hF] at q; exact absurd q.1 (by decide)
          · exact q.2
        have hnf : ∀ r : Option Nat, narrow (zYT cc fl) (va_rf r) = va_rf r ∧ fits (zYT cc fl) (va_rf r) = true := by
          intro r
          cases hq : zYT cc fl with
          | object C => cases r <;> exact ⟨rfl, rfl⟩
          | array t => cases r <;> exact ⟨rfl, rfl⟩
          | _ => rw [hq] at hy; cases hy
        rw [List.map_cons, List.map_cons, zτ_rf]
        refine put (va_rf (r.map (zρ Z))) (hnf _).1 (hnf _).2 fun H1 locs1 h1 h3 => ?_
        have e : zws Z (zwr M a fl r) = (zws Z M).set (a - 16) (zρ Z a, .inr (cc, ((List.range (zN cc)).map fun j => zτ Z (zgv M (zF cc j) a j)).set fl (va_rf (r.map (zρ Z))))) := by
          rw [zws_upd (M := M) (M2 := zwr M a fl r) ha1 rfl (fun b hb => zent_wr hb), zent_o (M := zwr M a fl r) hk hc9]
          congr 3
          refine congrArg (Prod.mk cc) (zfs_set hfl ?_ ?_)
          · unfold zgv
            rw [if_pos hF, zτ_rf]
            show va_rf ((if a = a ∧ fl = fl then r else _).map _) = _
            rw [if_pos ⟨rfl, rfl⟩]
          · intro j hj
            unfold zgv
            split
            · show va_rf (if a = a ∧ j = fl then r else _) = _
              rw [if_neg (fun q => hj q.2)]
              rfl
            · rfl
        rw [← e] at h1
        exact z_wr (M2 := zwr M a fl r) hI rfl h1 h3 (zFr_wr hcore.2.2.2.1 ha2) hcore.2.2.2.2 (fun hI2 => ih _ _ _ _ _ _ _ _ _ h hl hI2 hc hs)
    | arraylength =>
      obtain ⟨rfl, a, st', N, rfl, hk, h⟩ := h
      obtain ⟨hcore, hcs, hS, hbs⟩ := id hI
      rcases hk with hk | hk | ⟨ha3, hk⟩
      · obtain ⟨ha1, ha2⟩ := zSk_own (a := a) hcore.2.2.2.2 hcore.2.2.2.1 (by rw [hk]; show 20 < 30; omega)
        have hws := zws_get (Z := Z) ha1 ha2
        rw [zent_i hk] at hws
        exact va_alen hx hb hT.1 hcore.2.2.1 (a - 16) 0 hws rfl rfl hd (ih _ _ _ _ _ _ _ _ _ h hl hI hc hs)
      · obtain ⟨ha1, ha2⟩ := zSk_own (a := a) hcore.2.2.2.2 hcore.2.2.2.1 (by rw [hk]; show 21 < 30; omega)
        have hws := zws_get (Z := Z) ha1 ha2
        rw [zent_l hk] at hws
        exact va_alen hx hb hT.1 hcore.2.2.1 (a - 16) 1 hws rfl rfl hd (ih _ _ _ _ _ _ _ _ _ h hl hI hc hs)
      · exact z_tlen hx hb (zSp_at hcore.2.2.2.2 ha3 hk hSp) hS hd (ih _ _ _ _ _ _ _ _ _ h hl hI hc hs)
    | iaload =>
      obtain ⟨rfl, j, a, st', N, rfl, hk, hj, h⟩ := h
      obtain ⟨hcore, hcs, hS, hbs⟩ := id hI
      rcases hk with hk | ⟨ha3, hk⟩
      · obtain ⟨ha1, ha2⟩ := zSk_own (a := a) hcore.2.2.2.2 hcore.2.2.2.1 (by rw [hk]; show 20 < 30; omega)
        have hws := zws_get (Z := Z) ha1 ha2
        rw [zent_i hk] at hws
        exact va_iald hx hb hT.1 hcore.2.2.1 (a - 16) 0 hws rfl hj hd (ih _ _ _ _ _ _ _ _ _ h hl hI hc hs)
      · exact z_tld hx hb (zSp_at hcore.2.2.2.2 ha3 hk hSp) hS hj hd (ih _ _ _ _ _ _ _ _ _ h hl hI hc hs)
    | laload =>
      obtain ⟨rfl, j, a, st', N, rfl, hk, hj, h⟩ := h
      obtain ⟨hcore, hcs, hS, hbs⟩ := id hI
      obtain ⟨ha1, ha2⟩ := zSk_own (a := a) hcore.2.2.2.2 hcore.2.2.2.1 (by rw [hk]; show 21 < 30; omega)
      have hws := zws_get (Z := Z) ha1 ha2
      rw [zent_l hk] at hws
      exact va_lald hx hb hT.1 hcore.2.2.1 (a - 16) 1 hws rfl hj hd (ih _ _ _ _ _ _ _ _ _ h hl hI hc hs)
    | aaload =>
      obtain ⟨rfl, j, a, st', t, N, rfl, hk, ht1, ht2, hj, h⟩ := h
      obtain ⟨hcore, hcs, hS, hbs⟩ := id hI
      obtain ⟨ha1, ha2⟩ := zSk_own (a := a) hcore.2.2.2.2 hcore.2.2.2.1 (by rw [hk]; show t < 30; omega)
      have hws := zws_get (Z := Z) ha1 ha2
      rw [zent_r hk ht1] at hws
      obtain ⟨ty, hty, hrf⟩ := zTy_at (Z := Z) t (by omega) ht2
      have hat := hcore.2.2.1 _ _ hws
      refine z_aald hx hb (hT.1.2 _ _ hty).1 (hrf ht1) hat hj hd ?_
      rw [← zτ_rf]
      exact ih _ _ _ _ _ _ _ _ _ h hl hI hc hs
    | iastore =>
      obtain ⟨rfl, x, j, a, st', N, rfl, hk, hj, h⟩ := h
      obtain ⟨hcore, hcs, hS, hbs⟩ := id hI
      obtain ⟨ha1, ha2⟩ := zSk_own (a := a) hcore.2.2.2.2 hcore.2.2.2.1 (by rw [hk]; show 20 < 30; omega)
      have hws := zws_get (Z := Z) ha1 ha2
      rw [zent_i hk] at hws
      refine va_iast hx hb hT.1 hcore.2.2.1 (zws_D Z M) hI.self (a - 16) 0 hws rfl hj hd (fun H1 locs1 h1 _ h3 => ?_)
      have e : zws Z (zwi M a j.toNatClampNeg x) = (zws Z M).set (a - 16) (zρ Z a, .inl (zcy Z 20, N, .inl (upd (zi M a) j.toNatClampNeg x))) := by
        rw [zws_upd (M := M) (M2 := zwi M a j.toNatClampNeg x) ha1 rfl (fun b hb => zent_wi hb), zent_i (M := zwi M a j.toNatClampNeg x) hk, zi_wi_self]
      rw [← e] at h1
      exact z_wr (M2 := zwi M a j.toNatClampNeg x) hI rfl h1 h3 (zFr_wi hcore.2.2.2.1 ha2) (zSk_wi hcore.2.2.2.2 ha1) (fun hI2 => ih _ _ _ _ _ _ _ _ _ h hl hI2 hc hs)
    | lastore =>
      obtain ⟨rfl, x, j, a, st', N, rfl, hk, hj, h⟩ := h
      obtain ⟨hcore, hcs, hS, hbs⟩ := id hI
      obtain ⟨ha1, ha2⟩ := zSk_own (a := a) hcore.2.2.2.2 hcore.2.2.2.1 (by rw [hk]; show 21 < 30; omega)
      have hws := zws_get (Z := Z) ha1 ha2
      rw [zent_l hk] at hws
      refine va_last hx hb hT.1 hcore.2.2.1 (zws_D Z M) hI.self (a - 16) 1 hws rfl hj hd (fun H1 locs1 h1 _ h3 => ?_)
      have e : zws Z (zwl M a j.toNatClampNeg x) = (zws Z M).set (a - 16) (zρ Z a, .inl (zcy Z 21, N, .inr (.inl (vp_updL (zl M a) j.toNatClampNeg x)))) := by
        rw [zws_upd (M := M) (M2 := zwl M a j.toNatClampNeg x) ha1 rfl (fun b hb => zent_wl hb), zent_l (M := zwl M a j.toNatClampNeg x) hk, zl_wl_self]
      rw [← e] at h1
      exact z_wr (M2 := zwl M a j.toNatClampNeg x) hI rfl h1 h3 (zFr_wl hcore.2.2.2.1 ha2) hcore.2.2.2.2 (fun hI2 => ih _ _ _ _ _ _ _ _ _ h hl hI2 hc hs)
    | aastore =>
      obtain ⟨rfl, b, j, a, st', t, N, rfl, hk, hb3, hj, h⟩ := h
      obtain ⟨hcore, hcs, hS, hbs⟩ := id hI
      have ht : 22 ≤ t ∧ t < 25 := by rcases hb3 with q | q | q <;> omega
      obtain ⟨ha1, ha2⟩ := zSk_own (a := a) hcore.2.2.2.2 hcore.2.2.2.1 (by rw [hk]; show t < 30; omega)
      have hws := zws_get (Z := Z) ha1 ha2
      rw [zent_r hk ht.1] at hws
      have key : ∀ (ci : Nat) (hc9 : ci < 9), zk M b = (ci, 0) → (zTy Z)[t - 20]? = some (zcy Z t, .object (zClN ci)) → W p lc e R0 s mm args below meth c H locs cells slots Q (F0 mm pc ls (.ref (zρ Z b) :: .int j :: .ref (zρ Z a) :: st'.map (zτ Z))) := by
        intro ci hc9 hkb hty
        obtain ⟨hb1, hb2⟩ := zSk_own (a := b) hcore.2.2.2.2 hcore.2.2.2.1 (by rw [hkb]; show ci < 30; omega)
        have hwb := zws_get (Z := Z) hb1 hb2
        rw [zent_o hkb hc9] at hwb
        refine va_astq (r := (zClN ci, zClT ci, zN ci)) hx hb hT.1 hcore.2.2.1 (zws_D Z M) hI.self (a - 16) (t - 20) (b - 16) ci hws hty hwb (zC_cl ci hc9) hj hd (fun H1 locs1 h1 _ h3 => ?_)
        have e : zws Z (zwr M a j.toNatClampNeg (some b)) = (zws Z M).set (a - 16) (zρ Z a, .inl (zcy Z t, N, .inr (.inr (.inr (.inr (va_up (fun j => (zr M a j).map (zρ Z)) j.toNatClampNeg (some (zρ Z b)))))))) := by
          rw [zws_upd (M := M) (M2 := zwr M a j.toNatClampNeg (some b)) ha1 rfl (fun b hb => zent_wr hb), zent_r (M := zwr M a j.toNatClampNeg (some b)) hk ht.1, zr_wr_self, zUpd_rf]
        rw [← e] at h1
        exact z_wr (M2 := zwr M a j.toNatClampNeg (some b)) hI rfl h1 h3 (zFr_wr hcore.2.2.2.1 ha2) hcore.2.2.2.2 (fun hI2 => ih _ _ _ _ _ _ _ _ _ h hl hI2 hc hs)
      rcases hb3 with ⟨rfl, hkb⟩ | ⟨rfl, hkb⟩ | ⟨rfl, hkb⟩
      · exact key 1 (by decide) hkb rfl
      · exact key 5 (by decide) hkb rfl
      · exact key 4 (by decide) hkb rfl
    | new ix =>
      obtain ⟨rfl, cc, hcl, hc9, h⟩ := h
      obtain ⟨hcore, hcs, hS, hbs⟩ := id hI
      obtain ⟨k1, k2, k3, k4⟩ := zC_ok hc9
      have hcw := zCls_w hcl
      unfold zHw at hcw
      rw [if_pos hc9] at hcw
      have hm := hmono _ _ _ _ h
      have hm1 : zn M + 1 ≤ zn M' := hm.1
      have hm2 : zs M + zN cc ≤ zs M' := hm.2
      have hyt : ∀ k, k < zN cc → parseFieldDescriptor (zClT cc k).2.2.1 = some (zYT cc k) := fun k hk => (zC_ty cc hc9 k hk).1
      refine va_new (fs := (List.range (zN cc)).map fun j => zτ Z (zgv (znw M cc 0 (zN cc)) (zF cc j) (zn M) j)) hx hb hts k2 (zYT cc) hyt hown (hts _ hcw) (hts _ k3) (hts _ k4) hT.1 hcore.2.2.1 (zws_D Z M) hI.self (fun q hq => by have hH := hcore.2.1; show zb Z ≤ q; omega) k1 ?_ (by omega) (by omega) hd (fun q H1 h1 h2 h3 => ?_)
      · intro j hj
        have hfr := (hcore.2.2.2.1 (zn M) (Nat.le_refl _)).2 j
        have e : vp_V ((List.range (zN cc)).map fun j => zτ Z (zgv (znw M cc 0 (zN cc)) (zF cc j) (zn M) j)) j = zτ Z (zgv (znw M cc 0 (zN cc)) (zF cc j) (zn M) j) := by
          unfold vp_V
          rw [List.getD_eq_getElem?_getD, zfs_get hj]
          rfl
        rw [e]
        rcases (zC_ty cc hc9 j hj).2.1 with ⟨q1, q2⟩ | ⟨q1, q2⟩ | ⟨q1, q2⟩
        · rw [q1, q2]
          show _ = Value.int (zi M (zn M) j)
          rw [hfr.1]
          rfl
        · rw [q1, q2]
          show _ = Value.int (zi M (zn M) j)
          rw [hfr.1]
          rfl
        · rw [q1]
          show _ = zτ Z (va_rf (zr M (zn M) j))
          rw [hfr.2.1]
          cases hq : zYT cc j with
          | object C => rfl
          | array t => rfl
          | _ => rw [hq] at q2; cases q2
      · have e : zent Z (znw M cc 0 (zN cc)) (zn M) = .inr (cc, (List.range (zN cc)).map fun j => zτ Z (zgv (znw M cc 0 (zN cc)) (zF cc j) (zn M) j)) := zent_o zk_new hc9
        rw [← e] at h1 h2
        refine z_nw hI h1 h2 h3 (fun hq hI2 => ?_)
        rw [hq]
        exact ih _ _ _ _ _ _ _ _ _ h hl hI2 (by show cells + 1 + (zn M' - (zn M + 1)) ≤ _; omega) (by show slots + zN cc + (zs M' - (zs M + zN cc)) ≤ _; omega)
    | newarray t =>
      obtain ⟨rfl, z, st', N, rfl, hz, hN, hN6, h⟩ := h
      obtain ⟨hcore, hcs, hS, hbs⟩ := id hI
      have hfr := (hcore.2.2.2.1 (zn M) (Nat.le_refl _)).2
      rcases h with ⟨rfl, h⟩ | ⟨rfl, h⟩
      · have hm := hmono _ _ _ _ h
        have hm1 : zn M + 1 ≤ zn M' := hm.1
        have hm2 : zs M + N ≤ zs M' := hm.2
        refine va_newa (a0 := (N, .inl (zi M (zn M)))) hx hb (hts _ zAw_i) rfl hT.1 hcore.2.2.1 (zws_D Z M) hI.self (fun q hq => by have hH := hcore.2.1; show zb Z ≤ q; omega) (fun cA => by rw [vp_cell_i]; congr 1; funext j; rw [(hfr j).1]; rfl) hz hN (by show N * 4 ≤ _; omega) (by omega) (by omega) hd (fun q cA H1 hK1 h1 h2 h3 => ?_)
        have ec : cA = zcy Z 20 := by
          have a1 := (hK1.2 7 (cA, .int) rfl).2
          have a2 := (hT.1.2 0 (zcy Z 20, .int) rfl).2
          exact Option.some.inj (a1.symm.trans a2)
        have e : zent Z (znw M 20 N N) (zn M) = .inl (zcy Z 20, N, .inl (zi M (zn M))) := zent_i zk_new
        rw [ec, ← e] at h1 h2
        refine z_nw hI h1 h2 h3 (fun hq hI2 => ?_)
        rw [hq]
        exact ih _ _ _ _ _ _ _ _ _ h hl hI2 (by show cells + 1 + (zn M' - (zn M + 1)) ≤ _; omega) (by show slots + N + (zs M' - (zs M + N)) ≤ _; omega)
      · have hm := hmono _ _ _ _ h
        have hm1 : zn M + 1 ≤ zn M' := hm.1
        have hm2 : zs M + N ≤ zs M' := hm.2
        refine va_newa (a0 := (N, .inr (.inl (zl M (zn M))))) hx hb (hts _ zAw_l) rfl hT.1 hcore.2.2.1 (zws_D Z M) hI.self (fun q hq => by have hH := hcore.2.1; show zb Z ≤ q; omega) (fun cA => by rw [vp_cell_l]; congr 1; funext j; rw [(hfr j).2.2]; rfl) hz hN (by show N * 8 ≤ _; omega) (by omega) (by omega) hd (fun q cA H1 hK1 h1 h2 h3 => ?_)
        have ec : cA = zcy Z 21 := by
          have a1 := (hK1.2 7 (cA, .long) rfl).2
          have a2 := (hT.1.2 1 (zcy Z 21, .long) rfl).2
          exact Option.some.inj (a1.symm.trans a2)
        have e : zent Z (znw M 21 N N) (zn M) = .inl (zcy Z 21, N, .inr (.inl (zl M (zn M)))) := zent_l zk_new
        rw [ec, ← e] at h1 h2
        refine z_nw hI h1 h2 h3 (fun hq hI2 => ?_)
        rw [hq]
        exact ih _ _ _ _ _ _ _ _ _ h hl hI2 (by show cells + 1 + (zn M' - (zn M + 1)) ≤ _; omega) (by show slots + N + (zs M' - (zs M + N)) ≤ _; omega)
    | anewarray ix =>
      obtain ⟨rfl, z, st', N, cc, t, rfl, hz, hN, hN6, hcl, hct, h⟩ := h
      obtain ⟨hcore, hcs, hS, hbs⟩ := id hI
      have hfr := (hcore.2.2.2.1 (zn M) (Nat.le_refl _)).2
      have hm := hmono _ _ _ _ h
      have hm1 : zn M + 1 ≤ zn M' := hm.1
      have hm2 : zs M + N ≤ zs M' := hm.2
      have hcw := zCls_w hcl
      have key : ∀ (C : String) (j : Nat), zHw cc = C → va_AO C s → (zTy Z)[j]? = some (zcy Z t, .object C) → 22 ≤ t → W p lc e R0 s mm args below meth c H locs cells slots Q (F0 mm pc ls (.int z :: st'.map (zτ Z))) := by
        intro C j hC hao hty ht
        rw [hC] at hcw
        refine va_newq hx hb hown (hts _ hcw) hao hT.1 hcore.2.2.1 (zws_D Z M) hI.self (fun q hq => by have hH := hcore.2.1; show zb Z ≤ q; omega) hz hN (by omega) (by omega) (by omega) hd (fun q cA H1 hK1 h1 h2 h3 => ?_)
        have ec : cA = zcy Z t := by
          obtain ⟨kA, comp, -, -, -, a1⟩ := (hK1.2 7 (cA, .object C) rfl).2
          obtain ⟨kA2, comp2, -, -, -, a2⟩ := (hT.1.2 j (zcy Z t, .object C) hty).2
          exact Option.some.inj (a1.symm.trans a2)
        have e : zent Z (znw M t N N) (zn M) = .inl (zcy Z t, N, .inr (.inr (.inr (.inr (fun _ => none))))) := by
          rw [zent_r (M := znw M t N N) zk_new ht]
          have : (fun j => (zr (znw M t N N) (zn M) j).map (zρ Z)) = (fun _ => none) := by
            funext j
            show (zr M (zn M) j).map (zρ Z) = none
            rw [(hfr j).2.1]
            rfl
          rw [this]
        rw [ec, ← e] at h1 h2
        refine z_nw hI h1 h2 h3 (fun hq hI2 => ?_)
        rw [hq]
        exact ih _ _ _ _ _ _ _ _ _ h hl hI2 (by show cells + 1 + (zn M' - (zn M + 1)) ≤ _; omega) (by show slots + N + (zs M' - (zs M + N)) ≤ _; omega)
      rcases hct with ⟨rfl, rfl⟩ | ⟨rfl, rfl⟩ | ⟨rfl, rfl⟩
      · exact key "SagaDesk$Program" 2 (by decide) hT.2.2.2.1 rfl (by decide)
      · exact key "SagaDesk$Saga" 3 (by decide) hT.2.2.2.2.1 rfl (by decide)
      · exact key "SagaDesk$Row" 4 (by decide) hT.2.2.2.2.2.1 rfl (by decide)
    | multianewarray ix dd =>
      obtain ⟨rfl, z, j, st', N, J, hz, hj, hN, hJ, hN4, hJ4, h⟩ := h
      obtain ⟨hcore, hcs, hS, hbs⟩ := id hI
      have hBH : zb Z ≤ H.size := by have := hcore.2.1; omega
      rcases h with ⟨rfl, hcl, rfl, h⟩ | ⟨rfl, hcl, y, K, hy, hK, hK4, rfl, h⟩
      · have hcw := zCls_w hcl
        have hm := hmono _ _ _ _ h
        have hm1 : zn M + 1 + N ≤ zn M' := hm.1
        have hm2 : zs M + N + N * J ≤ zs M' := hm.2
        have hfc : s.vm.findClass "[[I" = some (zcy Z 25) := (hT.1.2 5 (zcy Z 25, .array .int) rfl).2
        refine z_multi (ns := [z, j]) (rest := st'.map (zτ Z)) hx hb hown (hts _ hcw) hfc hBH hS.2.2 rfl (Or.inl rfl) (fun had V g hV => zMk_d2 had (hT.2.2.2.2.2.2.moved hV) hz hj hN hJ hN4 hJ4) (by omega) (by omega) hd (fun H1 locs1 h1 h2 h3 h4 => ?_)
        have hI2 := z_m2 hI h1 h2 h3 h4
        have e : zρ Z (zn M) = H.size := by have := hcore.1; rw [zρ_own (by omega), hcore.2.1]
        rw [← e]
        exact ih _ _ _ _ _ _ _ _ _ h hl hI2 (by show cells + (1 + N * 1) + (zn M' - (zn M + 1 + N)) ≤ _; omega) (by show slots + (N + N * J) + (zs M' - (zs M + N + N * J)) ≤ _; omega)
      · have hcw := zCls_w hcl
        have hm := hmono _ _ _ _ h
        have hm1 : zn M + 1 + N * (1 + K) ≤ zn M' := hm.1
        have hm2 : zs M + N + N * (K + K * J) ≤ zs M' := hm.2
        have hfc : s.vm.findClass "[[[I" = some (zcy Z 26) := (hT.1.2 6 (zcy Z 26, .array (.array .int)) rfl).2
        have e1 : 1 + N * (1 + K * 1) = 1 + N * (1 + K) := by rw [Nat.mul_one]
        refine z_multi (ns := [z, y, j]) (rest := st'.map (zτ Z)) hx hb hown (hts _ hcw) hfc hBH hS.2.2 rfl (Or.inr rfl) (fun had V g hV => zMk_d3 had (hT.2.2.2.2.2.2.moved hV) hz hy hj hN hK hJ hN4 hK4 hJ4) (by omega) (by omega) hd (fun H1 locs1 h1 h2 h3 h4 => ?_)
        have hI2 := z_m3 hI h1 h2 h3 h4
        have e : zρ Z (zn M) = H.size := by have := hcore.1; rw [zρ_own (by omega), hcore.2.1]
        rw [← e]
        exact ih _ _ _ _ _ _ _ _ _ h hl hI2 (by show cells + (1 + N * (1 + K * 1)) + (zn M' - (zn M + 1 + N * (1 + K))) ≤ _; omega) (by show slots + (N + N * (K + K * J)) + (zs M' - (zs M + N + N * (K + K * J))) ≤ _; omega)
    | invokevirtual ix =>
      obtain ⟨rfl, kd, y, b, as, rest, hcl, rfl, h⟩ := h
      obtain ⟨hw, h8, h9, hy6, hO, hnm, hns⟩ := zCall_w hcl
      obtain ⟨hcore, hcs, hS, hbs⟩ := id hI
      rcases h with ⟨rfl, hlen, hkb, h⟩ | ⟨hkd8, h⟩
      · have hy := hy6 (by decide)
        have hO9 := hO rfl
        have hw0 : ∀ w ∈ zSw ((zO m, ix), 0, y, []), w.before args s = true := fun w hw2 => hts w (hw w hw2)
        refine z_callX hI hmono h hc hs (fun w M1 hev hct hroom => ?_) (fun M1 w H1 locs1 cells1 slots1 hI1 hc1 hs1 h1 => ih _ _ _ _ _ _ _ _ _ h1 hl hI1 hc1 hs1)
        obtain ⟨k1, k2, k3, k4, k5, k6, k7⟩ := zM_ok hy
        obtain ⟨ha1, ha2⟩ := zSk_own (a := b) hcore.2.2.2.2 hcore.2.2.2.1 (by rw [hkb]; show zO y < 30; omega)
        have hws := zws_get (Z := Z) ha1 ha2
        rw [zent_o hkb hO9] at hws
        refine va_runV (As := as.map (zτ Z)) (C := (zNm y).cls) (n := zA y) (cc := zB m) (nL := zML m) ⟨hx, hb, hml, hown, hts⟩ (hM _ _ _ _ _ hev)
          ⟨zCB hts hfr hlo hy (hw0 _ (by simp [zSw])) (hw0 _ (by simp [zSw])), hw0 _ (by simp [zSw]), hw0 _ (by simp [zSw])⟩
          ⟨zPc_blind Z _ M, ?_, ?_⟩ rfl (by rw [List.length_map]; exact hlen) hl.1 zmap_stack (zct_room hct) hd hroom
        · rw [k6, ← zC_nr _ hO9]
          exact va_recv (q := (zClN (zO y), zClT (zO y), zN (zO y))) hT.1 hcore.2.2.1 (zC_cl _ hO9) hws
        · exact z_pre hT hSp hI
      · have hy : y = 900 ∨ y = 901 := hkd8.elim (fun q => Or.inl (h8 q)) (fun q => Or.inr (h9 q))
        have hw0 : ∀ w ∈ zSw ((zO m, ix), kd, y, []), w.before args s = true := fun w hw2 => hts w (hw w hw2)
        refine z_callX hI hmono h hc hs (fun w M1 hev hct hroom => ?_) (fun M1 w H1 locs1 cells1 slots1 hI1 hc1 hs1 h1 => ih _ _ _ _ _ _ _ _ _ h1 hl hI1 hc1 hs1)
        have hre : (∃ i, i < 6 ∧ b = 3 + i) ∧ as.length = zA y := by
          cases d with
          | zero => exact hev.elim
          | succ d =>
            rcases hev with ⟨rfl, -, -, i, h1, h2, -⟩ | ⟨rfl, -, -, i, j, h1, -, h2, -⟩ | ⟨h1, -⟩
            · simp only [List.cons.injEq, Value.ref.injEq] at h2
              obtain ⟨rfl, rfl⟩ := h2
              exact ⟨⟨i, h1, rfl⟩, rfl⟩
            · simp only [List.cons.injEq, Value.ref.injEq] at h2
              obtain ⟨rfl, rfl⟩ := h2
              exact ⟨⟨i, h1, rfl⟩, rfl⟩
            · rcases hy with rfl | rfl <;> omega
        obtain ⟨⟨i, hi6, rfl⟩, hlen⟩ := hre
        have hrec := vk_recv hSp.2.2.2.2.2.1 hi6 hS
        have e3 : zρ Z (3 + i) = zsp Z (3 + i) := if_pos (by omega)
        have hcB : CallB R0 s args (zRn (zO m)) ix (zNm y) (zB y) (zML y) (zRt y) (zWs y) (zRm d (zn M1 - zn M) (zs M1 - zs M)) (zn M1 - zn M) (zs M1 - zs M) (zA y) ∧ (Cond.instanceMethod (zNm y)).before args s = true ∧ (Cond.selects "java/lang/String" (zNm y) (zNm y)).before args s = true := by
          have e8 : zSw ((zO m, ix), kd, y, []) = [.methodLink (zRn (zO m)) ix (zNm y), .instanceMethod (zNm y), .selects (zNm y).cls (zNm y) (zNm y), .initialized (zNm y).cls] := by
            rcases hkd8 with rfl | rfl <;> rfl
          rw [e8] at hw0
          have hG : GoodIn zW (zWs y) := by
            intro w hw
            rcases List.mem_cons.mp hw with h | h
            · subst h
              rcases hy with rfl | rfl
              · exact zW_good _ (zW_in _ zMtL_c rfl)
              · exact zW_good _ (zW_in _ zMtC_c rfl)
            · exact zW_good _ h
          have hcls : (zNm y).cls = "java/lang/String" := by rcases hy with rfl | rfl <;> rfl
          refine ⟨callB_of (zA y) hts hG rfl rfl rfl (hw0 _ (by simp)) (hw0 _ (by simp)) ?_ ⟨hfr, ?_⟩, hw0 _ (by simp), ?_⟩
          · rcases hy with rfl | rfl <;> decide +kernel
          · have : zML y ≤ 2 := by rcases hy with rfl | rfl <;> decide
            show 8 + (zML y + 11) + 60 * d ≤ R0.locals
            omega
          · have := hw0 _ (show Cond.selects (zNm y).cls (zNm y) (zNm y) ∈ _ by simp)
            rw [hcls] at this
            exact this
        refine va_runV (As := as.map (zτ Z)) (C := "java/lang/String") (n := zA y) (cc := zB m) (nL := zML m) ⟨hx, hb, hml, hown, hts⟩ (hM _ _ _ _ _ hev)
          ⟨hcB.1, hcB.2.1, hcB.2.2⟩
          ⟨zPc_blind Z _ M, ?_, ?_⟩ rfl (by rw [List.length_map]; exact hlen) hl.1 zmap_stack (zct_room hct) hd hroom
        · rw [e3]
          exact hrec
        · exact z_pre hT hSp hI
    | invokestatic ix =>
      obtain ⟨rfl, kd, y, hcl, h⟩ := h
      obtain ⟨hw, h8, h9, hy6, hO, hnm, hns⟩ := zCall_w hcl
      obtain ⟨hcore, hcs, hS, hbs⟩ := id hI
      have hw0 : ∀ w ∈ zSw ((zO m, ix), kd, y, []), w.before args s = true := fun w hw2 => hts w (hw w hw2)
      rcases h with ⟨hkd, as, rest, rfl, hlen, h⟩ | ⟨rfl, N, dp, sp, a, a0, rest, n0, n1, rfl, hk0, hk1, hsp, hdp, hN, hn0, hn1, hct, h⟩ | ⟨rfl, x1, y1, rest, rfl, hct, h⟩ | ⟨rfl, x1, y1, rest, rfl, hct, h⟩
      · have hy : y < 216 := hy6 (by rcases hkd with rfl | rfl <;> decide)
        refine z_callX hI hmono h hc hs (fun w M1 hev hct hroom => ?_) (fun M1 w H1 locs1 cells1 slots1 hI1 hc1 hs1 h1 => ih _ _ _ _ _ _ _ _ _ h1 hl hI1 hc1 hs1)
        have hst : (as.reverse ++ rest).map (zτ Z) = (as.map (zτ Z)).reverse ++ rest.map (zτ Z) := by rw [List.map_append, List.map_reverse]
        rcases hkd with rfl | rfl
        · exact va_runS (As := as.map (zτ Z)) (n := zA y) (cc := zB m) (nL := zML m) ⟨hx, hb, hml, hown, hts⟩ (hM _ _ _ _ _ hev)
            ⟨zCB hts hfr hlo hy (hw0 _ (by simp [zSw])) (hw0 _ (by simp [zSw])), hw0 _ (by simp [zSw])⟩
            ⟨zPc_blind Z _ M, z_pre hT hSp hI⟩ rfl (by rw [List.length_map]; exact hlen) hl.1 hst (zct_room hct) hd hroom
        · obtain ⟨k1, k2, k3, k4, k5, k6, k7⟩ := zM_ok hy
          exact va_runSN (As := as.map (zτ Z)) (n := zA y) (cc := zB m) (nL := zML m) (host := "SagaDesk") ⟨hx, hb, hml, hown, hts⟩ (hM _ _ _ _ _ hev)
            ⟨va_cnB (zA y) hts (zWs_in hy) rfl rfl rfl (zNs_w hT (hns (by decide))) (hw0 _ (by simp [zSw])) ⟨k2.1, k2.2, k3⟩ ⟨hfr, by show 8 + (zML y + 11) + 60 * d ≤ R0.locals; omega⟩, hw0 _ (by simp [zSw]), trivial⟩
            ⟨zPc_blind Z _ M, z_pre hT hSp hI⟩ rfl (by rw [List.length_map]; exact hlen) hl.1 hst (zct_room hct) hd hroom
      · obtain ⟨ha1, ha2⟩ := zSk_own (a := a) hcore.2.2.2.2 hcore.2.2.2.1 (by rw [hk1]; show 20 < 30; omega)
        obtain ⟨hb1, hb2⟩ := zSk_own (a := a0) hcore.2.2.2.2 hcore.2.2.2.1 (by rw [hk0]; show 20 < 30; omega)
        have hws := zws_get (Z := Z) ha1 ha2
        rw [zent_i hk1] at hws
        have hws0 := zws_get (Z := Z) hb1 hb2
        rw [zent_i hk0] at hws0
        refine va_copyi hx hb (hml.trans hl.1.symm) hown (hw0 _ (by simp [zSw])) (hw0 _ (by simp [zSw])) (hw0 _ (by simp [zSw])) (hw0 _ (by simp [zSw])) hT.1 hcore.2.2.1 (zws_D Z M) hI.self (a0 - 16) (a - 16) 0 0 hws0 hws rfl rfl rfl hsp hdp hN hn0 hn1 (fun _ _ => rfl) (by omega) (by
          rw [zct_map]
          have : nativeFrameWords "java/lang/System" "arraycopy" 5 ≤ 30 := by decide
          omega) hd (fun H1 locs1 h1 _ h3 => ?_)
        have e : zws Z (zcp M a0 sp.toNatClampNeg a dp.toNatClampNeg N.toNatClampNeg) = (zws Z M).set (a - 16) (zρ Z a, .inl (zcy Z 20, n1, .inl (va_cpy (zi M a0) (zi M a) sp.toNatClampNeg dp.toNatClampNeg N.toNatClampNeg))) := by
          rw [zws_upd (M := M) (M2 := zcp M a0 sp.toNatClampNeg a dp.toNatClampNeg N.toNatClampNeg) ha1 rfl (fun b hb => zent_cp hb), zent_i (M := zcp M a0 sp.toNatClampNeg a dp.toNatClampNeg N.toNatClampNeg) hk1, zi_cp_self]
        rw [← e] at h1
        exact z_wr (M2 := zcp M a0 sp.toNatClampNeg a dp.toNatClampNeg N.toNatClampNeg) hI rfl h1 h3 (zFr_cp hcore.2.2.2.1 ha2) (zSk_cp hcore.2.2.2.2 ha1) (fun hI2 => ih _ _ _ _ _ _ _ _ _ h hl hI2 hc hs)
      · have hcm : (Cond.code Lib.Math.max.name Lib.Math.max.code 2 (some .int)).before args s = true := hts _ (zW_in _ zmx rfl)
        exact va_mmax hx hb (hml.trans hl.1.symm) hown (hw0 _ (by simp [zSw])) (hw0 _ (by simp [zSw])) (hw0 _ (by simp [zSw])) hcm (by omega) (by rw [zct_map]; omega) (by omega) (by omega) hd (ih _ _ _ _ _ _ _ _ _ h hl hI hc hs)
      · have hcm : (Cond.code Lib.Math.min.name Lib.Math.min.code 2 (some .int)).before args s = true := hts _ (zW_in _ zmn rfl)
        exact va_mmin hx hb (hml.trans hl.1.symm) hown (hw0 _ (by simp [zSw])) (hw0 _ (by simp [zSw])) (hw0 _ (by simp [zSw])) hcm (by omega) (by rw [zct_map]; omega) (by omega) (by omega) hd (ih _ _ _ _ _ _ _ _ _ h hl hI hc hs)
    | invokespecial ix =>
      obtain ⟨rfl, kd, y, b, as, rest, hcl, rfl, h⟩ := h
      obtain ⟨hw, h8, h9, hy6, hO, hnm, hns⟩ := zCall_w hcl
      have hw0 : ∀ w ∈ zSw ((zO m, ix), kd, y, []), w.before args s = true := fun w hw2 => hts w (hw w hw2)
      rcases h with ⟨rfl, rfl, hct, h⟩ | ⟨hkd, hlen, hrk, h⟩
      · have := zct_room (mm := mm) (pc := pc) (ls := ls) (st0 := []) (Z := Z) hct
        exact W.objInit hx hb hown (hw0 _ (by simp [zSw])) (hw0 _ (by simp [zSw])) (hw0 _ (by simp [zSw]; rfl)) rfl (hl.1.trans hml.symm) rfl hd (by omega) (by rw [zct_map]; show 2 * 0 + _ + 12 ≤ _; omega) (ih _ _ _ _ _ _ _ _ _ h hl hI hc hs)
      · have hy : y < 216 := hy6 (by rcases hkd with rfl | rfl <;> decide)
        have ert := zRt_none hy hrk
        refine z_callX hI hmono h hc hs (fun w M1 hev hct hroom => ?_) (fun M1 w H1 locs1 cells1 slots1 hI1 hc1 hs1 h1 => ih _ _ _ _ _ _ _ _ _ h1 hl hI1 hc1 hs1)
        obtain ⟨k1, k2, k3, k4, k5, k6, k7⟩ := zM_ok hy
        rcases hkd with rfl | rfl
        · have cb := zCB (o := zO m) (ix := ix) (d := d) (mc := zn M1 - zn M) (ms := zs M1 - zs M) hts hfr hlo hy (hw0 _ (by simp [zSw])) (hw0 _ (by simp [zSw]))
          rw [ert] at cb
          exact va_runI (As := as.map (zτ Z)) (n := zA y) (cc := zB m) (nL := zML m) (b := zρ Z b) ⟨hx, hb, hml, hown, hts⟩ (hM _ _ _ _ _ hev)
            ⟨cb, hnm (by decide), hw0 _ (by simp [zSw])⟩
            ⟨zPc_blind Z _ M, z_pre hT hSp hI⟩ rfl (by rw [List.length_map]; exact hlen) hl.1 zmap_stack (zct_room hct) hd hroom
        · have cb := va_cnB (own := zRn (zO m)) (index := ix) (R := R0) (args := args) (rm := zRm d (zn M1 - zn M) (zs M1 - zs M)) (mc := zn M1 - zn M) (ms := zs M1 - zs M) (zA y) hts (zWs_in hy) rfl rfl rfl (zNs_w hT (hns (by decide))) (hw0 _ (by simp [zSw])) ⟨k2.1, k2.2, k3⟩ ⟨hfr, by show 8 + (zML y + 11) + 60 * d ≤ R0.locals; omega⟩
          rw [ert] at cb
          exact va_runIN (As := as.map (zτ Z)) (n := zA y) (cc := zB m) (nL := zML m) (b := zρ Z b) (host := "SagaDesk") ⟨hx, hb, hml, hown, hts⟩ (hM _ _ _ _ _ hev)
            ⟨cb, hnm (by decide), hw0 _ (by simp [zSw])⟩
            ⟨zPc_blind Z _ M, z_pre hT hSp hI⟩ rfl (by rw [List.length_map]; exact hlen) hl.1 zmap_stack (zct_room hct) hd hroom
    | ireturn =>
      obtain ⟨rfl, x, hst, hk, hv, rfl⟩ := h
      exact hend _ _ _ _ _ _ _ _ hd ⟨x, hst, hk, hv⟩ hI (by omega) (by omega)
    | lreturn =>
      obtain ⟨rfl, x, hst, hk, hv, rfl⟩ := h
      exact hend _ _ _ _ _ _ _ _ hd ⟨x, hst, hk, hv⟩ hI (by omega) (by omega)
    | areturn =>
      obtain ⟨rfl, x, hst, hk, hv, rfl⟩ := h
      exact hend _ _ _ _ _ _ _ _ hd ⟨x, hst, hk, hv⟩ hI (by omega) (by omega)
    | return_ =>
      obtain ⟨rfl, hst, hk, hv, rfl⟩ := h
      exact hend _ _ _ _ _ _ _ _ hd ⟨hst, hk, hv⟩ hI (by omega) (by omega)
    | _ => exact h.elim
end ZR
/-! ===== String's length() and charAt() over the texts ===== -/
theorem zj_plain : plainName "java/lang/String" = true ∧ plainName "java/lang/StringLatin1" = true ∧ plainName "jdk/internal/util/Preconditions" = true := by decide +kernel
abbrev zjL : MethodName := ⟨"java/lang/String", "length", "()I"⟩
abbrev zjO : MethodName := ⟨"java/lang/String", "coder", "()B"⟩
abbrev zjC : MethodName := ⟨"java/lang/String", "charAt", "(I)C"⟩
abbrev zjI : MethodName := ⟨"java/lang/String", "isLatin1", "()Z"⟩
abbrev zjB : MethodName := ⟨"java/lang/StringLatin1", "charAt", "([BI)C"⟩
abbrev zjK : MethodName := ⟨"java/lang/String", "checkIndex", "(II)V"⟩
abbrev zjP : MethodName := ⟨"jdk/internal/util/Preconditions", "checkIndex", "(IILjava/util/function/BiFunction;)I"⟩
theorem zjw : ∀ w ∈ ([.fieldLink "java/lang/String" 9 "java/lang/String" "value" "[B", .fieldLink "java/lang/String" 15 "java/lang/String" "coder" "B", .fieldLink "java/lang/String" 38 "java/lang/String" "COMPACT_STRINGS" "Z",
    .methodLink "java/lang/String" 335 zjO, .instanceMethod zjO, .selects "java/lang/String" zjO zjO, .initialized "java/lang/String", .methodLink "java/lang/String" 492 zjI, .instanceMethod zjI, .selects "java/lang/String" zjI zjI,
    .methodLink "java/lang/String" 495 zjB, .static zjB, .initialized "java/lang/StringLatin1", .methodLink "java/lang/StringLatin1" 9 zjK, .static zjK, .methodLink "java/lang/String" 1059 zjP, .static zjP, .initialized "jdk/internal/util/Preconditions",
    .fieldLink "java/lang/String" 1053 "jdk/internal/util/Preconditions" "SIOOBE_FORMATTER" "Ljava/util/function/BiFunction;"] : List Cond), w ∈ lw_tbl ∧ goodWord w = true := by decide +kernel
theorem zjwW {w : Cond} (h : w ∈ lw_tbl ∧ goodWord w = true) : w ∈ zW := List.mem_filter.mpr h
section ZJ
variable {lc : Launch} {Z : zX} {M : zM}
theorem zj_of {y : MethodName} {code : ByteArray} {maxL d : Nat} {ret : Option FieldType} {av : List Value} {v : Option Value} (hp : plainName y.cls = true) (hlen : (lg_sl av).length ≤ maxL)
    (body : ∀ (p : Program) (e : Env) (s : State) (m : MethodId) (below : List Frame) (meth : Method) (c : Code), p.tables.exec = Jvm.exec → c.code = code → c.maxLocals = maxL → meth.sig.returnType = ret → meth.locks = false → s.vm.findClass y.cls = some m.cls → (∀ w ∈ zW, w.before av.toArray s = true) → zTab Z s → zSpc Z s s.heap → zInv Z s M s.heap [] 0 →
      ∀ ls, lv_has ls maxL (lv_args 0 av) → W p lc e (zRm d 0 0) s m av.toArray below meth c s.heap [] 0 0 (MQ below (zQc Z v M) av.toArray s 0 0 (zAd Z)) (F0 m 0 ls [])) :
    Met lc y (.code y code maxL ret :: zW) (zRm d 0 0) (va_Pc av (zRep Z M)) (zQc Z v M) 0 0 (zAd Z) := by
  refine Met.ofW (cc := code) (maxL := maxL) (ret := ret) hp rfl ?_
  intro p e s m args below meth c s₁ B hml hv
  obtain ⟨rfl, hcore, hT, hSp⟩ := hv
  have hts0 := atoms_spec (ws := .code y code maxL ret :: zW) B.pre
  have hts : ∀ w ∈ zW, w.before av.toArray s = true := fun w hw => hts0 w (List.mem_cons_of_mem _ hw)
  have hl := lv_entry av (n := maxL) hlen
  rw [lg_entry_eq]
  have hH := hcore.2.1
  exact body p e s m below meth c B.exec B.bytes hml B.returns B.notSynchronized (findClass_of_methodNamed B.named) hts hT hSp ⟨hcore, by omega, va_S.rf, by omega⟩ _ hl
theorem zj_blind (av : List Value) : FrameBlind (va_Pc av (zRep Z M)) := fun a U g mk h => by
  obtain ⟨h1, h2, h3, h4⟩ := h
  exact ⟨h1, h2, zTab.same (s := U) (U := U.calling g mk a) rfl h3, zSpc.moved (u := U) (U := U.calling g mk a) (Vm.Alike.refl U.vm) h4⟩
theorem zj_pre {s : State} {H : Heap} {locs : List Loc} {cells : Nat} {av : List Value} (hT : zTab Z s) (hSp : zSpc Z s s.heap) (hI : zInv Z s M H locs cells) : ∀ U : State, U.heap = H → s.WarmedH U.vm → va_Pc av (zRep Z M) av.toArray U := by
  intro U hU hW
  obtain ⟨hcore, hcs, hS, hbs⟩ := hI
  exact ⟨rfl, by rw [hU]; exact hcore, hT.warm hW, by rw [hU]; exact (zSpc_now hSp hS).moved hW.alike⟩
theorem zj_B {s : State} {args : Array Value} {R0 : Room} {own : String} {ix n d maxL : Nat} {y : MethodName} {code : ByteArray} {ret : Option FieldType} (hts : ∀ w ∈ zW, w.before args s = true) (hc : Cond.code y code maxL ret ∈ zW)
    (hini : (Cond.initialized y.cls).before args s = true) (hl : (Cond.methodLink own ix y).before args s = true) (hd : y.cls ≠ "java/lang/invoke/MethodHandle" ∧ y.cls ≠ "java/lang/invoke/VarHandle" ∧ (parseMethodDescriptor y.desc).map (fun d => d.parameters.length) = some n) (hR : d + 1 ≤ R0.frames ∧ 8 + (maxL + 11) + 60 * d ≤ R0.locals) :
    CallB R0 s args own ix y code maxL ret (.code y code maxL ret :: zW) (zRm d 0 0) 0 0 n :=
  callB_of n hts (fun w hw => by
    rcases List.mem_cons.mp hw with h | h
    · subst h; exact zW_good _ hc
    · exact zW_good _ h) rfl rfl rfl hini hl hd hR
theorem zj_q {s t : State} {H : Heap} {locs : List Loc} {cells : Nat} {a : Array Value} (w : Option Value) (hI : zInv Z s M H locs cells) (ht : t.heap = H) : zQc Z w M a s (.returned (w.map (zτ Z))) t := ⟨rfl, by rw [ht]; exact hI.1, hI.2.2.1.F ht⟩
/-- coder() -/
theorem zj_coder {d i : Nat} (hi : i < 6) : Met lc zjO (.code zjO zjbO 1 (some .byte) :: zW) (zRm d 0 0) (va_Pc [.ref (zsp Z (3 + i))] (zRep Z M)) (zQc Z (some (.int 0)) M) 0 0 (zAd Z) := by
  refine zj_of zj_plain.1 (Nat.le_of_ble_eq_true rfl) ?_
  intro p e s m below meth c hx hb hml hr hlocks hown hts hT hSp hI ls hl
  have hS := hI.2.2.1
  obtain ⟨hO, hcd, hvl, hbt⟩ := hSp.2.2.2.2.2.1.1 i hi
  refine va_gets (index := 38) hx hb hSp.2.2.2.2.2.2.1 hS hown (hts _ (zjwW (zjw _ (by simp)))) (fun x hx => hx) (by decide +kernel) ?_
  refine lv_if_eq (off := 10) (tgt := 13) hx hb (by decide +kernel) (by decide) (fun q => absurd q (by decide)) (fun _ => ?_)
  refine lv_aload_n hx hb (show decode _ _ = .ok (.aload_n 0, 1) by decide +kernel) rfl (lv_at hl 0 rfl) ?_
  refine vk_getf (index := 15) hx hb hcd hS hown (hts _ (zjwW (zjw _ (by simp)))) (fun x hx => hx) (by decide +kernel) ?_
  refine lv_goto (off := 4) (tgt := 14) hx hb (by decide +kernel) (by decide) ?_
  exact W.zret hx hb hr (by decide) (fun t ht hW => zj_q (some (.int 0)) hI ht) hS.2.2 (by decide +kernel) (hlocks := hlocks)
/-- isLatin1() -/
theorem zj_isL {d i : Nat} (hi : i < 6) : Met lc zjI (.code zjI zjbI 1 (some .boolean) :: zW) (zRm d 0 0) (va_Pc [.ref (zsp Z (3 + i))] (zRep Z M)) (zQc Z (some (.int 1)) M) 0 0 (zAd Z) := by
  refine zj_of zj_plain.1 (Nat.le_of_ble_eq_true rfl) ?_
  intro p e s m below meth c hx hb hml hr hlocks hown hts hT hSp hI ls hl
  have hS := hI.2.2.1
  obtain ⟨hO, hcd, hvl, hbt⟩ := hSp.2.2.2.2.2.1.1 i hi
  refine va_gets (index := 38) hx hb hSp.2.2.2.2.2.2.1 hS hown (hts _ (zjwW (zjw _ (by simp)))) (fun x hx => hx) (by decide +kernel) ?_
  refine lv_if_eq (off := 14) (tgt := 17) hx hb (by decide +kernel) (by decide) (fun q => absurd q (by decide)) (fun _ => ?_)
  refine lv_aload_n hx hb (show decode _ _ = .ok (.aload_n 0, 1) by decide +kernel) rfl (lv_at hl 0 rfl) ?_
  refine vk_getf (index := 15) hx hb hcd hS hown (hts _ (zjwW (zjw _ (by simp)))) (fun x hx => hx) (by decide +kernel) ?_
  refine lv_if_ne (off := 7) (tgt := 17) hx hb (by decide +kernel) (by decide) (fun q => absurd rfl q) (fun _ => ?_)
  refine lv_iconst (n := 1) hx hb (by decide +kernel) rfl ?_
  refine lv_goto (off := 4) (tgt := 18) hx hb (by decide +kernel) (by decide) ?_
  exact W.zret hx hb hr (by decide) (fun t ht hW => zj_q (some (.int 1)) hI ht) hS.2.2 (by decide +kernel) (hlocks := hlocks)
/-- Preconditions.checkIndex() -/
theorem zj_P {d : Nat} {k n : Int32} {r : Option Nat} (h0 : ¬ k < 0) (hkn : k < n) : Met lc zjP (.code zjP zjbP 3 (some .int) :: zW) (zRm d 0 0) (va_Pc [.int k, .int n, va_rf r] (zRep Z M)) (zQc Z (some (.int k)) M) 0 0 (zAd Z) := by
  refine zj_of zj_plain.2.2 (by cases r <;> exact Nat.le_of_ble_eq_true rfl) ?_
  intro p e s m below meth c hx hb hml hr hlocks hown hts hT hSp hI ls hl
  have hS := hI.2.2.1
  have hl : lv_has ls 3 [(0, .int k), (1, .int n)] := lv_sub hl [0, 1] rfl
  refine lv_iload_n hx hb (show decode _ _ = .ok (.iload_n 0, 1) by decide +kernel) rfl (lv_at hl 0 rfl) ?_
  refine lv_if_lt (off := 8) (tgt := 9) hx hb (by decide +kernel) (by decide) (fun q => absurd q h0) (fun _ => ?_)
  refine lv_iload_n hx hb (show decode _ _ = .ok (.iload_n 0, 1) by decide +kernel) rfl (lv_at hl 0 rfl) ?_
  refine lv_iload_n hx hb (show decode _ _ = .ok (.iload_n 1, 1) by decide +kernel) rfl (lv_at hl 1 rfl) ?_
  refine lv_icmp_lt (off := 10) (tgt := 16) hx hb (by decide +kernel) (by decide) (fun _ => ?_) (fun q => absurd hkn q)
  refine lv_iload_n hx hb (show decode _ _ = .ok (.iload_n 0, 1) by decide +kernel) rfl (lv_at hl 0 rfl) ?_
  exact W.zret hx hb hr rfl (fun t ht hW => zj_q (some (.int k)) hI ht) hS.2.2 (by decide +kernel) (hlocks := hlocks)
/-- String.checkIndex() -/
theorem zj_K {d : Nat} {k n : Int32} (h0 : ¬ k < 0) (hkn : k < n) : Met lc zjK (.code zjK zjbK 2 none :: zW) (zRm (d + 1) 0 0) (va_Pc [.int k, .int n] (zRep Z M)) (zQc Z none M) 0 0 (zAd Z) := by
  refine zj_of zj_plain.1 (Nat.le_of_ble_eq_true rfl) ?_
  intro p e s m below meth c hx hb hml hr hlocks hown hts hT hSp hI ls hl
  have hS := hI.2.2.1
  refine lv_iload_n hx hb (show decode _ _ = .ok (.iload_n 0, 1) by decide +kernel) rfl (lv_at hl 0 rfl) ?_
  refine lv_iload_n hx hb (show decode _ _ = .ok (.iload_n 1, 1) by decide +kernel) rfl (lv_at hl 1 rfl) ?_
  have hlk := hts _ (zjwW (zjw (.fieldLink "java/lang/String" 1053 "jdk/internal/util/Preconditions" "SIOOBE_FORMATTER" "Ljava/util/function/BiFunction;") (by simp)))
  have go : ∀ r : Option Nat, W p lc e (zRm (d + 1) 0 0) s m (List.toArray [.int k, .int n]) below meth c s.heap [] 0 0 (MQ below (zQc Z none M) (List.toArray [.int k, .int n]) s 0 0 (zAd Z)) (F0 m 5 ls [va_rf r, .int n, .int k]) := by
    intro r
    refine z_call (M := M) (M1 := M) (w := some (.int k)) (rest := []) (aa := ([.int k, .int n, va_rf r] : List Value).toArray) hI (Nat.le_refl _) ?_ (fun H1 locs1 hI1 => ?_)
    · rw [Nat.sub_self, Nat.sub_self]
      exact va_runS (index := 1059) (As := [.int k, .int n, va_rf r]) (rest := []) (n := 3) ⟨hx, hb, hml, hown, hts⟩ (zj_P (d := d) h0 hkn)
        ⟨zj_B hts (zW_in _ zjcP rfl) (hts _ (zjwW (zjw _ (by simp)))) (hts _ (zjwW (zjw _ (by simp)))) (by decide +kernel) ⟨Nat.le_refl _, by show 8 + (3 + 11) + 60 * d ≤ 60 * (d + 1); omega⟩, hts _ (zjwW (zjw _ (by simp)))⟩
        ⟨zj_blind _, zj_pre hT hSp hI⟩ rfl rfl hl.1 (by cases r <;> rfl) (lv_room (Nat.le_of_ble_eq_true rfl)) (show decode _ 5 = .ok (.invokestatic 1059, 3) by decide +kernel) ⟨Nat.le_refl _, Nat.le_refl _⟩
    · refine lv_pop hx hb (by decide +kernel) rfl ?_
      rw [Nat.sub_self, Nat.sub_self] at *
      exact W.vret hx hb hr (fun t ht hW => zj_q none hI1 ht) hI1.2.2.1.2.2 (by decide +kernel) (hlocks := hlocks)
  rcases hSp.2.2.2.2.2.2.2 with hz | ⟨t, hz⟩
  · exact va_gets (index := 1053) hx hb hz hS hown hlk (fun x hx => hx) (by decide +kernel) (go none)
  · exact va_gets (index := 1053) hx hb hz hS hown hlk (fun x hx => hx) (by decide +kernel) (go (some t))
theorem zj_ch : ∀ i, i < 6 → (zTx i).length = zLen.getD i 0 ∧ zByt.getD i [] = zTx i ∧ Int32.ofNat (zTx i).length >>> ((0 : Int32) &&& 31) = Int32.ofNat (zTx i).length ∧ (zTx i).length < 100 ∧ ∀ j, j < (zTx i).length → (((zTx i).getD j 0 &&& (Int16.ofInt 255).toInt32).toUInt32 % 65536).toInt32 = (zTx i).getD j 0 ∧ narrow .char (.int ((zTx i).getD j 0)) = .int ((zTx i).getD j 0) := by decide +kernel
/-- StringLatin1.charAt() -/
theorem zj_B1 {d i j : Nat} (hi : i < 6) (hj : j < (zTx i).length) : Met lc zjB (.code zjB zjbB 2 (some .char) :: zW) (zRm (d + 2) 0 0) (va_Pc [.ref (zav Z i), .int (Int32.ofNat j)] (zRep Z M)) (zQc Z (some (.int ((zTx i).getD j 0))) M) 0 0 (zAd Z) := by
  refine zj_of zj_plain.2.1 (Nat.le_of_ble_eq_true rfl) ?_
  intro p e s m below meth c hx hb hml hr hlocks hown hts hT hSp hI ls hl
  have hS := hI.2.2.1
  obtain ⟨hO, hcd, hvl, hbt⟩ := hSp.2.2.2.2.2.1.1 i hi
  obtain ⟨e1, e2, e3, e4, e5⟩ := zj_ch i hi
  obtain ⟨e6, e7⟩ := e5 j hj
  refine lv_iload_n hx hb (show decode _ _ = .ok (.iload_n 1, 1) by decide +kernel) rfl (lv_at hl 1 rfl) ?_
  refine lv_aload_n hx hb (show decode _ _ = .ok (.aload_n 0, 1) by decide +kernel) rfl (lv_at hl 0 rfl) ?_
  refine va_tlen hx hb hbt hS rfl (by decide +kernel) ?_
  have h0 : ¬ Int32.ofNat j < 0 := nI_pos (n := j) (by omega)
  have hkn : Int32.ofNat j < Int32.ofNat (zLen.getD i 0) := nI_lt (by omega) (by omega)
  refine z_call (M := M) (M1 := M) (w := none) (rest := []) (aa := ([.int (Int32.ofNat j), .int (Int32.ofNat (zLen.getD i 0))] : List Value).toArray) hI (Nat.le_refl _) ?_ (fun H1 locs1 hI1 => ?_)
  · rw [Nat.sub_self, Nat.sub_self]
    exact va_runS (index := 9) (As := [.int (Int32.ofNat j), .int (Int32.ofNat (zLen.getD i 0))]) (rest := []) (n := 2) ⟨hx, hb, hml, hown, hts⟩ (zj_K (d := d) h0 hkn)
      ⟨zj_B hts (zW_in _ zjcK rfl) (hts _ (zjwW (zjw _ (by simp)))) (hts _ (zjwW (zjw _ (by simp)))) (by decide +kernel) ⟨Nat.le_refl _, by show 8 + (2 + 11) + 60 * (d + 1) ≤ 60 * (d + 2); omega⟩, hts _ (zjwW (zjw _ (by simp)))⟩
      ⟨zj_blind _, zj_pre hT hSp hI⟩ rfl rfl hl.1 rfl (lv_room (Nat.le_of_ble_eq_true rfl)) (show decode _ 3 = .ok (.invokestatic 9, 3) by decide +kernel) ⟨Nat.le_refl _, Nat.le_refl _⟩
  · have hS1 := hI1.2.2.1
    refine lv_aload_n hx hb (show decode _ _ = .ok (.aload_n 0, 1) by decide +kernel) rfl (lv_at hl 0 rfl) ?_
    refine lv_iload_n hx hb (show decode _ _ = .ok (.iload_n 1, 1) by decide +kernel) rfl (lv_at hl 1 rfl) ?_
    have hcl : (Int32.ofNat j).toNatClampNeg = j := nI_clamp (n := j) (by omega)
    refine va_tb (v := .int ((zTx i).getD j 0)) hx hb hbt hS1 (vp_in_nI (n := j) (by omega) (by omega)) (by rw [hcl, e2]) (by decide +kernel) ?_
    refine lv_sipush (n := 255) hx hb (by decide +kernel) rfl ?_
    refine lv_iand hx hb (by decide +kernel) ?_
    refine lv_i2c hx hb (by decide +kernel) e6 ?_
    rw [Nat.sub_self, Nat.sub_self] at *
    exact W.zret hx hb hr e7 (fun t ht hW => zj_q (some (.int ((zTx i).getD j 0))) hI1 ht) hS1.2.2 (by decide +kernel) (hlocks := hlocks)
end ZJ
/-! ===== a run of the small machine is a contract ===== -/
theorem zlm_args (Z : zX) : ∀ (as : List Value) (i : Nat), lv_args i (as.map (zτ Z)) = zlm Z (lv_args i as)
  | [], _ => rfl
  | v :: vs, i => by
    show (i, zτ Z v) :: lv_args (if (zτ Z v).category = 2 then i + 2 else i + 1) (vs.map (zτ Z)) = (i, zτ Z v) :: zlm Z (lv_args (if v.category = 2 then i + 2 else i + 1) vs)
    rw [zτ_cat, zlm_args Z vs]
theorem zsl_len : ∀ (as : List Value), (lg_sl as).length = zct as
  | [] => rfl
  | v :: vs => by
    have ih := zsl_len vs
    unfold lg_sl at ih ⊢
    rw [List.flatMap_cons, List.length_append, ih]
    show _ = v.category + zct vs
    rcases lv_cat v with h | h <;> rw [h] <;> rfl
theorem z_end {p : Program} {lc : Launch} {e : Env} {R0 : Room} {s : State} {mm : MethodId} {args : Array Value} {below : List Frame} {meth : Method} {c : Code} {Z : zX} {M' : zM} {y mc ms : Nat} {v : Option Value}
    (hx : p.tables.exec = Jvm.exec) (hb : c.code = zB y) (hr : meth.sig.returnType = zRt y) (hlocks : meth.locks = false) (hy : y < 216)
    (pc : Nat) (H : Heap) (locs : List Loc) (cells slots : Nat) (ls : Array Slot) (st : List Value) (i : Instr) (hd : decode (zB y) pc = .ok (i, 1)) (h : zEnd y i st v) (hI : zInv Z s M' H locs cells) (hc : cells ≤ mc) (hs : slots ≤ ms) :
    W p lc e R0 s mm args below meth c H locs cells slots (MQ below (zQc Z v M') args s mc ms (zAd Z)) (F0 mm pc ls (st.map (zτ Z))) := by
  refine W.widen hc hs ?_
  obtain ⟨hcore, hcs, hS, hbs⟩ := hI
  have hk := (zM_ok hy).2.2.2.2.2.2
  have hq : ∀ (w : Option Value), v = w → ∀ t : State, t.heap = H → s.WarmedH t.vm → zQc Z v M' args s (.returned (w.map (zτ Z))) t := fun w hw t ht hW => ⟨by rw [hw], by rw [ht]; exact hcore, hS.F ht⟩
  cases i with
  | ireturn =>
    obtain ⟨x, rfl, h1, h2⟩ := h
    rcases h1 with h1 | ⟨h1, h3⟩
    · rw [h1] at hk
      have ert : zRt y = some .int := of_decide_eq_true hk
      exact W.zret hx hb (hr.trans ert) rfl (hq _ h2) hS.2.2 hd (hlocks := hlocks)
    · rw [h1] at hk
      have ert : zRt y = some .boolean := of_decide_eq_true hk
      exact W.zret hx hb (hr.trans ert) (by rcases h3 with rfl | rfl <;> decide) (hq _ h2) hS.2.2 hd (hlocks := hlocks)
  | lreturn =>
    obtain ⟨x, rfl, h1, h2⟩ := h
    rw [h1] at hk
    have ert : zRt y = some .long := of_decide_eq_true hk
    exact W.lret hx hb (hr.trans ert) (hq _ h2) hS.2.2 hd (hlocks := hlocks)
  | areturn =>
    obtain ⟨r, rfl, h1, h2⟩ := h
    rw [h1] at hk
    have ert : ∃ rt, zRt y = some rt ∧ ((∃ n, rt = .object n) ∨ ∃ t, rt = .array t) := by
      cases e : zRt y with
      | none => rw [e] at hk; cases hk
      | some rt =>
        cases rt with
        | object n => exact ⟨_, rfl, Or.inl ⟨_, rfl⟩⟩
        | array t => exact ⟨_, rfl, Or.inr ⟨_, rfl⟩⟩
        | _ => rw [e] at hk; cases hk
    obtain ⟨rt, ert, hrt⟩ := ert
    have hvr : zτ Z (va_rf r) = .null ∨ ∃ a, zτ Z (va_rf r) = .ref a := by cases r with
      | none => exact Or.inl rfl
      | some a => exact Or.inr ⟨_, rfl⟩
    exact W.aret hx hb (hr.trans ert) hrt hvr (hq _ h2) hS.2.2 hd (hlocks := hlocks)
  | return_ =>
    obtain ⟨rfl, h1, h2⟩ := h
    exact W.vret hx hb (hr.trans (zRt_none hy h1)) (hq _ h2) hS.2.2 hd (hlocks := hlocks)
  | _ => exact h.elim
theorem z_len (Z : zX) (lc : Launch) {d i : Nat} {M : zM} (hd : 6 ≤ d) (hi : i < 6) : Met lc (zNm 900) (zWs 900) (zRm (d + 1) (zn M - zn M) (zs M - zs M)) (zPc Z [.ref (3 + i)] M) (zQc Z (some (.int (Int32.ofNat (zTx i).length))) M) (zn M - zn M) (zs M - zs M) (zAd Z) := by
  rw [Nat.sub_self, Nat.sub_self]
  have e3 : zρ Z (3 + i) = zsp Z (3 + i) := if_pos (by omega)
  have ea : [.ref (3 + i)].map (zτ Z) = [.ref (zsp Z (3 + i))] := by show [Value.ref (zρ Z (3 + i))] = _; rw [e3]
  unfold zPc
  rw [ea]
  refine zj_of (y := zjL) (code := prog_13_method_54_code) (maxL := 1) (ret := some .int) zj_plain.1 (Nat.le_of_ble_eq_true rfl) ?_
  intro p e s m below meth c hx hb hml hr hlocks hown hts hT hSp hI ls hl
  have hS := hI.2.2.1
  obtain ⟨hO, hcd, hvl, hbt⟩ := hSp.2.2.2.2.2.1.1 i hi
  obtain ⟨e1, e2, e4, e5, -⟩ := zj_ch i hi
  refine lv_aload_n hx hb (show decode _ _ = .ok (.aload_n 0, 1) by decide +kernel) rfl (lv_at hl 0 rfl) ?_
  refine vk_getf (index := 9) hx hb hvl hS hown (hts _ (zjwW (zjw _ (by simp)))) (fun x hx => hx) (by decide +kernel) ?_
  refine va_tlen hx hb hbt hS rfl (by decide +kernel) ?_
  refine lv_aload_n hx hb (show decode _ _ = .ok (.aload_n 0, 1) by decide +kernel) rfl (lv_at hl 0 rfl) ?_
  refine z_call (M := M) (M1 := M) (w := some (.int 0)) (rest := [.int (Int32.ofNat (zLen.getD i 0))]) (aa := ([.ref (zsp Z (3 + i))] : List Value).toArray) hI (Nat.le_refl _) ?_ (fun H1 locs1 hI1 => ?_)
  · rw [Nat.sub_self, Nat.sub_self]
    exact va_runV (index := 335) (As := []) (C := "java/lang/String") (rest := [.int (Int32.ofNat (zLen.getD i 0))]) (n := 0) ⟨hx, hb, hml, hown, hts⟩ (zj_coder (d := d) hi)
      ⟨zj_B hts (zW_in _ zjcO rfl) (hts _ (zjwW (zjw _ (by simp)))) (hts _ (zjwW (zjw _ (by simp)))) (by decide +kernel) ⟨Nat.le_refl _, by show 8 + (1 + 11) + 60 * d ≤ 60 * (d + 1); omega⟩, hts _ (zjwW (zjw _ (by simp))), hts _ (zjwW (zjw _ (by simp)))⟩
      ⟨zj_blind _, vk_recv (adK := fun i => zsp Z (3 + i)) (i := i) hSp.2.2.2.2.2.1 hi hS, zj_pre hT hSp hI⟩ rfl rfl hl.1 rfl (lv_room (Nat.le_of_ble_eq_true rfl)) (show decode _ 6 = .ok (.invokevirtual 335, 3) by decide +kernel) ⟨Nat.zero_le _, Nat.zero_le _⟩
  · refine lv_ishr hx hb (by decide +kernel) ?_
    rw [Nat.sub_self, Nat.sub_self] at *
    rw [← e1, e4]
    exact W.zret hx hb hr rfl (fun t ht hW => zj_q (some (.int (Int32.ofNat (zTx i).length))) hI1 ht) hI1.2.2.1.2.2 (by decide +kernel) (hlocks := hlocks)
theorem z_chr (Z : zX) (lc : Launch) {d i j : Nat} {M : zM} (hd : 6 ≤ d) (hi : i < 6) (hj : j < (zTx i).length) : Met lc (zNm 901) (zWs 901) (zRm (d + 1) (zn M - zn M) (zs M - zs M)) (zPc Z [.ref (3 + i), .int (Int32.ofNat j)] M) (zQc Z (some (.int ((zTx i).getD j 0))) M) (zn M - zn M) (zs M - zs M) (zAd Z) := by
  rw [Nat.sub_self, Nat.sub_self]
  obtain ⟨d, rfl⟩ : ∃ d', d = d' + 2 := ⟨d - 2, by omega⟩
  have e3 : zρ Z (3 + i) = zsp Z (3 + i) := if_pos (by omega)
  have ea : [.ref (3 + i), .int (Int32.ofNat j)].map (zτ Z) = [.ref (zsp Z (3 + i)), .int (Int32.ofNat j)] := by show [Value.ref (zρ Z (3 + i)), _] = _; rw [e3]; rfl
  unfold zPc
  rw [ea]
  refine zj_of (y := zjC) (code := prog_13_method_56_code) (maxL := 2) (ret := some .char) zj_plain.1 (Nat.le_of_ble_eq_true rfl) ?_
  intro p e s m below meth c hx hb hml hr hlocks hown hts hT hSp hI ls hl
  have hS := hI.2.2.1
  obtain ⟨hO, hcd, hvl, hbt⟩ := hSp.2.2.2.2.2.1.1 i hi
  obtain ⟨e1, e2, e4, e5, e6⟩ := zj_ch i hi
  refine lv_aload_n hx hb (show decode _ _ = .ok (.aload_n 0, 1) by decide +kernel) rfl (lv_at hl 0 rfl) ?_
  refine z_call (M := M) (M1 := M) (w := some (.int 1)) (rest := []) (aa := ([.ref (zsp Z (3 + i))] : List Value).toArray) hI (Nat.le_refl _) ?_ (fun H1 locs1 hI1 => ?_)
  · rw [Nat.sub_self, Nat.sub_self]
    exact va_runV (index := 492) (As := []) (C := "java/lang/String") (rest := []) (n := 0) ⟨hx, hb, hml, hown, hts⟩ (zj_isL (d := d) hi)
      ⟨zj_B hts (zW_in _ zjcI rfl) (hts _ (zjwW (zjw _ (by simp)))) (hts _ (zjwW (zjw _ (by simp)))) (by decide +kernel) ⟨by show d + 1 ≤ d + 2 + 1; omega, by show 8 + (1 + 11) + 60 * d ≤ 60 * (d + 2 + 1); omega⟩, hts _ (zjwW (zjw _ (by simp))), hts _ (zjwW (zjw _ (by simp)))⟩
      ⟨zj_blind _, vk_recv (adK := fun i => zsp Z (3 + i)) (i := i) hSp.2.2.2.2.2.1 hi hS, zj_pre hT hSp hI⟩ rfl rfl hl.1 rfl (lv_room (Nat.le_of_ble_eq_true rfl)) (show decode _ 1 = .ok (.invokevirtual 492, 3) by decide +kernel) ⟨Nat.zero_le _, Nat.zero_le _⟩
  · have hS1 := hI1.2.2.1
    refine lv_if_eq (off := 12) (tgt := 16) hx hb (by decide +kernel) (by decide) (fun q => absurd q (by decide)) (fun _ => ?_)
    refine lv_aload_n hx hb (show decode _ _ = .ok (.aload_n 0, 1) by decide +kernel) rfl (lv_at hl 0 rfl) ?_
    refine vk_getf (index := 9) hx hb hvl hS1 hown (hts _ (zjwW (zjw _ (by simp)))) (fun x hx => hx) (by decide +kernel) ?_
    refine lv_iload_n hx hb (show decode _ _ = .ok (.iload_n 1, 1) by decide +kernel) rfl (lv_at hl 1 rfl) ?_
    rw [Nat.sub_self] at hI1
    rw [Nat.sub_self, Nat.sub_self]
    refine z_call (M := M) (M1 := M) (w := some (.int ((zTx i).getD j 0))) (rest := []) (aa := ([.ref (zav Z i), .int (Int32.ofNat j)] : List Value).toArray) hI1 (Nat.le_refl _) ?_ (fun H2 locs2 hI2 => ?_)
    · rw [Nat.sub_self, Nat.sub_self]
      exact va_runS (index := 495) (As := [.ref (zav Z i), .int (Int32.ofNat j)]) (rest := []) (n := 2) ⟨hx, hb, hml, hown, hts⟩ (zj_B1 (d := d) hi hj)
        ⟨zj_B hts (zW_in _ zjcB rfl) (hts _ (zjwW (zjw _ (by simp)))) (hts _ (zjwW (zjw _ (by simp)))) (by decide +kernel) ⟨Nat.le_refl _, by show 8 + (2 + 11) + 60 * (d + 2) ≤ 60 * (d + 2 + 1); omega⟩, hts _ (zjwW (zjw _ (by simp)))⟩
        ⟨zj_blind _, zj_pre hT hSp hI1⟩ rfl rfl hl.1 rfl (lv_room (Nat.le_of_ble_eq_true rfl)) (show decode _ 12 = .ok (.invokestatic 495, 3) by decide +kernel) ⟨Nat.zero_le _, Nat.zero_le _⟩
    · rw [Nat.sub_self, Nat.sub_self] at *
      exact W.zret hx hb hr (e6 j hj).2 (fun t ht hW => zj_q (some (.int ((zTx i).getD j 0))) hI2 ht) hI2.2.2.1.2.2 (by decide +kernel) (hlocks := hlocks)
theorem z_met (Z : zX) (lc : Launch) : ∀ (d y : Nat) (as : List Value) (M : zM) (v : Option Value) (M' : zM), zEv d y as M v M' → Met lc (zNm y) (zWs y) (zRm d (zn M' - zn M) (zs M' - zs M)) (zPc Z as M) (zQc Z v M') (zn M' - zn M) (zs M' - zs M) (zAd Z) := by
  intro d
  induction d with
  | zero => intro _ _ _ _ _ h; exact h.elim
  | succ d ih =>
    intro y as M v M' h
    rcases h with ⟨rfl, hd6, rfl, i, hi, rfl, rfl⟩ | ⟨rfl, hd6, rfl, i, j, hi, hj, rfl, rfl⟩ | ⟨hy, hct, f, h⟩
    · exact z_len Z lc hd6 hi
    · exact z_chr Z lc hd6 hi hj
    · refine Met.ofW (cc := zB y) (maxL := zML y) (ret := zRt y) (zM_ok hy).1 rfl ?_
      intro p e s m args below meth c s₁ B hml hv
      obtain ⟨rfl, hcore, hT, hSp⟩ := hv
      have hts0 := atoms_spec (ws := zWs y) B.pre
      have hts : ∀ w ∈ zW, w.before ((as.map (zτ Z)).toArray) s = true := fun w hw => hts0 w (List.mem_cons_of_mem _ hw)
      have hown : s.vm.findClass (zRn (zO y)) = some m.cls := by rw [← (zM_ok hy).2.2.2.2.2.1]; exact findClass_of_methodNamed B.named
      have hnm : meth.name = (zNm y).name := (name_of_methodNamed B.named B.method).1
      have hl := lv_entry (as.map (zτ Z)) (n := zML y) (by rw [zsl_len]; unfold zct; rw [zct_map]; exact hct)
      rw [zlm_args] at hl
      rw [lg_entry_eq]
      have hH := hcore.2.1
      have hI : zInv Z s M s.heap [] 0 := ⟨hcore, by omega, va_S.rf, by omega⟩
      exact z_run (d := d) (m := y) (v := v) (M' := M') B.exec B.bytes hml hown hts hT hSp (fun hq => by rw [hnm]; exact hq) (Nat.le_refl _) (Nat.le_refl _) ih (fun pc H locs cells slots ls st i hd he hI hc hs => z_end B.exec B.bytes B.returns B.notSynchronized hy pc H locs cells slots ls st i hd he hI hc hs) f 0 _ [] M s.heap [] 0 0 _ h hl hI (by show 0 + _ ≤ zn M' - zn M; omega) (by show 0 + _ ≤ zs M' - zs M; omega)
