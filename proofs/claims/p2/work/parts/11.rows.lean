/-! ===== rows of the small machine: one an instruction ===== -/
def qW (R : zRT) (m : Nat) (Q : Option Value → zM → Prop) (pc : Nat) (l : List (Nat × Value)) (st : List Value) (M : zM) : Prop := ∃ (f : Nat) (v : Option Value) (M' : zM), zLoop R m v M' f pc l st M ∧ Q v M'
/-- a call's end -/
def qC (d y : Nat) (as : List Value) (M : zM) (Q : Option Value → zM → Prop) : Prop := ∃ (v : Option Value) (M' : zM), zEv d y as M v M' ∧ Q v M'
section QR
variable {R : zRT} {m : Nat} {Q : Option Value → zM → Prop} {pc n : Nat} {l l' : List (Nat × Value)} {st : List Value} {M : zM}
theorem q_of {i : Instr} (hd : decode (zB m) pc = .ok (i, n)) (h : ∃ (f : Nat) (v : Option Value) (M' : zM), zSem R m (zLoop R m v M' f) v M' pc l st M n i ∧ Q v M') : qW R m Q pc l st M := by
  obtain ⟨f, v, M', h1, h2⟩ := h
  exact ⟨f + 1, v, M', ⟨i, n, hd, h1⟩, h2⟩
theorem q_null (hd : decode (zB m) pc = .ok (.aconst_null, 1)) (k : qW R m Q (pc + 1) l (.null :: st) M) : qW R m Q pc l st M := by
  obtain ⟨f, v, M', h1, h2⟩ := k; exact q_of hd ⟨f, v, M', ⟨rfl, h1⟩, h2⟩
theorem q_iconst {z : Int} {x : Int32} (hd : decode (zB m) pc = .ok (.iconst z, 1)) (hv : Int32.ofInt z = x) (k : qW R m Q (pc + 1) l (.int x :: st) M) : qW R m Q pc l st M := by
  subst hv; obtain ⟨f, v, M', h1, h2⟩ := k; exact q_of hd ⟨f, v, M', ⟨rfl, h1⟩, h2⟩
theorem q_bipush {z : Int} {x : Int32} (hd : decode (zB m) pc = .ok (.bipush z, 2)) (hv : (Int8.ofInt z).toInt32 = x) (k : qW R m Q (pc + 2) l (.int x :: st) M) : qW R m Q pc l st M := by
  subst hv; obtain ⟨f, v, M', h1, h2⟩ := k; exact q_of hd ⟨f, v, M', ⟨rfl, h1⟩, h2⟩
theorem q_sipush {z : Int} {x : Int32} (hd : decode (zB m) pc = .ok (.sipush z, 3)) (hv : (Int16.ofInt z).toInt32 = x) (k : qW R m Q (pc + 3) l (.int x :: st) M) : qW R m Q pc l st M := by
  subst hv; obtain ⟨f, v, M', h1, h2⟩ := k; exact q_of hd ⟨f, v, M', ⟨rfl, h1⟩, h2⟩
theorem q_lconst {z : Fin 2} {x : Int64} (hd : decode (zB m) pc = .ok (.lconst z, 1)) (hv : Int64.ofNat (z : Nat) = x) (k : qW R m Q (pc + 1) l (.long x :: st) M) : qW R m Q pc l st M := by
  subst hv; obtain ⟨f, v, M', h1, h2⟩ := k; exact q_of hd ⟨f, v, M', ⟨rfl, h1⟩, h2⟩
theorem q_ldc {ix : Nat} {x : Int32} (hd : decode (zB m) pc = .ok (.ldc ix, 2)) (hv : zKi (zO m) ix = some x) (k : qW R m Q (pc + 2) l (.int x :: st) M) : qW R m Q pc l st M := by
  obtain ⟨f, v, M', h1, h2⟩ := k; exact q_of hd ⟨f, v, M', ⟨rfl, Or.inl ⟨x, hv, h1⟩⟩, h2⟩
theorem q_ldcs {ix x : Nat} (hd : decode (zB m) pc = .ok (.ldc ix, 2)) (hv : zKx (zO m) ix = some x) (k : qW R m Q (pc + 2) l (.ref (3 + x) :: st) M) : qW R m Q pc l st M := by
  obtain ⟨f, v, M', h1, h2⟩ := k; exact q_of hd ⟨f, v, M', ⟨rfl, Or.inr ⟨x, hv, h1⟩⟩, h2⟩
theorem q_ldc_w {ix : Nat} {x : Int32} (hd : decode (zB m) pc = .ok (.ldc_w ix, 3)) (hv : zKi (zO m) ix = some x) (k : qW R m Q (pc + 3) l (.int x :: st) M) : qW R m Q pc l st M := by
  obtain ⟨f, v, M', h1, h2⟩ := k; exact q_of hd ⟨f, v, M', ⟨rfl, x, hv, h1⟩, h2⟩
theorem q_ldc2_w {ix : Nat} {x : Int64} (hd : decode (zB m) pc = .ok (.ldc2_w ix, 3)) (hv : zKl (zO m) ix = some x) (k : qW R m Q (pc + 3) l (.long x :: st) M) : qW R m Q pc l st M := by
  obtain ⟨f, v, M', h1, h2⟩ := k; exact q_of hd ⟨f, v, M', ⟨rfl, x, hv, h1⟩, h2⟩
theorem q_iload_n {j : Fin 4} {x : Int32} (hd : decode (zB m) pc = .ok (.iload_n j, 1)) (hl : zld l (j : Nat) = some (.int x)) (k : qW R m Q (pc + 1) l (.int x :: st) M) : qW R m Q pc l st M := by
  obtain ⟨f, v, M', h1, h2⟩ := k; exact q_of hd ⟨f, v, M', ⟨rfl, x, hl, h1⟩, h2⟩
theorem q_iload {j : Nat} {x : Int32} (hd : decode (zB m) pc = .ok (.iload j, 2)) (hl : zld l j = some (.int x)) (k : qW R m Q (pc + 2) l (.int x :: st) M) : qW R m Q pc l st M := by
  obtain ⟨f, v, M', h1, h2⟩ := k; exact q_of hd ⟨f, v, M', ⟨rfl, x, hl, h1⟩, h2⟩
theorem q_aload_n {j : Fin 4} {a : Nat} (hd : decode (zB m) pc = .ok (.aload_n j, 1)) (hl : zld l (j : Nat) = some (.ref a)) (k : qW R m Q (pc + 1) l (.ref a :: st) M) : qW R m Q pc l st M := by
  obtain ⟨f, v, M', h1, h2⟩ := k; exact q_of hd ⟨f, v, M', ⟨rfl, some a, hl, h1⟩, h2⟩
theorem q_aload {j a : Nat} (hd : decode (zB m) pc = .ok (.aload j, 2)) (hl : zld l j = some (.ref a)) (k : qW R m Q (pc + 2) l (.ref a :: st) M) : qW R m Q pc l st M := by
  obtain ⟨f, v, M', h1, h2⟩ := k; exact q_of hd ⟨f, v, M', ⟨rfl, some a, hl, h1⟩, h2⟩
theorem q_aload_nR {j : Fin 4} {r : Option Nat} (hd : decode (zB m) pc = .ok (.aload_n j, 1)) (hl : zld l (j : Nat) = some (va_rf r)) (k : qW R m Q (pc + 1) l (va_rf r :: st) M) : qW R m Q pc l st M := by
  obtain ⟨f, v, M', h1, h2⟩ := k; exact q_of hd ⟨f, v, M', ⟨rfl, r, hl, h1⟩, h2⟩
theorem q_istore_n {j : Fin 4} {x : Int32} (hd : decode (zB m) pc = .ok (.istore_n j, 1)) (hj : (j : Nat) < zML m) (hl : zst l (j : Nat) (.int x) = l') (k : qW R m Q (pc + 1) l' st M) : qW R m Q pc l (.int x :: st) M := by
  subst hl; obtain ⟨f, v, M', h1, h2⟩ := k; exact q_of hd ⟨f, v, M', ⟨rfl, hj, x, st, rfl, h1⟩, h2⟩
theorem q_istore {j : Nat} {x : Int32} (hd : decode (zB m) pc = .ok (.istore j, 2)) (hj : j < zML m) (hl : zst l j (.int x) = l') (k : qW R m Q (pc + 2) l' st M) : qW R m Q pc l (.int x :: st) M := by
  subst hl; obtain ⟨f, v, M', h1, h2⟩ := k; exact q_of hd ⟨f, v, M', ⟨rfl, hj, x, st, rfl, h1⟩, h2⟩
theorem q_astore_n {j : Fin 4} {a : Nat} (hd : decode (zB m) pc = .ok (.astore_n j, 1)) (hj : (j : Nat) < zML m) (hl : zst l (j : Nat) (.ref a) = l') (k : qW R m Q (pc + 1) l' st M) : qW R m Q pc l (.ref a :: st) M := by
  subst hl; obtain ⟨f, v, M', h1, h2⟩ := k; exact q_of hd ⟨f, v, M', ⟨rfl, hj, some a, st, rfl, h1⟩, h2⟩
theorem q_astore {j a : Nat} (hd : decode (zB m) pc = .ok (.astore j, 2)) (hj : j < zML m) (hl : zst l j (.ref a) = l') (k : qW R m Q (pc + 2) l' st M) : qW R m Q pc l (.ref a :: st) M := by
  subst hl; obtain ⟨f, v, M', h1, h2⟩ := k; exact q_of hd ⟨f, v, M', ⟨rfl, hj, some a, st, rfl, h1⟩, h2⟩
theorem q_iinc {j : Nat} {z : Int} {x y : Int32} (hd : decode (zB m) pc = .ok (.iinc j z, 3)) (hj : j < zML m) (hx : zld l j = some (.int x)) (hy : x + Int32.ofInt z = y) (hl : zst l j (.int y) = l') (k : qW R m Q (pc + 3) l' st M) : qW R m Q pc l st M := by
  subst hl; subst hy; obtain ⟨f, v, M', h1, h2⟩ := k; exact q_of hd ⟨f, v, M', ⟨rfl, hj, x, hx, h1⟩, h2⟩
theorem q_iadd {x y : Int32} (hd : decode (zB m) pc = .ok (.iadd, 1)) (k : qW R m Q (pc + 1) l (.int (x + y) :: st) M) : qW R m Q pc l (.int y :: .int x :: st) M := by
  obtain ⟨f, v, M', h1, h2⟩ := k; exact q_of hd ⟨f, v, M', ⟨rfl, x, y, st, rfl, h1⟩, h2⟩
theorem q_isub {x y : Int32} (hd : decode (zB m) pc = .ok (.isub, 1)) (k : qW R m Q (pc + 1) l (.int (x - y) :: st) M) : qW R m Q pc l (.int y :: .int x :: st) M := by
  obtain ⟨f, v, M', h1, h2⟩ := k; exact q_of hd ⟨f, v, M', ⟨rfl, x, y, st, rfl, h1⟩, h2⟩
theorem q_imul {x y : Int32} (hd : decode (zB m) pc = .ok (.imul, 1)) (k : qW R m Q (pc + 1) l (.int (x * y) :: st) M) : qW R m Q pc l (.int y :: .int x :: st) M := by
  obtain ⟨f, v, M', h1, h2⟩ := k; exact q_of hd ⟨f, v, M', ⟨rfl, x, y, st, rfl, h1⟩, h2⟩
theorem q_iand {x y : Int32} (hd : decode (zB m) pc = .ok (.iand, 1)) (k : qW R m Q (pc + 1) l (.int (x &&& y) :: st) M) : qW R m Q pc l (.int y :: .int x :: st) M := by
  obtain ⟨f, v, M', h1, h2⟩ := k; exact q_of hd ⟨f, v, M', ⟨rfl, x, y, st, rfl, h1⟩, h2⟩
theorem q_ior {x y : Int32} (hd : decode (zB m) pc = .ok (.ior, 1)) (k : qW R m Q (pc + 1) l (.int (x ||| y) :: st) M) : qW R m Q pc l (.int y :: .int x :: st) M := by
  obtain ⟨f, v, M', h1, h2⟩ := k; exact q_of hd ⟨f, v, M', ⟨rfl, x, y, st, rfl, h1⟩, h2⟩
theorem q_ixor {x y : Int32} (hd : decode (zB m) pc = .ok (.ixor, 1)) (k : qW R m Q (pc + 1) l (.int (x ^^^ y) :: st) M) : qW R m Q pc l (.int y :: .int x :: st) M := by
  obtain ⟨f, v, M', h1, h2⟩ := k; exact q_of hd ⟨f, v, M', ⟨rfl, x, y, st, rfl, h1⟩, h2⟩
theorem q_ishl {x y : Int32} (hd : decode (zB m) pc = .ok (.ishl, 1)) (k : qW R m Q (pc + 1) l (.int (x <<< (y &&& 31)) :: st) M) : qW R m Q pc l (.int y :: .int x :: st) M := by
  obtain ⟨f, v, M', h1, h2⟩ := k; exact q_of hd ⟨f, v, M', ⟨rfl, x, y, st, rfl, h1⟩, h2⟩
theorem q_ishr {x y : Int32} (hd : decode (zB m) pc = .ok (.ishr, 1)) (k : qW R m Q (pc + 1) l (.int (x >>> (y &&& 31)) :: st) M) : qW R m Q pc l (.int y :: .int x :: st) M := by
  obtain ⟨f, v, M', h1, h2⟩ := k; exact q_of hd ⟨f, v, M', ⟨rfl, x, y, st, rfl, h1⟩, h2⟩
theorem q_iushr {x y : Int32} (hd : decode (zB m) pc = .ok (.iushr, 1)) (k : qW R m Q (pc + 1) l (.int (x.toUInt32 >>> (y.toUInt32 &&& Int32.toUInt32 31)).toInt32 :: st) M) : qW R m Q pc l (.int y :: .int x :: st) M := by
  obtain ⟨f, v, M', h1, h2⟩ := k; exact q_of hd ⟨f, v, M', ⟨rfl, x, y, st, rfl, h1⟩, h2⟩
theorem q_idiv {x y : Int32} (hd : decode (zB m) pc = .ok (.idiv, 1)) (hy : ¬ y = 0) (k : qW R m Q (pc + 1) l (.int (x / y) :: st) M) : qW R m Q pc l (.int y :: .int x :: st) M := by
  obtain ⟨f, v, M', h1, h2⟩ := k; exact q_of hd ⟨f, v, M', ⟨rfl, x, y, st, rfl, hy, h1⟩, h2⟩
theorem q_irem {x y : Int32} (hd : decode (zB m) pc = .ok (.irem, 1)) (hy : ¬ y = 0) (k : qW R m Q (pc + 1) l (.int (x - x / y * y) :: st) M) : qW R m Q pc l (.int y :: .int x :: st) M := by
  obtain ⟨f, v, M', h1, h2⟩ := k; exact q_of hd ⟨f, v, M', ⟨rfl, x, y, st, rfl, hy, h1⟩, h2⟩
theorem q_ineg {x : Int32} (hd : decode (zB m) pc = .ok (.ineg, 1)) (k : qW R m Q (pc + 1) l (.int (-x) :: st) M) : qW R m Q pc l (.int x :: st) M := by
  obtain ⟨f, v, M', h1, h2⟩ := k; exact q_of hd ⟨f, v, M', ⟨rfl, x, st, rfl, h1⟩, h2⟩
theorem q_i2b {x : Int32} (hd : decode (zB m) pc = .ok (.i2b, 1)) (k : qW R m Q (pc + 1) l (.int x.toInt8.toInt32 :: st) M) : qW R m Q pc l (.int x :: st) M := by
  obtain ⟨f, v, M', h1, h2⟩ := k; exact q_of hd ⟨f, v, M', ⟨rfl, x, st, rfl, h1⟩, h2⟩
theorem q_ladd {x y : Int64} (hd : decode (zB m) pc = .ok (.ladd, 1)) (k : qW R m Q (pc + 1) l (.long (x + y) :: st) M) : qW R m Q pc l (.long y :: .long x :: st) M := by
  obtain ⟨f, v, M', h1, h2⟩ := k; exact q_of hd ⟨f, v, M', ⟨rfl, x, y, st, rfl, h1⟩, h2⟩
theorem q_lcmp {x y : Int64} (hd : decode (zB m) pc = .ok (.lcmp, 1)) (k : qW R m Q (pc + 1) l (.int (lg_cmp x y) :: st) M) : qW R m Q pc l (.long y :: .long x :: st) M := by
  obtain ⟨f, v, M', h1, h2⟩ := k; exact q_of hd ⟨f, v, M', ⟨rfl, x, y, st, rfl, h1⟩, h2⟩
theorem q_dup {a : Value} (hd : decode (zB m) pc = .ok (.dup, 1)) (ha : a.category = 1) (k : qW R m Q (pc + 1) l (a :: a :: st) M) : qW R m Q pc l (a :: st) M := by
  obtain ⟨f, v, M', h1, h2⟩ := k; exact q_of hd ⟨f, v, M', ⟨rfl, a, st, rfl, ha, h1⟩, h2⟩
theorem q_dup2 {a b : Value} (hd : decode (zB m) pc = .ok (.dup2, 1)) (ha : a.category = 1) (hb : b.category = 1) (k : qW R m Q (pc + 1) l (a :: b :: a :: b :: st) M) : qW R m Q pc l (a :: b :: st) M := by
  obtain ⟨f, v, M', h1, h2⟩ := k; exact q_of hd ⟨f, v, M', ⟨rfl, a, b, st, rfl, ha, hb, h1⟩, h2⟩
theorem q_pop {a : Value} (hd : decode (zB m) pc = .ok (.pop, 1)) (ha : a.category = 1) (k : qW R m Q (pc + 1) l st M) : qW R m Q pc l (a :: st) M := by
  obtain ⟨f, v, M', h1, h2⟩ := k; exact q_of hd ⟨f, v, M', ⟨rfl, a, st, rfl, ha, h1⟩, h2⟩
theorem q_pop2 {a : Value} (hd : decode (zB m) pc = .ok (.pop2, 1)) (ha : a.category = 2) (k : qW R m Q (pc + 1) l st M) : qW R m Q pc l (a :: st) M := by
  obtain ⟨f, v, M', h1, h2⟩ := k; exact q_of hd ⟨f, v, M', ⟨rfl, a, st, rfl, ha, h1⟩, h2⟩
theorem q_goto {off : Int} (tgt : Nat) (hd : decode (zB m) pc = .ok (.goto off, 3)) (ht : (pc : Int) + off = tgt) (k : qW R m Q tgt l st M) : qW R m Q pc l st M := by
  obtain ⟨f, v, M', h1, h2⟩ := k; exact q_of hd ⟨f, v, M', ⟨rfl, tgt, ht, h1⟩, h2⟩
theorem q_if {c : ClassFile.Cond} {off : Int} {x : Int32} (tgt : Nat) (hd : decode (zB m) pc = .ok (.ifCond c off, 3)) (ht : (pc : Int) + off = tgt) (kt : zcc c x 0 → qW R m Q tgt l st M) (kf : ¬ zcc c x 0 → qW R m Q (pc + 3) l st M) : qW R m Q pc l (.int x :: st) M := by
  by_cases h : zcc c x 0
  · obtain ⟨f, v, M', h1, h2⟩ := kt h; exact q_of hd ⟨f, v, M', ⟨rfl, x, st, tgt, rfl, ht, fun _ => h1, fun q => absurd h q⟩, h2⟩
  · obtain ⟨f, v, M', h1, h2⟩ := kf h; exact q_of hd ⟨f, v, M', ⟨rfl, x, st, tgt, rfl, ht, fun q => absurd q h, fun _ => h1⟩, h2⟩
theorem q_icmp {c : ClassFile.Cond} {off : Int} {x y : Int32} (tgt : Nat) (hd : decode (zB m) pc = .ok (.if_icmp c off, 3)) (ht : (pc : Int) + off = tgt) (kt : zcc c x y → qW R m Q tgt l st M) (kf : ¬ zcc c x y → qW R m Q (pc + 3) l st M) : qW R m Q pc l (.int y :: .int x :: st) M := by
  by_cases h : zcc c x y
  · obtain ⟨f, v, M', h1, h2⟩ := kt h; exact q_of hd ⟨f, v, M', ⟨rfl, x, y, st, tgt, rfl, ht, fun _ => h1, fun q => absurd h q⟩, h2⟩
  · obtain ⟨f, v, M', h1, h2⟩ := kf h; exact q_of hd ⟨f, v, M', ⟨rfl, x, y, st, tgt, rfl, ht, fun q => absurd q h, fun _ => h1⟩, h2⟩
theorem q_ifnull {off : Int} {r : Option Nat} (tgt : Nat) (hd : decode (zB m) pc = .ok (.ifnull off, 3)) (ht : (pc : Int) + off = tgt) (kt : r = none → qW R m Q tgt l st M) (kf : ¬ r = none → qW R m Q (pc + 3) l st M) : qW R m Q pc l (va_rf r :: st) M := by
  by_cases h : r = none
  · obtain ⟨f, v, M', h1, h2⟩ := kt h; exact q_of hd ⟨f, v, M', ⟨rfl, r, st, tgt, rfl, ht, fun _ => h1, fun q => absurd h q⟩, h2⟩
  · obtain ⟨f, v, M', h1, h2⟩ := kf h; exact q_of hd ⟨f, v, M', ⟨rfl, r, st, tgt, rfl, ht, fun q => absurd q h, fun _ => h1⟩, h2⟩
theorem q_ifnonnull {off : Int} {r : Option Nat} (tgt : Nat) (hd : decode (zB m) pc = .ok (.ifnonnull off, 3)) (ht : (pc : Int) + off = tgt) (kt : ¬ r = none → qW R m Q tgt l st M) (kf : r = none → qW R m Q (pc + 3) l st M) : qW R m Q pc l (va_rf r :: st) M := by
  by_cases h : r = none
  · obtain ⟨f, v, M', h1, h2⟩ := kf h; exact q_of hd ⟨f, v, M', ⟨rfl, r, st, tgt, rfl, ht, fun _ => h1, fun q => absurd h q⟩, h2⟩
  · obtain ⟨f, v, M', h1, h2⟩ := kt h; exact q_of hd ⟨f, v, M', ⟨rfl, r, st, tgt, rfl, ht, fun q => absurd q h, fun _ => h1⟩, h2⟩
theorem q_tsO {d lo hi : Int} {offs : Array Int} {x : Int32} (tgt : Nat) (hd : decode (zB m) pc = .ok (.tableswitch d lo hi offs, n)) (h : x.toInt < lo ∨ hi < x.toInt) (ht : (pc : Int) + d = tgt) (k : qW R m Q tgt l st M) : qW R m Q pc l (.int x :: st) M := by
  obtain ⟨f, v, M', h1, h2⟩ := k; exact q_of hd ⟨f, v, M', ⟨x, st, rfl, fun _ => ⟨tgt, ht, h1⟩, fun q => absurd h q⟩, h2⟩
theorem q_tsI {d lo hi : Int} {offs : Array Int} {x : Int32} (off : Int) (tgt : Nat) (hd : decode (zB m) pc = .ok (.tableswitch d lo hi offs, n)) (h : ¬ (x.toInt < lo ∨ hi < x.toInt)) (ho : offs[(x.toInt - lo).toNat]? = some off) (ht : (pc : Int) + off = tgt) (k : qW R m Q tgt l st M) : qW R m Q pc l (.int x :: st) M := by
  obtain ⟨f, v, M', h1, h2⟩ := k; exact q_of hd ⟨f, v, M', ⟨x, st, rfl, fun q => absurd q h, fun _ => ⟨off, tgt, ho, ht, h1⟩⟩, h2⟩
/-- fields: ints, references -/
theorem q_geti {ix a c f : Nat} (hd : decode (zB m) pc = .ok (.getfield ix, 3)) (hf : zFld (zO m) ix = some (c, f) ∧ zF c f ≠ 1) (hk : zk M a = (c, 0)) (k : qW R m Q (pc + 3) l (.int (zi M a f) :: st) M) : qW R m Q pc l (.ref a :: st) M := by
  obtain ⟨g, v, M', h1, h2⟩ := k
  exact q_of hd ⟨g, v, M', ⟨rfl, a, st, c, f, rfl, hf.1, hk, by unfold zgv; rw [if_neg hf.2]; exact h1⟩, h2⟩
theorem q_getr {ix a c f : Nat} {r : Option Nat} (hd : decode (zB m) pc = .ok (.getfield ix, 3)) (hf : zFld (zO m) ix = some (c, f) ∧ zF c f = 1) (hk : zk M a = (c, 0)) (hr : zr M a f = r) (k : qW R m Q (pc + 3) l (va_rf r :: st) M) : qW R m Q pc l (.ref a :: st) M := by
  subst hr
  obtain ⟨g, v, M', h1, h2⟩ := k
  exact q_of hd ⟨g, v, M', ⟨rfl, a, st, c, f, rfl, hf.1, hk, by unfold zgv; rw [if_pos hf.2]; exact h1⟩, h2⟩
theorem q_puti {ix a c f : Nat} {x : Int32} (hd : decode (zB m) pc = .ok (.putfield ix, 3)) (hf : zFld (zO m) ix = some (c, f) ∧ zF c f = 0 ∧ (((zCl.getD c ("", zT0, 0)).2.1 f).2.2.2 = true → (zNm m).name = "<init>" ∧ zO m = c)) (hk : zk M a = (c, 0)) (k : qW R m Q (pc + 3) l st (zwi M a f x)) : qW R m Q pc l (.int x :: .ref a :: st) M := by
  obtain ⟨g, v, M', h1, h2⟩ := k
  exact q_of hd ⟨g, v, M', ⟨rfl, .int x, a, st, c, f, rfl, hf.1, hk, hf.2.2, Or.inl ⟨hf.2.1, x, rfl, h1⟩⟩, h2⟩
theorem q_putz {ix a c f : Nat} {x : Int32} (hd : decode (zB m) pc = .ok (.putfield ix, 3)) (hf : zFld (zO m) ix = some (c, f) ∧ zF c f = 2 ∧ (((zCl.getD c ("", zT0, 0)).2.1 f).2.2.2 = true → (zNm m).name = "<init>" ∧ zO m = c)) (hk : zk M a = (c, 0)) (hx : x = 0 ∨ x = 1) (k : qW R m Q (pc + 3) l st (zwi M a f x)) : qW R m Q pc l (.int x :: .ref a :: st) M := by
  obtain ⟨g, v, M', h1, h2⟩ := k
  exact q_of hd ⟨g, v, M', ⟨rfl, .int x, a, st, c, f, rfl, hf.1, hk, hf.2.2, Or.inr (Or.inl ⟨hf.2.1, x, rfl, hx, h1⟩)⟩, h2⟩
theorem q_putr {ix a c f : Nat} {r : Option Nat} (hd : decode (zB m) pc = .ok (.putfield ix, 3)) (hf : zFld (zO m) ix = some (c, f) ∧ zF c f = 1 ∧ (((zCl.getD c ("", zT0, 0)).2.1 f).2.2.2 = true → (zNm m).name = "<init>" ∧ zO m = c)) (hk : zk M a = (c, 0)) (k : qW R m Q (pc + 3) l st (zwr M a f r)) : qW R m Q pc l (va_rf r :: .ref a :: st) M := by
  obtain ⟨g, v, M', h1, h2⟩ := k
  exact q_of hd ⟨g, v, M', ⟨rfl, va_rf r, a, st, c, f, rfl, hf.1, hk, hf.2.2, Or.inr (Or.inr ⟨hf.2.1, r, rfl, h1⟩)⟩, h2⟩
theorem q_getst {ix a : Nat} (hd : decode (zB m) pc = .ok (.getstatic ix, 3)) (hf : zSt (zO m) ix = some a) (k : qW R m Q (pc + 3) l (.ref a :: st) M) : qW R m Q pc l st M := by
  obtain ⟨g, v, M', h1, h2⟩ := k; exact q_of hd ⟨g, v, M', ⟨rfl, a, hf, h1⟩, h2⟩
theorem q_alen {a N : Nat} (hd : decode (zB m) pc = .ok (.arraylength, 1)) (hk : zk M a = (20, N) ∨ zk M a = (21, N) ∨ (a < 3 ∧ zk M a = (30, N))) (k : qW R m Q (pc + 1) l (.int (Int32.ofNat N) :: st) M) : qW R m Q pc l (.ref a :: st) M := by
  obtain ⟨g, v, M', h1, h2⟩ := k; exact q_of hd ⟨g, v, M', ⟨rfl, a, st, N, rfl, hk, h1⟩, h2⟩
theorem q_iald {a N : Nat} {j : Int32} {x : Int32} (hd : decode (zB m) pc = .ok (.iaload, 1)) (hk : zk M a = (20, N) ∨ (a < 3 ∧ zk M a = (30, N))) (hj : vp_in j N) (hx : zi M a j.toNatClampNeg = x) (k : qW R m Q (pc + 1) l (.int x :: st) M) : qW R m Q pc l (.int j :: .ref a :: st) M := by
  subst hx; obtain ⟨g, v, M', h1, h2⟩ := k; exact q_of hd ⟨g, v, M', ⟨rfl, j, a, st, N, rfl, hk, hj, h1⟩, h2⟩
theorem q_lald {a N : Nat} {j : Int32} {x : Int64} (hd : decode (zB m) pc = .ok (.laload, 1)) (hk : zk M a = (21, N)) (hj : vp_in j N) (hx : zl M a j.toNatClampNeg = x) (k : qW R m Q (pc + 1) l (.long x :: st) M) : qW R m Q pc l (.int j :: .ref a :: st) M := by
  subst hx; obtain ⟨g, v, M', h1, h2⟩ := k; exact q_of hd ⟨g, v, M', ⟨rfl, j, a, st, N, rfl, hk, hj, h1⟩, h2⟩
theorem q_aald {a t N : Nat} {j : Int32} {r : Option Nat} (hd : decode (zB m) pc = .ok (.aaload, 1)) (hk : zk M a = (t, N)) (ht : 22 ≤ t ∧ t < 27) (hj : vp_in j N) (hr : zr M a j.toNatClampNeg = r) (k : qW R m Q (pc + 1) l (va_rf r :: st) M) : qW R m Q pc l (.int j :: .ref a :: st) M := by
  subst hr; obtain ⟨g, v, M', h1, h2⟩ := k; exact q_of hd ⟨g, v, M', ⟨rfl, j, a, st, t, N, rfl, hk, ht.1, ht.2, hj, h1⟩, h2⟩
theorem q_iast {a N : Nat} {j x : Int32} (hd : decode (zB m) pc = .ok (.iastore, 1)) (hk : zk M a = (20, N)) (hj : vp_in j N) (k : qW R m Q (pc + 1) l st (zwi M a j.toNatClampNeg x)) : qW R m Q pc l (.int x :: .int j :: .ref a :: st) M := by
  obtain ⟨g, v, M', h1, h2⟩ := k; exact q_of hd ⟨g, v, M', ⟨rfl, x, j, a, st, N, rfl, hk, hj, h1⟩, h2⟩
theorem q_last {a N : Nat} {j : Int32} {x : Int64} (hd : decode (zB m) pc = .ok (.lastore, 1)) (hk : zk M a = (21, N)) (hj : vp_in j N) (k : qW R m Q (pc + 1) l st (zwl M a j.toNatClampNeg x)) : qW R m Q pc l (.long x :: .int j :: .ref a :: st) M := by
  obtain ⟨g, v, M', h1, h2⟩ := k; exact q_of hd ⟨g, v, M', ⟨rfl, x, j, a, st, N, rfl, hk, hj, h1⟩, h2⟩
theorem q_newi {N : Nat} {z : Int32} (hd : decode (zB m) pc = .ok (.newarray .int, 2)) (hz : ¬ z < 0) (hN : z.toNatClampNeg = N) (h6 : N ≤ 65536) (k : qW R m Q (pc + 2) l (.ref (zn M) :: st) (znw M 20 N N)) : qW R m Q pc l (.int z :: st) M := by
  obtain ⟨g, v, M', h1, h2⟩ := k; exact q_of hd ⟨g, v, M', ⟨rfl, z, st, N, rfl, hz, hN, h6, Or.inl ⟨rfl, h1⟩⟩, h2⟩
/-- calls -/
theorem q_static {ix y : Nat} {as : List Value} {w : Option Value} {M1 : zM} (hd : decode (zB m) pc = .ok (.invokestatic ix, 3)) (hc : zCall (zO m) ix = some (1, y) ∨ zCall (zO m) ix = some (4, y)) (hn : as.length = zA y) (hr : R y as M w M1) (h8 : zct st ≤ 8) (k : qW R m Q (pc + 3) l (w.toList ++ st) M1) : qW R m Q pc l (as.reverse ++ st) M := by
  obtain ⟨g, v, M', h1, h2⟩ := k
  rcases hc with hc | hc
  · exact q_of hd ⟨g, v, M', ⟨rfl, 1, y, hc, Or.inl ⟨Or.inl rfl, as, st, rfl, hn, h8, w, M1, hr, h1⟩⟩, h2⟩
  · exact q_of hd ⟨g, v, M', ⟨rfl, 4, y, hc, Or.inl ⟨Or.inr rfl, as, st, rfl, hn, h8, w, M1, hr, h1⟩⟩, h2⟩
theorem q_virt {ix y b : Nat} {as : List Value} {w : Option Value} {M1 : zM} (hd : decode (zB m) pc = .ok (.invokevirtual ix, 3)) (hc : zCall (zO m) ix = some (0, y)) (hn : as.length = zA y) (hk : zk M b = (zO y, 0)) (hr : R y (.ref b :: as) M w M1) (h8 : zct st ≤ 8) (k : qW R m Q (pc + 3) l (w.toList ++ st) M1) : qW R m Q pc l (as.reverse ++ .ref b :: st) M := by
  obtain ⟨g, v, M', h1, h2⟩ := k
  exact q_of hd ⟨g, v, M', ⟨rfl, 0, y, b, as, st, hc, rfl, Or.inl ⟨rfl, hn, hk, h8, w, M1, hr, h1⟩⟩, h2⟩
theorem q_str {ix y b : Nat} {as : List Value} {w : Option Value} {M1 : zM} (hd : decode (zB m) pc = .ok (.invokevirtual ix, 3)) (hc : zCall (zO m) ix = some (8, y) ∨ zCall (zO m) ix = some (9, y)) (hr : R y (.ref b :: as) M w M1) (h8 : zct st ≤ 8) (k : qW R m Q (pc + 3) l (w.toList ++ st) M1) : qW R m Q pc l (as.reverse ++ .ref b :: st) M := by
  obtain ⟨g, v, M', h1, h2⟩ := k
  rcases hc with hc | hc
  · exact q_of hd ⟨g, v, M', ⟨rfl, 8, y, b, as, st, hc, rfl, Or.inr ⟨Or.inl rfl, h8, w, M1, hr, h1⟩⟩, h2⟩
  · exact q_of hd ⟨g, v, M', ⟨rfl, 9, y, b, as, st, hc, rfl, Or.inr ⟨Or.inr rfl, h8, w, M1, hr, h1⟩⟩, h2⟩
theorem q_spec {ix y b : Nat} {as : List Value} {w : Option Value} {M1 : zM} (hd : decode (zB m) pc = .ok (.invokespecial ix, 3)) (hc : zCall (zO m) ix = some (2, y) ∨ zCall (zO m) ix = some (5, y)) (hn : as.length = zA y) (hk : zRk y = 0) (hr : R y (.ref b :: as) M w M1) (h8 : zct st ≤ 8) (k : qW R m Q (pc + 3) l (w.toList ++ st) M1) : qW R m Q pc l (as.reverse ++ .ref b :: st) M := by
  obtain ⟨g, v, M', h1, h2⟩ := k
  rcases hc with hc | hc
  · exact q_of hd ⟨g, v, M', ⟨rfl, 2, y, b, as, st, hc, rfl, Or.inr ⟨Or.inl rfl, hn, hk, h8, w, M1, hr, h1⟩⟩, h2⟩
  · exact q_of hd ⟨g, v, M', ⟨rfl, 5, y, b, as, st, hc, rfl, Or.inr ⟨Or.inr rfl, hn, hk, h8, w, M1, hr, h1⟩⟩, h2⟩
theorem q_copy {ix y a a0 n0 n1 : Nat} {N dp sp : Int32} (hd : decode (zB m) pc = .ok (.invokestatic ix, 3)) (hc : zCall (zO m) ix = some (7, y)) (h0 : zk M a0 = (20, n0)) (h1 : zk M a = (20, n1)) (hsp : ¬ sp < 0) (hdp : ¬ dp < 0) (hN : ¬ N < 0) (e0 : sp.toNatClampNeg + N.toNatClampNeg ≤ n0) (e1 : dp.toNatClampNeg + N.toNatClampNeg ≤ n1) (h8 : zct st ≤ 8)
    (k : qW R m Q (pc + 3) l st (zcp M a0 sp.toNatClampNeg a dp.toNatClampNeg N.toNatClampNeg)) : qW R m Q pc l (.int N :: .int dp :: .ref a :: .int sp :: .ref a0 :: st) M := by
  obtain ⟨g, v, M', g1, g2⟩ := k
  exact q_of hd ⟨g, v, M', ⟨rfl, 7, y, hc, Or.inr (Or.inl ⟨rfl, N, dp, sp, a, a0, st, n0, n1, rfl, h0, h1, hsp, hdp, hN, e0, e1, h8, g1⟩)⟩, g2⟩
theorem q_max {ix y : Nat} {a b : Int32} (hd : decode (zB m) pc = .ok (.invokestatic ix, 3)) (hc : zCall (zO m) ix = some (10, y)) (h8 : zct st ≤ 8) (k : qW R m Q (pc + 3) l (.int (if a < b then b else a) :: st) M) : qW R m Q pc l (.int b :: .int a :: st) M := by
  obtain ⟨g, v, M', g1, g2⟩ := k
  exact q_of hd ⟨g, v, M', ⟨rfl, 10, y, hc, Or.inr (Or.inr (Or.inl ⟨rfl, a, b, st, rfl, h8, g1⟩))⟩, g2⟩
theorem q_min {ix y : Nat} {a b : Int32} (hd : decode (zB m) pc = .ok (.invokestatic ix, 3)) (hc : zCall (zO m) ix = some (11, y)) (h8 : zct st ≤ 8) (k : qW R m Q (pc + 3) l (.int (if b < a then b else a) :: st) M) : qW R m Q pc l (.int b :: .int a :: st) M := by
  obtain ⟨g, v, M', g1, g2⟩ := k
  exact q_of hd ⟨g, v, M', ⟨rfl, 11, y, hc, Or.inr (Or.inr (Or.inr ⟨rfl, a, b, st, rfl, h8, g1⟩))⟩, g2⟩
theorem q_iret {x : Int32} (hd : decode (zB m) pc = .ok (.ireturn, 1)) (hk : zRk m = 1) (h : Q (some (.int x)) M) : qW R m Q pc l [.int x] M := q_of hd ⟨0, _, M, ⟨rfl, x, rfl, Or.inl hk, rfl, rfl⟩, h⟩
theorem q_zret {x : Int32} (hd : decode (zB m) pc = .ok (.ireturn, 1)) (hk : zRk m = 2) (hx : x = 0 ∨ x = 1) (h : Q (some (.int x)) M) : qW R m Q pc l [.int x] M := q_of hd ⟨0, _, M, ⟨rfl, x, rfl, Or.inr ⟨hk, hx⟩, rfl, rfl⟩, h⟩
theorem q_lret {x : Int64} (hd : decode (zB m) pc = .ok (.lreturn, 1)) (hk : zRk m = 3) (h : Q (some (.long x)) M) : qW R m Q pc l [.long x] M := q_of hd ⟨0, _, M, ⟨rfl, x, rfl, hk, rfl, rfl⟩, h⟩
theorem q_aret {r : Option Nat} (hd : decode (zB m) pc = .ok (.areturn, 1)) (hk : zRk m = 4) (h : Q (some (va_rf r)) M) : qW R m Q pc l [va_rf r] M := q_of hd ⟨0, _, M, ⟨rfl, r, rfl, hk, rfl, rfl⟩, h⟩
theorem q_ret (hd : decode (zB m) pc = .ok (.return_, 1)) (hk : zRk m = 0) (h : Q none M) : qW R m Q pc l [] M := q_of hd ⟨0, _, M, ⟨rfl, rfl, hk, rfl, rfl⟩, h⟩
end QR
/-- a method's run out of the walk of its body -/
theorem qC_of {d y : Nat} {as : List Value} {M : zM} {Q : Option Value → zM → Prop} (hy : y < 216) (hc : zct as ≤ zML y) (h : qW (zEv d) y Q 0 (lv_args 0 as) [] M) : qC (d + 1) y as M Q := by
  obtain ⟨f, v, M', h1, h2⟩ := h
  exact ⟨v, M', Or.inr (Or.inr ⟨hy, hc, f, h1⟩), h2⟩
/-- deeper is no harm -/
theorem zLoop_up {R R' : zRT} (hR : ∀ y as M v M', R y as M v M' → R' y as M v M') {m : Nat} {v : Option Value} {M' : zM} : ∀ (f pc : Nat) (l : List (Nat × Value)) (st : List Value) (M : zM), zLoop R m v M' f pc l st M → zLoop R' m v M' f pc l st M := by
  intro f
  induction f with
  | zero => intro _ _ _ _ h; exact h.elim
  | succ f ih =>
    intro pc l st M h
    obtain ⟨i, n, hd, h⟩ := h
    refine ⟨i, n, hd, ?_⟩
    have hcs : ∀ y as rest pc l, zCallS R (zLoop R m v M' f) pc l M y as rest → zCallS R' (zLoop R' m v M' f) pc l M y as rest := by
      intro y as rest pc l ⟨h8, w, M1, h1, h2⟩
      exact ⟨h8, w, M1, hR _ _ _ _ _ h1, ih _ _ _ _ h2⟩
    have hbr : ∀ (p A B A' B' : Prop), (A → A') → (B → B') → zbr p A B → zbr p A' B' := fun p A B A' B' hA hB h => ⟨fun q => hA (h.1 q), fun q => hB (h.2 q)⟩
    cases i with
    | ldc ix =>
      obtain ⟨e, h⟩ := h
      rcases h with ⟨x, h1, h⟩ | ⟨x, h1, h⟩
      · exact ⟨e, Or.inl ⟨x, h1, ih _ _ _ _ h⟩⟩
      · exact ⟨e, Or.inr ⟨x, h1, ih _ _ _ _ h⟩⟩
    | ifCond c off => obtain ⟨e, x, st', tgt, e1, e2, h⟩ := h; exact ⟨e, x, st', tgt, e1, e2, hbr _ _ _ _ _ (ih _ _ _ _) (ih _ _ _ _) h⟩
    | if_icmp c off => obtain ⟨e, x, y, st', tgt, e1, e2, h⟩ := h; exact ⟨e, x, y, st', tgt, e1, e2, hbr _ _ _ _ _ (ih _ _ _ _) (ih _ _ _ _) h⟩
    | ifnull off => obtain ⟨e, r, st', tgt, e1, e2, h⟩ := h; exact ⟨e, r, st', tgt, e1, e2, hbr _ _ _ _ _ (ih _ _ _ _) (ih _ _ _ _) h⟩
    | ifnonnull off => obtain ⟨e, r, st', tgt, e1, e2, h⟩ := h; exact ⟨e, r, st', tgt, e1, e2, hbr _ _ _ _ _ (ih _ _ _ _) (ih _ _ _ _) h⟩
    | tableswitch d lo hi offs =>
      obtain ⟨x, st', e, h⟩ := h
      exact ⟨x, st', e, hbr _ _ _ _ _ (fun ⟨t, e, h⟩ => ⟨t, e, ih _ _ _ _ h⟩) (fun ⟨o, t, e1, e2, h⟩ => ⟨o, t, e1, e2, ih _ _ _ _ h⟩) h⟩
    | putfield ix =>
      obtain ⟨e, w, a, st', c, f', e1, e2, e3, e4, h⟩ := h
      refine ⟨e, w, a, st', c, f', e1, e2, e3, e4, ?_⟩
      rcases h with ⟨e5, x, e6, h⟩ | ⟨e5, x, e6, e7, h⟩ | ⟨e5, x, e6, h⟩
      · exact Or.inl ⟨e5, x, e6, ih _ _ _ _ h⟩
      · exact Or.inr (Or.inl ⟨e5, x, e6, e7, ih _ _ _ _ h⟩)
      · exact Or.inr (Or.inr ⟨e5, x, e6, ih _ _ _ _ h⟩)
    | newarray t =>
      obtain ⟨e, z, st', N, e1, e2, e3, e4, h⟩ := h
      refine ⟨e, z, st', N, e1, e2, e3, e4, ?_⟩
      rcases h with ⟨e5, h⟩ | ⟨e5, h⟩
      · exact Or.inl ⟨e5, ih _ _ _ _ h⟩
      · exact Or.inr ⟨e5, ih _ _ _ _ h⟩
    | multianewarray ix d =>
      obtain ⟨e, z, j, st', N, J, e1, e2, e3, e4, e5, e6, h⟩ := h
      refine ⟨e, z, j, st', N, J, e1, e2, e3, e4, e5, e6, ?_⟩
      rcases h with ⟨g1, g2, g3, h⟩ | ⟨g1, g2, y, K, g3, g4, g5, g6, h⟩
      · exact Or.inl ⟨g1, g2, g3, ih _ _ _ _ h⟩
      · exact Or.inr ⟨g1, g2, y, K, g3, g4, g5, g6, ih _ _ _ _ h⟩
    | invokevirtual ix =>
      obtain ⟨e, kd, y, b, as, rest, e1, e2, h⟩ := h
      refine ⟨e, kd, y, b, as, rest, e1, e2, ?_⟩
      rcases h with ⟨g1, g2, g3, h⟩ | ⟨g1, h⟩
      · exact Or.inl ⟨g1, g2, g3, hcs _ _ _ _ _ h⟩
      · exact Or.inr ⟨g1, hcs _ _ _ _ _ h⟩
    | invokestatic ix =>
      obtain ⟨e, kd, y, e1, h⟩ := h
      refine ⟨e, kd, y, e1, ?_⟩
      rcases h with ⟨g1, as, rest, g2, g3, h⟩ | ⟨g1, N, dp, sp, a, a0, rest, n0, n1, g2, g3, g4, g5, g6, g7, g8, g9, ga, h⟩ | ⟨g1, a, b, rest, g2, g3, h⟩ | ⟨g1, a, b, rest, g2, g3, h⟩
      · exact Or.inl ⟨g1, as, rest, g2, g3, hcs _ _ _ _ _ h⟩
      · exact Or.inr (Or.inl ⟨g1, N, dp, sp, a, a0, rest, n0, n1, g2, g3, g4, g5, g6, g7, g8, g9, ga, ih _ _ _ _ h⟩)
      · exact Or.inr (Or.inr (Or.inl ⟨g1, a, b, rest, g2, g3, ih _ _ _ _ h⟩))
      · exact Or.inr (Or.inr (Or.inr ⟨g1, a, b, rest, g2, g3, ih _ _ _ _ h⟩))
    | invokespecial ix =>
      obtain ⟨e, kd, y, b, as, rest, e1, e2, h⟩ := h
      refine ⟨e, kd, y, b, as, rest, e1, e2, ?_⟩
      rcases h with ⟨g1, g2, g3, h⟩ | ⟨g1, g2, g3, h⟩
      · exact Or.inl ⟨g1, g2, g3, ih _ _ _ _ h⟩
      · exact Or.inr ⟨g1, g2, g3, hcs _ _ _ _ _ h⟩
    | ireturn => exact h
    | lreturn => exact h
    | areturn => exact h
    | return_ => exact h
    | _ => first
      | exact h.elim
      | (obtain ⟨e1, h⟩ := h; exact ⟨e1, ih _ _ _ _ h⟩)
      | (obtain ⟨e1, e2, h⟩ := h; exact ⟨e1, e2, ih _ _ _ _ h⟩)
      | (obtain ⟨e1, e2, e3, h⟩ := h; exact ⟨e1, e2, e3, ih _ _ _ _ h⟩)
      | (obtain ⟨e1, e2, e3, e4, h⟩ := h; exact ⟨e1, e2, e3, e4, ih _ _ _ _ h⟩)
      | (obtain ⟨e1, e2, e3, e4, e5, h⟩ := h; exact ⟨e1, e2, e3, e4, e5, ih _ _ _ _ h⟩)
      | (obtain ⟨e1, e2, e3, e4, e5, e6, h⟩ := h; exact ⟨e1, e2, e3, e4, e5, e6, ih _ _ _ _ h⟩)
      | (obtain ⟨e1, e2, e3, e4, e5, e6, e7, h⟩ := h; exact ⟨e1, e2, e3, e4, e5, e6, e7, ih _ _ _ _ h⟩)
      | (obtain ⟨e1, e2, e3, e4, e5, e6, e7, e8, h⟩ := h; exact ⟨e1, e2, e3, e4, e5, e6, e7, e8, ih _ _ _ _ h⟩)
      | (obtain ⟨e1, e2, e3, e4, e5, e6, e7, e8, e9, h⟩ := h; exact ⟨e1, e2, e3, e4, e5, e6, e7, e8, e9, ih _ _ _ _ h⟩)
      | (obtain ⟨e1, e2, e3, e4, e5, e6, e7, e8, e9, ea, h⟩ := h; exact ⟨e1, e2, e3, e4, e5, e6, e7, e8, e9, ea, ih _ _ _ _ h⟩)
      | (obtain ⟨e1, e2, e3, e4, e5, e6, e7, e8, e9, ea, eb, h⟩ := h; exact ⟨e1, e2, e3, e4, e5, e6, e7, e8, e9, ea, eb, ih _ _ _ _ h⟩)
      | (obtain ⟨e1, e2, e3, e4, e5, e6, e7, e8, e9, ea, eb, ec, h⟩ := h; exact ⟨e1, e2, e3, e4, e5, e6, e7, e8, e9, ea, eb, ec, ih _ _ _ _ h⟩)
theorem zEv_S : ∀ (d y : Nat) (as : List Value) (M : zM) (v : Option Value) (M' : zM), zEv d y as M v M' → zEv (d + 1) y as M v M' := by
  intro d
  induction d with
  | zero => intro _ _ _ _ _ h; exact h.elim
  | succ d ih =>
    intro y as M v M' h
    rcases h with ⟨e1, e2, h⟩ | ⟨e1, e2, h⟩ | ⟨e1, e2, f, h⟩
    · exact Or.inl ⟨e1, by omega, h⟩
    · exact Or.inr (Or.inl ⟨e1, by omega, h⟩)
    · exact Or.inr (Or.inr ⟨e1, e2, f, zLoop_up ih _ _ _ _ _ h⟩)
theorem zEv_up {d d' y : Nat} {as : List Value} {M : zM} {v : Option Value} {M' : zM} (h : zEv d y as M v M') (hd : d ≤ d') : zEv d' y as M v M' := by
  obtain ⟨k, rfl⟩ := Nat.exists_eq_add_of_le hd
  induction k with
  | zero => exact h
  | succ k ih => exact zEv_S _ _ _ _ _ _ (ih (by omega))
