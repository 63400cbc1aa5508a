/-! ===== a run of the small machine by boxes: script ints known by their bounds, all else known; what the kernel computes ===== -/
abbrev syV : Type := Int ⊕ (Nat ⊕ (Option Nat ⊕ Int))
abbrev syI : Type := Int ⊕ Nat
abbrev syB : Type := List (Nat × Int × Int)
abbrev syL : Type := List (Nat × syV)
abbrev syF : Type := Nat × Nat × syL × List syV
abbrev syMI : Type := List ((Nat × Nat × syI) ⊕ (Nat × Nat × Nat × Nat × Nat))
abbrev syMR : Type := List ((Nat × Nat × Option Nat) ⊕ ((Nat × Nat) ⊕ (Nat × Nat × Nat)))
abbrev syMK : Type := List ((Nat × Nat × Nat) ⊕ ((Nat × Nat × Nat × Nat) ⊕ (Nat × Nat × Nat × Nat)))
abbrev syM : Type := syMI × syMR × syMK × Nat × Nat
abbrev syC : Type := Nat × syB × syF × List syF × syM
abbrev syR : Type := syC ⊕ ((Nat × Int) ⊕ Bool)
abbrev syO : Type := Instr × Nat × List Nat
def syvi : syI → syV
  | .inl z => .inl z
  | .inr j => .inr (.inl j)
/-- what the names mean -/
def syE (xs : Nat → Int32) (j : Nat) : Int32 := if j = 7 then xs 0 &&& 31 else xs j
def syi (xs : Nat → Int32) : syI → Int32
  | .inl z => Int32.ofInt z
  | .inr j => syE xs j
def syv (xs : Nat → Int32) : syV → Value
  | .inl z => .int (Int32.ofInt z)
  | .inr (.inl j) => .int (syE xs j)
  | .inr (.inr (.inl r)) => va_rf r
  | .inr (.inr (.inr q)) => .long (Int64.ofInt q)
def syl (xs : Nat → Int32) (l : syL) : List (Nat × Value) := l.map fun q => (q.1, syv xs q.2)
def sys (xs : Nat → Int32) (st : List syV) : List Value := st.map (syv xs)
def syFI (xs : Nat → Int32) : syMI → Nat → Nat → Int32
  | [] => fun a j => if a = 0 then xs j else if a = 1 then zUn j else if a = 2 then zAo j else 0
  | .inl q :: t => zup (syFI xs t) q.1 q.2.1 (syi xs q.2.2)
  | .inr q :: t => fun b j => if b = q.2.2.1 ∧ q.2.2.2.1 ≤ j ∧ j < q.2.2.2.1 + q.2.2.2.2 then syFI xs t q.1 (q.2.1 + (j - q.2.2.2.1)) else syFI xs t b j
def syFR : syMR → Nat → Nat → Option Nat
  | [] => fun _ _ => none
  | .inl q :: t => zup (syFR t) q.1 q.2.1 q.2.2
  | .inr (.inl q) :: t => fun a i => if a = q.1 ∧ i < q.2 then some (q.1 + 1 + i) else syFR t a i
  | .inr (.inr q) :: t => fun a i => if a = q.1 ∧ i < q.2.1 then some (q.1 + 1 + i * (1 + q.2.2)) else if q.1 < a ∧ a ≤ q.1 + q.2.1 * (1 + q.2.2) ∧ (a - q.1 - 1) % (1 + q.2.2) = 0 ∧ i < q.2.2 then some (a + 1 + i) else syFR t a i
def syFK (L : Nat) : syMK → Nat → Nat × Nat
  | [] => fun a => if a = 0 then (30, L) else if a = 1 ∨ a = 2 then (30, 6) else if a < 16 then (98, 0) else (99, 0)
  | .inl q :: t => fun a => if a = q.1 then q.2 else syFK L t a
  | .inr (.inl q) :: t => fun a => if a = q.1 then (q.2.1, q.2.2.1) else if q.1 < a ∧ a ≤ q.1 + q.2.2.1 then (20, q.2.2.2) else syFK L t a
  | .inr (.inr q) :: t => fun a => if a = q.1 then (26, q.2.1) else if q.1 < a ∧ a ≤ q.1 + q.2.1 * (1 + q.2.2.1) then (if (a - q.1 - 1) % (1 + q.2.2.1) = 0 then (25, q.2.2.1) else (20, q.2.2.2)) else syFK L t a
def syA (L : Nat) (xs : Nat → Int32) (M : syM) : zM := (syFI xs M.1, syFR M.2.1, (fun _ _ => 0), syFK L M.2.2.1, M.2.2.2.1, M.2.2.2.2)
/-! looked up -/
def syBg : syB → Nat → Int × Int
  | [], _ => (-2147483648, 2147483647)
  | q :: t, j => cond (Nat.beq q.1 j) q.2 (syBg t j)
def syGI : syMI → Nat → Nat → Option syI
  | [], a, k => cond (Nat.blt a 3) (cond (Nat.beq a 0) (cond (Nat.blt k 7) (some (.inr k)) none) none) (some (.inl 0))
  | .inl q :: t, a, k => cond (Nat.beq a q.1) (cond (Nat.beq k q.2.1) (some q.2.2) (syGI t a k)) (syGI t a k)
  | .inr q :: t, a, k => cond (Nat.beq a q.2.2.1) (cond (Nat.ble q.2.2.2.1 k) (cond (Nat.blt k (q.2.2.2.1 + q.2.2.2.2)) (syGI t q.1 (q.2.1 + (k - q.2.2.2.1))) (syGI t a k)) (syGI t a k)) (syGI t a k)
def syGR : syMR → Nat → Nat → Option Nat
  | [], _, _ => none
  | .inl q :: t, a, k => cond (Nat.beq a q.1) (cond (Nat.beq k q.2.1) q.2.2 (syGR t a k)) (syGR t a k)
  | .inr (.inl q) :: t, a, k => cond (Nat.beq a q.1) (cond (Nat.blt k q.2) (some (q.1 + 1 + k)) (syGR t a k)) (syGR t a k)
  | .inr (.inr q) :: t, a, k => cond (Nat.beq a q.1) (cond (Nat.blt k q.2.1) (some (q.1 + 1 + k * (1 + q.2.2))) (syGR t a k))
      (cond (Nat.blt q.1 a && Nat.ble a (q.1 + q.2.1 * (1 + q.2.2)) && Nat.beq ((a - q.1 - 1) % (1 + q.2.2)) 0 && Nat.blt k q.2.2) (some (a + 1 + k)) (syGR t a k))
def syGK (L : Nat) : syMK → Nat → Nat × Nat
  | [], a => cond (Nat.beq a 0) (30, L) (cond (Nat.blt a 3) (30, 6) (cond (Nat.blt a 16) (98, 0) (99, 0)))
  | .inl q :: t, a => cond (Nat.beq a q.1) q.2 (syGK L t a)
  | .inr (.inl q) :: t, a => cond (Nat.beq a q.1) (q.2.1, q.2.2.1) (cond (Nat.blt q.1 a && Nat.ble a (q.1 + q.2.2.1)) (20, q.2.2.2) (syGK L t a))
  | .inr (.inr q) :: t, a => cond (Nat.beq a q.1) (26, q.2.1) (cond (Nat.blt q.1 a && Nat.ble a (q.1 + q.2.1 * (1 + q.2.2.1))) (cond (Nat.beq ((a - q.1 - 1) % (1 + q.2.2.1)) 0) (25, q.2.2.1) (20, q.2.2.2)) (syGK L t a))
def sycat : syV → Nat
  | .inr (.inr (.inr _)) => 2
  | _ => 1
def syct (st : List syV) : Nat := (st.map sycat).sum
def syld : syL → Nat → Option syV
  | [], _ => none
  | q :: t, i => cond (Nat.beq q.1 i) (some q.2) (syld t i)
def syst (l : syL) (i : Nat) (v : syV) : syL := (i, v) :: l.filter (fun q => !(q.1 == i) && !(q.1 + 1 == i && sycat q.2 == 2))
def syarg : Nat → List syV → syL
  | _, [] => []
  | i, v :: vs => (i, v) :: syarg (if sycat v = 2 then i + 2 else i + 1) vs
def syisI : syV → Bool
  | .inl _ => true
  | .inr (.inl _) => true
  | _ => false
def syno : syR := .inr (.inr false)
def syok (b : Bool) (r : syR) : syR := cond b r syno
def syZ (z : Int) : Bool := decide (-2147483648 ≤ z) && decide (z < 2147483648)
def syint (bx : syB) (v : syV) (k : Int → syR) : syR := match v with
  | .inl z => syok (syZ z) (k z)
  | .inr (.inl j) => cond (decide ((syBg bx j).1 = (syBg bx j).2)) (syok (syZ (syBg bx j).1) (k (syBg bx j).1)) (.inr (.inl (j, (syBg bx j).1)))
  | _ => syno
def syref (v : syV) (k : Nat → syR) : syR := match v with
  | .inr (.inr (.inl (some a))) => k a
  | _ => syno
def syrg (bx : syB) (v : syV) : Int × Int := match v with
  | .inl z => (z, z)
  | .inr (.inl j) => syBg bx j
  | _ => (0, 0)
/-- what bounds tell of a comparison -/
def sycmp (c : ClassFile.Cond) (p q : Int × Int) : Option Bool := match c with
  | .lt => cond (decide (p.2 < q.1)) (some true) (cond (decide (q.2 ≤ p.1)) (some false) none)
  | .ge => cond (decide (p.2 < q.1)) (some false) (cond (decide (q.2 ≤ p.1)) (some true) none)
  | .gt => cond (decide (q.2 < p.1)) (some true) (cond (decide (p.2 ≤ q.1)) (some false) none)
  | .le => cond (decide (q.2 < p.1)) (some false) (cond (decide (p.2 ≤ q.1)) (some true) none)
  | .eq => cond (decide (p.2 < q.1) || decide (q.2 < p.1)) (some false) (cond (decide (p.1 = p.2) && decide (q.1 = q.2) && decide (p.1 = q.1)) (some true) none)
  | .ne => cond (decide (p.2 < q.1) || decide (q.2 < p.1)) (some true) (cond (decide (p.1 = p.2) && decide (q.1 = q.2) && decide (p.1 = q.1)) (some false) none)
def syrfl (c : ClassFile.Cond) : Bool := match c with
  | .eq => true
  | .ge => true
  | .le => true
  | _ => false
/-- where a comparison of a name with a number cuts its bounds -/
def sycut (c : ClassFile.Cond) (x y : syV) (p q : Int × Int) : Nat × Int := match x, y with
  | .inr (.inl j), .inl k => (j, match c with
    | .lt => k - 1
    | .ge => k - 1
    | .gt => k
    | .le => k
    | _ => cond (decide (p.1 < k)) (k - 1) k)
  | .inl k, .inr (.inl j) => (j, match c with
    | .gt => k - 1
    | .le => k - 1
    | .lt => k
    | .ge => k
    | _ => cond (decide (q.1 < k)) (k - 1) k)
  | .inr (.inl j), _ => (j, p.1)
  | _, _ => (99, 0)
def syjI (x y : syV) : Bool := match x, y with
  | .inr (.inl i), .inr (.inl j) => Nat.beq i j
  | _, _ => false
def syif (bx : syB) (c : ClassFile.Cond) (x y : syV) (t f : syR) : syR :=
  cond (syjI x y) (cond (syrfl c) t f) (syok (syisI x && syisI y) (match sycmp c (syrg bx x) (syrg bx y) with
    | some b => cond b t f
    | none => .inr (.inl (sycut c x y (syrg bx x) (syrg bx y)))))
/-! one instruction -/
def syret (v : List syV) : syC → syR
  | (d, bx, _, (m, pc, l, st) :: rest, M) => .inl (d + 1, bx, (m, pc, l, v ++ st), rest, M)
  | _ => syno
def sygo (n : Nat) (f : List syV → Option (List syV)) : syC → syR
  | (d, bx, (m, pc, l, st), rest, M) => match f st with
    | some st' => .inl (d, bx, (m, pc + n, l, st'), rest, M)
    | none => syno
def sypush (n : Nat) (v : syV) : syC → syR
  | (d, bx, (m, pc, l, st), rest, M) => .inl (d, bx, (m, pc + n, l, v :: st), rest, M)
def sy_ild (i n : Nat) : syC → syR
  | (d, bx, (m, pc, l, st), rest, M) => match syld l i with
    | some v => syok (syisI v) (.inl (d, bx, (m, pc + n, l, v :: st), rest, M))
    | none => syno
def syisR : syV → Bool
  | .inr (.inr (.inl _)) => true
  | _ => false
def sy_ald (i n : Nat) : syC → syR
  | (d, bx, (m, pc, l, st), rest, M) => match syld l i with
    | some v => syok (syisR v) (.inl (d, bx, (m, pc + n, l, v :: st), rest, M))
    | none => syno
def sy_ist (i n : Nat) : syC → syR
  | (d, bx, (m, pc, l, v :: st), rest, M) => syok (syisI v) (.inl (d, bx, (m, pc + n, syst l i v, st), rest, M))
  | _ => syno
def sy_ast (i n : Nat) : syC → syR
  | (d, bx, (m, pc, l, v :: st), rest, M) => syok (syisR v) (.inl (d, bx, (m, pc + n, syst l i v, st), rest, M))
  | _ => syno
def sy_iinc (i : Nat) (z : Int) : syC → syR
  | (d, bx, (m, pc, l, st), rest, M) => match syld l i with
    | some v => syint bx v fun x => .inl (d, bx, (m, pc + 3, syst l i (.inl (x + z)), st), rest, M)
    | none => syno
def sy_b2 (f : Int → Int → Int) : syC → syR
  | (d, bx, (m, pc, l, y :: x :: st), rest, M) => syint bx x fun x => syint bx y fun y => .inl (d, bx, (m, pc + 1, l, .inl (f x y) :: st), rest, M)
  | _ => syno
def sy_add : syC → syR
  | (d, bx, (m, pc, l, y :: .inl 0 :: st), rest, M) => syok (syisI y) (.inl (d, bx, (m, pc + 1, l, y :: st), rest, M))
  | c => sy_b2 (fun x y => x + y) c
def sy_and : syC → syR
  | (d, bx, (m, pc, l, .inl 31 :: .inr (.inl 0) :: st), rest, M) => .inl (d, bx, (m, pc + 1, l, .inr (.inl 7) :: st), rest, M)
  | c => sy_b2 (fun x y => (Int32.ofInt x &&& Int32.ofInt y).toInt) c
def sy_dr (f : Int32 → Int32 → Int32) : syC → syR
  | (d, bx, (m, pc, l, y :: x :: st), rest, M) => syint bx x fun x => syint bx y fun y => syok (!(decide (Int32.ofInt y = 0))) (.inl (d, bx, (m, pc + 1, l, .inl (f (Int32.ofInt x) (Int32.ofInt y)).toInt :: st), rest, M))
  | _ => syno
def sy_neg : syC → syR
  | (d, bx, (m, pc, l, x :: st), rest, M) => syint bx x fun x => .inl (d, bx, (m, pc + 1, l, .inl (-x) :: st), rest, M)
  | _ => syno
def sy_lcmp : syC → syR
  | (d, bx, (m, pc, l, .inr (.inr (.inr y)) :: .inr (.inr (.inr x)) :: st), rest, M) => .inl (d, bx, (m, pc + 1, l, .inl (lg_cmp (Int64.ofInt x) (Int64.ofInt y)).toInt :: st), rest, M)
  | _ => syno
def sy_dup : syC → syR
  | (d, bx, (m, pc, l, x :: st), rest, M) => syok (Nat.beq (sycat x) 1) (.inl (d, bx, (m, pc + 1, l, x :: x :: st), rest, M))
  | _ => syno
def sy_dup2 : syC → syR
  | (d, bx, (m, pc, l, x :: y :: st), rest, M) => syok (Nat.beq (sycat x) 1 && Nat.beq (sycat y) 1) (.inl (d, bx, (m, pc + 1, l, x :: y :: x :: y :: st), rest, M))
  | _ => syno
def sy_pop : syC → syR
  | (d, bx, (m, pc, l, x :: st), rest, M) => syok (Nat.beq (sycat x) 1) (.inl (d, bx, (m, pc + 1, l, st), rest, M))
  | _ => syno
def sy_goto (r : List Nat) : syC → syR
  | (d, bx, (m, _, l, st), rest, M) => .inl (d, bx, (m, r.getD 0 0, l, st), rest, M)
def sy_if (c : ClassFile.Cond) (r : List Nat) : syC → syR
  | (d, bx, (m, pc, l, x :: st), rest, M) => syif bx c x (.inl 0) (.inl (d, bx, (m, r.getD 0 0, l, st), rest, M)) (.inl (d, bx, (m, pc + 3, l, st), rest, M))
  | _ => syno
def sy_icmp (c : ClassFile.Cond) (r : List Nat) : syC → syR
  | (d, bx, (m, pc, l, y :: x :: st), rest, M) => syif bx c x y (.inl (d, bx, (m, r.getD 0 0, l, st), rest, M)) (.inl (d, bx, (m, pc + 3, l, st), rest, M))
  | _ => syno
def sy_null (b : Bool) (r : List Nat) : syC → syR
  | (d, bx, (m, pc, l, .inr (.inr (.inl q)) :: st), rest, M) => cond (Bool.xor q.isNone b) (.inl (d, bx, (m, r.getD 0 0, l, st), rest, M)) (.inl (d, bx, (m, pc + 3, l, st), rest, M))
  | _ => syno
def sy_ts (lo hi : Int) (r : List Nat) : syC → syR
  | (d, bx, (m, _, l, x :: st), rest, M) => syok (syisI x) (cond (decide ((syrg bx x).2 < lo) || decide (hi < (syrg bx x).1)) (syok (syZ (syrg bx x).1 && syZ (syrg bx x).2) (.inl (d, bx, (m, r.getD 0 0, l, st), rest, M)))
      (cond (decide (lo ≤ (syrg bx x).1) && decide ((syrg bx x).2 ≤ hi)) (syint bx x fun z => .inl (d, bx, (m, r.getD ((z - lo).toNat + 1) 0, l, st), rest, M))
        (match x with
          | .inr (.inl j) => .inr (.inl (j, cond (decide ((syrg bx x).1 < lo)) (lo - 1) hi))
          | _ => syno)))
  | _ => syno
def sykq (p : Nat × Nat) (t n : Nat) : Bool := Nat.beq p.1 t && Nat.beq p.2 n
def sy_getf (L : Nat) (r : List Nat) : syC → syR
  | (d, bx, (m, pc, l, o :: st), rest, M) => syref o fun a => syok (sykq (syGK L M.2.2.1 a) (r.getD 0 0) 0) (cond (Nat.beq (r.getD 2 0) 1) (.inl (d, bx, (m, pc + 3, l, .inr (.inr (.inl (syGR M.2.1 a (r.getD 1 0)))) :: st), rest, M))
      (match syGI M.1 a (r.getD 1 0) with
        | some v => .inl (d, bx, (m, pc + 3, l, syvi v :: st), rest, M)
        | none => syno))
  | _ => syno
def syvI (v : syV) (k : syI → syR) : syR := match v with
  | .inl z => k (.inl z)
  | .inr (.inl j) => k (.inr j)
  | _ => syno
def sybit (v : syV) : Bool := match v with
  | .inl z => decide (z = 0) || decide (z = 1)
  | _ => false
def sy_putf (L : Nat) (r : List Nat) : syC → syR
  | (d, bx, (m, pc, l, v :: o :: st), rest, M) => syref o fun a => syok (sykq (syGK L M.2.2.1 a) (r.getD 0 0) 0) (cond (Nat.beq (r.getD 2 0) 1)
      (match v with
        | .inr (.inr (.inl q)) => .inl (d, bx, (m, pc + 3, l, st), rest, (M.1, .inl (a, r.getD 1 0, q) :: M.2.1, M.2.2))
        | _ => syno)
      (syok (Nat.beq (r.getD 2 0) 0 || (Nat.beq (r.getD 2 0) 2 && sybit v)) (syvI v fun w => .inl (d, bx, (m, pc + 3, l, st), rest, (.inl (a, r.getD 1 0, w) :: M.1, M.2)))))
  | _ => syno
def sy_alen (L : Nat) : syC → syR
  | (d, bx, (m, pc, l, o :: st), rest, M) => syref o fun a => syok (Nat.beq (syGK L M.2.2.1 a).1 20 || Nat.beq (syGK L M.2.2.1 a).1 21 || (Nat.blt a 3 && Nat.beq (syGK L M.2.2.1 a).1 30)) (.inl (d, bx, (m, pc + 1, l, .inl ((syGK L M.2.2.1 a).2 : Nat) :: st), rest, M))
  | _ => syno
def syeqI (v w : syI) : Bool := match v, w with
  | .inl x, .inl y => decide (x = y)
  | _, _ => false
/-- all items from lo on are the same -/
def sysame (M : syMI) (a lo : Nat) (v : syI) : Nat → Bool
  | 0 => true
  | n + 1 => cond (match syGI M a (lo + n) with
      | some w => syeqI w v
      | none => false) (sysame M a lo v n) false
def syidx (z : Int) (N : Nat) : Bool := decide (0 ≤ z) && decide (z < (N : Int))
def sy_iald (L : Nat) : syC → syR
  | (d, bx, (m, pc, l, ix :: o :: st), rest, M) => syref o fun a => syok (Nat.beq (syGK L M.2.2.1 a).1 20 || (Nat.blt a 3 && Nat.beq (syGK L M.2.2.1 a).1 30)) (syok (syisI ix)
      (syok (syidx (syrg bx ix).1 (syGK L M.2.2.1 a).2 && syidx (syrg bx ix).2 (syGK L M.2.2.1 a).2 && Nat.blt (syGK L M.2.2.1 a).2 2147483648)
        (match syGI M.1 a (syrg bx ix).1.toNat with
          | none => syno
          | some v => cond (sysame M.1 a (syrg bx ix).1.toNat v ((syrg bx ix).2 - (syrg bx ix).1 + 1).toNat) (.inl (d, bx, (m, pc + 1, l, syvi v :: st), rest, M))
              (syint bx ix fun z => match syGI M.1 a z.toNat with
                | none => syno
                | some w => .inl (d, bx, (m, pc + 1, l, syvi w :: st), rest, M)))))
  | _ => syno
def sy_aald (L : Nat) : syC → syR
  | (d, bx, (m, pc, l, ix :: o :: st), rest, M) => syref o fun a => syok (Nat.ble 22 (syGK L M.2.2.1 a).1 && Nat.blt (syGK L M.2.2.1 a).1 27) (syint bx ix fun z => syok (syidx z (syGK L M.2.2.1 a).2) (.inl (d, bx, (m, pc + 1, l, .inr (.inr (.inl (syGR M.2.1 a z.toNat))) :: st), rest, M)))
  | _ => syno
def sy_iast (L : Nat) : syC → syR
  | (d, bx, (m, pc, l, v :: ix :: o :: st), rest, M) => syref o fun a => syok (Nat.beq (syGK L M.2.2.1 a).1 20) (syint bx ix fun z => syok (syidx z (syGK L M.2.2.1 a).2) (syvI v fun w => .inl (d, bx, (m, pc + 1, l, st), rest, (.inl (a, z.toNat, w) :: M.1, M.2))))
  | _ => syno
def sy_aast (L : Nat) : syC → syR
  | (d, bx, (m, pc, l, v :: ix :: o :: st), rest, M) => syref o fun a => syref v fun b => syok ((Nat.beq (syGK L M.2.2.1 a).1 22 && sykq (syGK L M.2.2.1 b) 1 0) || (Nat.beq (syGK L M.2.2.1 a).1 23 && sykq (syGK L M.2.2.1 b) 5 0) || (Nat.beq (syGK L M.2.2.1 a).1 24 && sykq (syGK L M.2.2.1 b) 4 0))
      (syint bx ix fun z => syok (syidx z (syGK L M.2.2.1 a).2) (.inl (d, bx, (m, pc + 1, l, st), rest, (M.1, .inl (a, z.toNat, some b) :: M.2.1, M.2.2))))
  | _ => syno
def syrf (a : Nat) : syV := .inr (.inr (.inl (some a)))
def sy_new (r : List Nat) : syC → syR
  | (d, bx, (m, pc, l, st), rest, M) => .inl (d, bx, (m, pc + 3, l, syrf M.2.2.2.1 :: st), rest, (M.1, M.2.1, .inl (M.2.2.2.1, r.getD 0 0, 0) :: M.2.2.1, M.2.2.2.1 + 1, M.2.2.2.2 + r.getD 1 0))
/-- a row's length -/
def sylen (z : Int) (b : Nat) : Bool := decide (0 ≤ z) && decide (z ≤ (b : Int))
def sy_newa (n : Nat) (r : List Nat) : syC → syR
  | (d, bx, (m, pc, l, x :: st), rest, M) => syint bx x fun z => syok (sylen z 65536) (.inl (d, bx, (m, pc + n, l, syrf M.2.2.2.1 :: st), rest, (M.1, M.2.1, .inl (M.2.2.2.1, r.getD 1 0, z.toNat) :: M.2.2.1, M.2.2.2.1 + 1, M.2.2.2.2 + z.toNat)))
  | _ => syno
def sy_multi (dm : Nat) : syC → syR
  | (d, bx, (m, pc, l, x :: y :: st), rest, M) => cond (Nat.beq dm 2) (syint bx x fun j => syint bx y fun n => syok (sylen j 4096 && sylen n 4096)
      (.inl (d, bx, (m, pc + 4, l, syrf M.2.2.2.1 :: st), rest, (M.1, .inr (.inl (M.2.2.2.1, n.toNat)) :: M.2.1, .inr (.inl (M.2.2.2.1, 25, n.toNat, j.toNat)) :: M.2.2.1, M.2.2.2.1 + 1 + n.toNat, M.2.2.2.2 + n.toNat + n.toNat * j.toNat))))
      (match st with
        | w :: st => syint bx x fun j => syint bx y fun q => syint bx w fun n => syok (sylen j 4096 && sylen q 4096 && sylen n 4096)
          (.inl (d, bx, (m, pc + 4, l, syrf M.2.2.2.1 :: st), rest, (M.1, .inr (.inr (M.2.2.2.1, n.toNat, q.toNat)) :: M.2.1, .inr (.inr (M.2.2.2.1, n.toNat, q.toNat, j.toNat)) :: M.2.2.1, M.2.2.2.1 + 1 + n.toNat * (1 + q.toNat), M.2.2.2.2 + n.toNat + n.toNat * (q.toNat + q.toNat * j.toNat))))
        | [] => syno)
  | _ => syno
def sytake : Nat → List syV → List syV → Option (List syV × List syV)
  | 0, acc, st => some (acc, st)
  | n + 1, acc, v :: st => sytake n (v :: acc) st
  | _ + 1, _, [] => none
def sycall (y ml : Nat) (as : List syV) (rest : List syV) : syC → syR
  | (d + 1, bx, (m, pc, l, _), fs, M) => syok (Nat.ble (syct rest) 8 && Nat.ble (syct as) ml) (.inl (d, bx, (y, 0, syarg 0 as, []), (m, pc + 3, l, rest) :: fs, M))
  | _ => syno
def sy_virt (L : Nat) (r : List Nat) : syC → syR
  | (d, bx, (m, pc, l, st), rest, M) => match sytake (r.getD 2 0) [] st with
    | some (as, o :: tl) => syref o fun a => syok (sykq (syGK L M.2.2.1 a) (r.getD 3 0) 0) (sycall (r.getD 1 0) (r.getD 4 0) (o :: as) tl (d, bx, (m, pc, l, st), rest, M))
    | _ => syno
def sy_spec (r : List Nat) : syC → syR
  | (d, bx, (m, pc, l, st), rest, M) => cond (Nat.beq (r.getD 0 0) 6) (match st with
      | o :: tl => syref o fun _ => syok (Nat.ble (syct tl) 8) (.inl (d, bx, (m, pc + 3, l, tl), rest, M))
      | [] => syno)
    (match sytake (r.getD 2 0) [] st with
      | some (as, o :: tl) => syref o fun _ => sycall (r.getD 1 0) (r.getD 4 0) (o :: as) tl (d, bx, (m, pc, l, st), rest, M)
      | _ => syno)
def sy_mm (b : Bool) : syC → syR
  | (d, bx, (m, pc, l, y :: x :: st), rest, M) => syok (Nat.ble (syct st) 8) (syif bx .lt (cond b x y) (cond b y x) (.inl (d, bx, (m, pc + 3, l, y :: st), rest, M)) (.inl (d, bx, (m, pc + 3, l, x :: st), rest, M)))
  | _ => syno
def sy_copy (L : Nat) : syC → syR
  | (d, bx, (m, pc, l, n :: dp :: o :: sp :: o0 :: st), rest, M) => syref o fun a => syref o0 fun a0 => syint bx n fun n => syint bx dp fun dp => syint bx sp fun sp =>
      syok (Nat.beq (syGK L M.2.2.1 a).1 20 && Nat.beq (syGK L M.2.2.1 a0).1 20 && decide (0 ≤ n) && decide (0 ≤ dp) && decide (0 ≤ sp) && Nat.ble (sp.toNat + n.toNat) (syGK L M.2.2.1 a0).2 && Nat.ble (dp.toNat + n.toNat) (syGK L M.2.2.1 a).2 && Nat.ble (syct st) 8)
        (.inl (d, bx, (m, pc + 3, l, st), rest, (.inr (a0, sp.toNat, a, dp.toNat, n.toNat) :: M.1, M.2)))
  | _ => syno
def sy_stat (L : Nat) (r : List Nat) (c : syC) : syR :=
  cond (Nat.beq (r.getD 0 0) 7) (sy_copy L c) (cond (Nat.beq (r.getD 0 0) 10) (sy_mm true c) (cond (Nat.beq (r.getD 0 0) 11) (sy_mm false c)
    (match c with
      | (d, bx, (m, pc, l, st), rest, M) => match sytake (r.getD 2 0) [] st with
        | some (as, tl) => sycall (r.getD 1 0) (r.getD 4 0) as tl (d, bx, (m, pc, l, st), rest, M)
        | none => syno)))
def sy_iret (r : List Nat) : syC → syR
  | (d, bx, (m, pc, l, [v]), rest, M) => syok (syisI v && (Nat.beq (r.getD 0 0) 1 || (Nat.beq (r.getD 0 0) 2 && sybit v))) (syret [v] (d, bx, (m, pc, l, [v]), rest, M))
  | _ => syno
def sy_aret : syC → syR
  | (d, bx, (m, pc, l, [v]), rest, M) => syok (syisR v) (syret [v] (d, bx, (m, pc, l, [v]), rest, M))
  | _ => syno
def sy_lret : syC → syR
  | (d, bx, (m, pc, l, [.inr (.inr (.inr q))]), rest, M) => syret [.inr (.inr (.inr q))] (d, bx, (m, pc, l, []), rest, M)
  | _ => syno
def sy_ret : syC → syR
  | (d, bx, (m, pc, l, []), rest, M) => syret [] (d, bx, (m, pc, l, []), rest, M)
  | _ => syno
def syop (L : Nat) (i : Instr) (r : List Nat) (c : syC) : syR := match i with
  | .aconst_null => sypush 1 (.inr (.inr (.inl none))) c
  | .iconst z => sypush 1 (.inl z) c
  | .bipush z => sypush 2 (.inl z) c
  | .sipush z => sypush 3 (.inl z) c
  | .ldc2_w _ => sypush 3 (.inr (.inr (.inr (-2)))) c
  | .iload_n j => sy_ild j 1 c
  | .iload j => sy_ild j 2 c
  | .aload_n j => sy_ald j 1 c
  | .aload j => sy_ald j 2 c
  | .istore_n j => sy_ist j 1 c
  | .istore j => sy_ist j 2 c
  | .astore_n j => sy_ast j 1 c
  | .astore j => sy_ast j 2 c
  | .iinc j z => sy_iinc j z c
  | .iadd => sy_add c
  | .isub => sy_b2 (fun x y => x - y) c
  | .imul => sy_b2 (fun x y => x * y) c
  | .iand => sy_and c
  | .ior => sy_b2 (fun x y => (Int32.ofInt x ||| Int32.ofInt y).toInt) c
  | .ishl => sy_b2 (fun x y => (Int32.ofInt x <<< (Int32.ofInt y &&& 31)).toInt) c
  | .ishr => sy_b2 (fun x y => (Int32.ofInt x >>> (Int32.ofInt y &&& 31)).toInt) c
  | .idiv => sy_dr (fun x y => x / y) c
  | .irem => sy_dr (fun x y => x - x / y * y) c
  | .ineg => sy_neg c
  | .lcmp => sy_lcmp c
  | .dup => sy_dup c
  | .dup2 => sy_dup2 c
  | .pop => sy_pop c
  | .goto _ => sy_goto r c
  | .ifCond d _ => sy_if d r c
  | .if_icmp d _ => sy_icmp d r c
  | .ifnull _ => sy_null false r c
  | .ifnonnull _ => sy_null true r c
  | .tableswitch _ lo hi _ => sy_ts lo hi r c
  | .getfield _ => sy_getf L r c
  | .putfield _ => sy_putf L r c
  | .arraylength => sy_alen L c
  | .iaload => sy_iald L c
  | .aaload => sy_aald L c
  | .iastore => sy_iast L c
  | .aastore => sy_aast L c
  | .new _ => sy_new r c
  | .newarray _ => sy_newa 2 r c
  | .anewarray _ => sy_newa 3 r c
  | .multianewarray _ dm => sy_multi dm c
  | .invokevirtual _ => sy_virt L r c
  | .invokespecial _ => sy_spec r c
  | .invokestatic _ => sy_stat L r c
  | .ireturn => sy_iret r c
  | .areturn => sy_aret c
  | .lreturn => sy_lret c
  | .return_ => sy_ret c
  | _ => syno
/-! many -/
def systep (tb : Nat → Nat → Option syO) (L : Nat) (c : syC) : syR := match tb c.2.2.1.1 c.2.2.1.2.1 with
  | some q => syop L q.1 q.2.2 c
  | none => syno
def syfin (tb : Nat → Nat → Option syO) (fin : Option syV → syM → Bool) : syC → Bool
  | (_, _, (m, pc, _, st), [], M) => match tb m pc with
    | some (.ireturn, _, r) => (match st with
      | [v] => (Nat.beq (r.getD 0 0) 1 || (Nat.beq (r.getD 0 0) 2 && sybit v)) && syisI v && fin (some v) M
      | _ => false)
    | some (.return_, _, _) => (match st with
      | [] => fin none M
      | _ => false)
    | _ => false
  | _ => false
def syfork (bx : syB) (j : Nat) (k : Int) : syB × syB := ((j, (syBg bx j).1, k) :: bx, (j, k + 1, (syBg bx j).2) :: bx)
def syrun (step : syC → syR) (fin : syC → Bool) : Nat → syC → Bool
  | 0, _ => false
  | f + 1, c => match step c with
    | .inl c' => syrun step fin f c'
    | .inr (.inl (j, k)) => cond (syrun step fin f (c.1, (syfork c.2.1 j k).2, c.2.2)) (syrun step fin f (c.1, (syfork c.2.1 j k).1, c.2.2)) false
    | .inr (.inr _) => fin c
