/-! ===== why a run by boxes tells of the machine ===== -/
def syBok (xs : Nat → Int32) (bx : syB) : Prop := ∀ q ∈ bx, q.2.1 ≤ (syE xs q.1).toInt ∧ (syE xs q.1).toInt ≤ q.2.2
/-- what a table's line is held against -/
def sychk (m pc : Nat) (i : Instr) (n : Nat) (r : List Nat) : Bool := match i with
  | .aconst_null => decide (n = 1)
  | .iconst _ => decide (n = 1)
  | .bipush z => decide (n = 2) && decide ((Int8.ofInt z).toInt32 = Int32.ofInt z)
  | .sipush z => decide (n = 3) && decide ((Int16.ofInt z).toInt32 = Int32.ofInt z)
  | .ldc2_w ix => decide (n = 3) && decide (zKl (zO m) ix = some (Int64.ofInt (-2)))
  | .iload_n _ => decide (n = 1)
  | .iload _ => decide (n = 2)
  | .aload_n _ => decide (n = 1)
  | .aload _ => decide (n = 2)
  | .istore_n j => decide (n = 1) && decide ((j : Nat) < zML m)
  | .istore j => decide (n = 2) && decide (j < zML m)
  | .astore_n j => decide (n = 1) && decide ((j : Nat) < zML m)
  | .astore j => decide (n = 2) && decide (j < zML m)
  | .iinc j _ => decide (n = 3) && decide (j < zML m)
  | .iadd => decide (n = 1)
  | .isub => decide (n = 1)
  | .imul => decide (n = 1)
  | .iand => decide (n = 1)
  | .ior => decide (n = 1)
  | .ishl => decide (n = 1)
  | .ishr => decide (n = 1)
  | .idiv => decide (n = 1)
  | .irem => decide (n = 1)
  | .ineg => decide (n = 1)
  | .lcmp => decide (n = 1)
  | .dup => decide (n = 1)
  | .dup2 => decide (n = 1)
  | .pop => decide (n = 1)
  | .goto o => decide (n = 3) && decide ((pc : Int) + o = (r.getD 0 0 : Nat))
  | .ifCond _ o => decide (n = 3) && decide ((pc : Int) + o = (r.getD 0 0 : Nat))
  | .if_icmp _ o => decide (n = 3) && decide ((pc : Int) + o = (r.getD 0 0 : Nat))
  | .ifnull o => decide (n = 3) && decide ((pc : Int) + o = (r.getD 0 0 : Nat))
  | .ifnonnull o => decide (n = 3) && decide ((pc : Int) + o = (r.getD 0 0 : Nat))
  | .tableswitch d lo hi offs => decide ((pc : Int) + d = (r.getD 0 0 : Nat)) && decide (hi - lo + 1 = (offs.size : Int)) && decide (-2147483648 ≤ lo) && decide (hi < 2147483648) && decide (∀ k, k < offs.size → offs[k]? = some (((r.getD (k + 1) 0 : Nat) : Int) - pc))
  | .getfield ix => decide (n = 3) && decide (zFld (zO m) ix = some (r.getD 0 0, r.getD 1 0)) && decide (zF (r.getD 0 0) (r.getD 1 0) = r.getD 2 0)
  | .putfield ix => decide (n = 3) && decide (zFld (zO m) ix = some (r.getD 0 0, r.getD 1 0)) && decide (zF (r.getD 0 0) (r.getD 1 0) = r.getD 2 0) && decide (((zCl.getD (r.getD 0 0) ("", zT0, 0)).2.1 (r.getD 1 0)).2.2.2 = true → (zNm m).name = "<init>" ∧ zO m = r.getD 0 0)
  | .arraylength => decide (n = 1)
  | .iaload => decide (n = 1)
  | .aaload => decide (n = 1)
  | .iastore => decide (n = 1)
  | .aastore => decide (n = 1)
  | .new ix => decide (n = 3) && decide (zCls (zO m) ix = some (r.getD 0 0)) && decide (r.getD 0 0 < 9) && decide (zN (r.getD 0 0) = r.getD 1 0)
  | .newarray t => decide (n = 2) && (decide (t = .int ∧ r.getD 1 0 = 20) || decide (t = .long ∧ r.getD 1 0 = 21))
  | .anewarray ix => decide (n = 3) && decide (zCls (zO m) ix = some (r.getD 0 0)) && decide ((r.getD 0 0 = 1 ∧ r.getD 1 0 = 22) ∨ (r.getD 0 0 = 5 ∧ r.getD 1 0 = 23) ∨ (r.getD 0 0 = 4 ∧ r.getD 1 0 = 24))
  | .multianewarray ix dm => decide (n = 4) && (decide (dm = 2 ∧ zCls (zO m) ix = some 25) || decide (dm = 3 ∧ zCls (zO m) ix = some 26))
  | .invokevirtual ix => decide (n = 3) && decide (zCall (zO m) ix = some (0, r.getD 1 0)) && decide (zA (r.getD 1 0) = r.getD 2 0) && decide (zO (r.getD 1 0) = r.getD 3 0) && decide (zML (r.getD 1 0) = r.getD 4 0) && decide (r.getD 1 0 < 216)
  | .invokespecial ix => decide (n = 3) && (decide (r.getD 0 0 = 6 ∧ zCall (zO m) ix = some (6, 0)) || (decide (r.getD 0 0 ≠ 6) && decide (zCall (zO m) ix = some (2, r.getD 1 0) ∨ zCall (zO m) ix = some (5, r.getD 1 0)) && decide (zA (r.getD 1 0) = r.getD 2 0) && decide (zRk (r.getD 1 0) = 0) && decide (zML (r.getD 1 0) = r.getD 4 0) && decide (r.getD 1 0 < 216)))
  | .invokestatic ix => decide (n = 3) && (decide ((r.getD 0 0 = 7 ∨ r.getD 0 0 = 10 ∨ r.getD 0 0 = 11) ∧ zCall (zO m) ix = some (r.getD 0 0, 0)) || (decide (r.getD 0 0 ≠ 7 ∧ r.getD 0 0 ≠ 10 ∧ r.getD 0 0 ≠ 11) && decide (zCall (zO m) ix = some (1, r.getD 1 0) ∨ zCall (zO m) ix = some (4, r.getD 1 0)) && decide (zA (r.getD 1 0) = r.getD 2 0) && decide (zML (r.getD 1 0) = r.getD 4 0) && decide (r.getD 1 0 < 216)))
  | .ireturn => decide (n = 1) && decide (zRk m = r.getD 0 0)
  | .areturn => decide (n = 1) && decide (zRk m = 4)
  | .lreturn => decide (n = 1) && decide (zRk m = 3)
  | .return_ => decide (n = 1) && decide (zRk m = 0)
  | _ => false
def syKok (m : Nat) : Nat → List syQ → Prop
  | _, [] => True
  | pc, q :: K => ∃ (i : Instr) (n : Nat) (r : List Nat), decode (zB m) pc = .ok (i, n) ∧ sychk m pc i n r = true ∧ q = syenc i r ∧ syKok m (pc + n) K
def syUok (xs : Nat → Int32) (u : syU) (B : zM) : Prop :=
  (∀ a k v, u.1 a k = some v → zi B a k = syi xs v) ∧ (∀ a k r, u.2.1 a k = some r → zr B a k = r) ∧ (∀ a, (u.2.2.1 a).1 ≠ 9999 → zk B a = u.2.2.1 a) ∧ ∀ m pc, syKok m pc (u.2.2.2 m pc)
def syRok (rest : List syF) : Prop := ∀ f ∈ rest, syKok f.1 f.2.1 f.2.2.1
def sykont (xs : Nat → Int32) (P : Option Value → zM → Prop) : Nat → List syF → Option Value → zM → Prop
  | _, [] => P
  | d, f :: rest => fun v M => qW (zEv (d + 1)) f.1 (sykont xs P (d + 1) rest) f.2.1 (syl xs f.2.2.2.1) (v.toList ++ sys xs f.2.2.2.2) M
def syG (xs : Nat → Int32) (P : Option Value → zM → Prop) (B : zM) (c : syC) : Prop :=
  syBok xs c.2.1 → syKok c.2.2.1.1 c.2.2.1.2.1 c.2.2.1.2.2.1 → syRok c.2.2.2.1 → qW (zEv c.1) c.2.2.1.1 (sykont xs P c.1 c.2.2.2.1) c.2.2.1.2.1 (syl xs c.2.2.1.2.2.2.1) (sys xs c.2.2.1.2.2.2.2) (syA B xs c.2.2.2.2)
/-! numbers -/
theorem syle_iff {a b : Int} : syle a b = true ↔ a ≤ b := by
  cases a <;> cases b <;> simp only [syle, Nat.ble_eq, Int.ofNat_eq_natCast] <;> first | omega | (constructor <;> intro h <;> first | omega | exact trivial | (cases h; done) | (exfalso; omega) | rfl)
theorem sylt_iff {a b : Int} : sylt a b = true ↔ a < b := by
  cases a <;> cases b <;> simp only [sylt, Nat.blt_eq, Int.ofNat_eq_natCast] <;> first | omega | (constructor <;> intro h <;> first | omega | exact trivial | (cases h; done) | (exfalso; omega) | rfl)
theorem syeq_iff {a b : Int} : syeq a b = true ↔ a = b := by
  cases a <;> cases b <;> simp only [syeq, Nat.beq_eq, Int.ofNat_eq_natCast] <;> first | omega | (constructor <;> intro h <;> first | omega | exact trivial | (cases h; done) | (exfalso; omega) | rfl)
theorem syZ_iff {z : Int} : syZ z = true ↔ -2147483648 ≤ z ∧ z < 2147483648 := by
  unfold syZ; rw [Bool.and_eq_true, syle_iff, sylt_iff]
theorem syZ_to {z : Int} (h : syZ z = true) : (Int32.ofInt z).toInt = z := by
  have := syZ_iff.mp h
  rw [Int32.toInt_ofInt]
  rw [show (Int32.size : Nat) = 4294967296 from rfl]
  rw [Int.bmod_eq_of_le (by omega) (by omega)]
theorem syE_of {x : Int32} {z : Int} (h : x.toInt = z) : x = Int32.ofInt z := by
  subst h; exact (Int32.ofInt_toInt x).symm
theorem syok_inl {b : Bool} {r : syR} {c : syC} (h : syok b r = .inl c) : b = true ∧ r = .inl c := by
  cases b with
  | true => exact ⟨rfl, h⟩
  | false => exact absurd h (by unfold syok syno; intro q; cases q)
theorem syno_inl {c : syC} (h : syno = .inl c) : False := by unfold syno at h; cases h
theorem syBg_ok {xs : Nat → Int32} {bx : syB} (h : syBok xs bx) (j : Nat) : (syBg bx j).1 ≤ (syE xs j).toInt ∧ (syE xs j).toInt ≤ (syBg bx j).2 := by
  induction bx with
  | nil =>
    have h1 := Int32.le_toInt (syE xs j)
    have h2 := Int32.toInt_lt (syE xs j)
    show (-2147483648 : Int) ≤ _ ∧ _ ≤ (2147483647 : Int)
    omega
  | cons q t ih =>
    show (cond (Nat.beq q.1 j) q.2 (syBg t j)).1 ≤ _ ∧ _ ≤ (cond (Nat.beq q.1 j) q.2 (syBg t j)).2
    cases hb : Nat.beq q.1 j with
    | true =>
      have := Nat.eq_of_beq_eq_true hb
      subst this
      exact h q List.mem_cons_self
    | false => exact ih (fun q hq => h q (List.mem_cons_of_mem _ hq))
theorem syint_inl {xs : Nat → Int32} {bx : syB} {v : syV} {k : Int → syR} {c : syC} (hb : syBok xs bx) (h : syint bx v k = .inl c) : ∃ z, syZ z = true ∧ syv xs v = .int (Int32.ofInt z) ∧ k z = .inl c := by
  rcases v with z | j | r | q
  · obtain ⟨h1, h2⟩ := syok_inl h
    exact ⟨z, h1, rfl, h2⟩
  · have h : cond (syeq (syBg bx j).1 (syBg bx j).2) (syok (syZ (syBg bx j).1) (k (syBg bx j).1)) (.inr (.inl (j, (syBg bx j).1))) = .inl c := h
    cases he : syeq (syBg bx j).1 (syBg bx j).2 with
    | false => rw [he] at h; cases h
    | true =>
      rw [he] at h
      obtain ⟨h1, h2⟩ := syok_inl h
      have h3 := syeq_iff.mp he
      have h4 := syBg_ok hb j
      refine ⟨_, h1, ?_, h2⟩
      show Value.int (syE xs j) = _
      rw [syE_of (x := syE xs j) (z := (syBg bx j).1) (by omega)]
  · exact (syno_inl h).elim
  · exact (syno_inl h).elim
theorem syref_inl {v : syV} {k : Nat → syR} {c : syC} (h : syref v k = .inl c) : ∃ a, v = .inr (.inr (.inl (some a))) ∧ k a = .inl c := by
  rcases v with z | j | r | q
  · exact (syno_inl h).elim
  · exact (syno_inl h).elim
  · cases r with
    | none => exact (syno_inl h).elim
    | some a => exact ⟨a, rfl, h⟩
  · exact (syno_inl h).elim
theorem syrg_ok {xs : Nat → Int32} {bx : syB} {v : syV} (hb : syBok xs bx) (h : syin v = true) : ∃ x, syv xs v = .int x ∧ (syrg bx v).1 ≤ x.toInt ∧ x.toInt ≤ (syrg bx v).2 := by
  rcases v with z | j | r | q
  · have h3 := syZ_to h
    refine ⟨Int32.ofInt z, rfl, ?_, ?_⟩
    · show z ≤ _; omega
    · show _ ≤ z; omega
  · exact ⟨syE xs j, rfl, syBg_ok hb j⟩
  · cases h
  · cases h
theorem syisI_ok {xs : Nat → Int32} {v : syV} (h : syisI v = true) : ∃ x, syv xs v = .int x := by
  rcases v with z | j | r | q
  · exact ⟨_, rfl⟩
  · exact ⟨_, rfl⟩
  · cases h
  · cases h
theorem syisR_ok {v : syV} (h : syisR v = true) : ∃ r, v = .inr (.inr (.inl r)) := by
  rcases v with z | j | r | q
  · cases h
  · cases h
  · exact ⟨_, rfl⟩
  · cases h
theorem sybit_ok {xs : Nat → Int32} {v : syV} (h : sybit v = true) : syv xs v = .int 0 ∨ syv xs v = .int 1 := by
  rcases v with z | j | r | q
  · have h : (syeq z 0 || syeq z 1) = true := h
    rw [Bool.or_eq_true, syeq_iff, syeq_iff] at h
    rcases h with rfl | rfl
    · exact Or.inl rfl
    · exact Or.inr rfl
  · cases h
  · cases h
  · cases h
theorem sycmp_ok {c : ClassFile.Cond} {p q : Int × Int} {b : Bool} {x y : Int32} (h : sycmp c p q = some b) (h1 : p.1 ≤ x.toInt ∧ x.toInt ≤ p.2) (h2 : q.1 ≤ y.toInt ∧ y.toInt ≤ q.2) : (b = true ∧ zcc c x y) ∨ (b = false ∧ ¬ zcc c x y) := by
  have two : ∀ (s t : Bool) (a b' : Bool), cond s (some a) (cond t (some b') none) = some b → (s = true ∧ b = a) ∨ (t = true ∧ b = b') := by
    intro s t a b' h
    cases s with
    | true => exact Or.inl ⟨rfl, (Option.some.inj h).symm⟩
    | false =>
      cases t with
      | true => exact Or.inr ⟨rfl, (Option.some.inj h).symm⟩
      | false => cases h
  cases c with
  | lt =>
    rcases two _ _ _ _ h with ⟨g, rfl⟩ | ⟨g, rfl⟩
    · have g := sylt_iff.mp g; exact Or.inl ⟨rfl, Int32.lt_iff_toInt_lt.mpr (by omega)⟩
    · have g := syle_iff.mp g; exact Or.inr ⟨rfl, fun e => by have := Int32.lt_iff_toInt_lt.mp e; omega⟩
  | ge =>
    rcases two _ _ _ _ h with ⟨g, rfl⟩ | ⟨g, rfl⟩
    · have g := sylt_iff.mp g; exact Or.inr ⟨rfl, fun e => by have := Int32.le_iff_toInt_le.mp e; omega⟩
    · have g := syle_iff.mp g; exact Or.inl ⟨rfl, Int32.le_iff_toInt_le.mpr (by omega)⟩
  | gt =>
    rcases two _ _ _ _ h with ⟨g, rfl⟩ | ⟨g, rfl⟩
    · have g := sylt_iff.mp g; exact Or.inl ⟨rfl, Int32.lt_iff_toInt_lt.mpr (by omega)⟩
    · have g := syle_iff.mp g; exact Or.inr ⟨rfl, fun e => by have := Int32.lt_iff_toInt_lt.mp e; omega⟩
  | le =>
    rcases two _ _ _ _ h with ⟨g, rfl⟩ | ⟨g, rfl⟩
    · have g := sylt_iff.mp g; exact Or.inr ⟨rfl, fun e => by have := Int32.le_iff_toInt_le.mp e; omega⟩
    · have g := syle_iff.mp g; exact Or.inl ⟨rfl, Int32.le_iff_toInt_le.mpr (by omega)⟩
  | eq =>
    rcases two _ _ _ _ h with ⟨g, rfl⟩ | ⟨g, rfl⟩
    · rw [Bool.or_eq_true, sylt_iff, sylt_iff] at g; exact Or.inr ⟨rfl, fun e => by have e : x = y := e; subst e; omega⟩
    · rw [Bool.and_eq_true, Bool.and_eq_true, syeq_iff, syeq_iff, syeq_iff] at g; exact Or.inl ⟨rfl, Int32.toInt_inj.mp (by omega)⟩
  | ne =>
    rcases two _ _ _ _ h with ⟨g, rfl⟩ | ⟨g, rfl⟩
    · rw [Bool.or_eq_true, sylt_iff, sylt_iff] at g; exact Or.inl ⟨rfl, fun e => by subst e; omega⟩
    · rw [Bool.and_eq_true, Bool.and_eq_true, syeq_iff, syeq_iff, syeq_iff] at g; exact Or.inr ⟨rfl, fun e => e (Int32.toInt_inj.mp (by omega))⟩
theorem syif_ok {xs : Nat → Int32} {bx : syB} {c : ClassFile.Cond} {x y : syV} {t f : syR} {c' : syC} (hb : syBok xs bx) (h : syif bx c x y t f = .inl c') : ∃ a b, syv xs x = .int a ∧ syv xs y = .int b ∧ ((zcc c a b ∧ t = .inl c') ∨ (¬ zcc c a b ∧ f = .inl c')) := by
  unfold syif at h
  cases hj : syjI x y with
  | true =>
    rw [hj] at h
    rcases x with z | j | r | q
    · cases hj
    · rcases y with z | i | r | q
      · cases hj
      · have e : j = i := Nat.eq_of_beq_eq_true hj
        subst e
        refine ⟨_, _, rfl, rfl, ?_⟩
        cases c with
        | eq => exact Or.inl ⟨rfl, h⟩
        | ge => exact Or.inl ⟨Int32.le_refl _, h⟩
        | le => exact Or.inl ⟨Int32.le_refl _, h⟩
        | ne => exact Or.inr ⟨fun e => e rfl, h⟩
        | lt => exact Or.inr ⟨Int32.lt_irrefl, h⟩
        | gt => exact Or.inr ⟨Int32.lt_irrefl, h⟩
      · cases hj
      · cases hj
    · cases hj
    · cases hj
  | false =>
    rw [hj] at h
    obtain ⟨h1, h2⟩ := syok_inl h
    rw [Bool.and_eq_true] at h1
    obtain ⟨a, ha, ra⟩ := syrg_ok hb h1.1
    obtain ⟨b, hb2, rb⟩ := syrg_ok hb h1.2
    refine ⟨a, b, ha, hb2, ?_⟩
    cases hc : sycmp c (syrg bx x) (syrg bx y) with
    | none => rw [hc] at h2; cases h2
    | some w =>
      rw [hc] at h2
      rcases sycmp_ok hc ra rb with ⟨rfl, g⟩ | ⟨rfl, g⟩
      · exact Or.inl ⟨g, h2⟩
      · exact Or.inr ⟨g, h2⟩
/-! cells -/
theorem syGI_ok {xs : Nat → Int32} {u : syU} {B : zM} (hu : ∀ a k v, u.1 a k = some v → zi B a k = syi xs v) : ∀ (M : syMI) (a k : Nat) (v : syI), syGI u M a k = some v → syFI B xs M a k = syi xs v := by
  intro M
  induction M with
  | nil => exact hu
  | cons q t ih =>
    intro a k v h
    rcases q with ⟨b, j, w⟩ | ⟨a0, s, b, d, n⟩
    · have h : cond (Nat.beq a b) (cond (Nat.beq k j) (some w) (syGI u t a k)) (syGI u t a k) = some v := h
      show (if a = b ∧ k = j then syi xs w else syFI B xs t a k) = _
      cases h1 : Nat.beq a b with
      | false =>
        rw [h1] at h
        rw [if_neg (fun e => by rw [e.1, Nat.beq_refl] at h1; cases h1)]
        exact ih _ _ _ h
      | true =>
        rw [h1] at h
        cases h2 : Nat.beq k j with
        | false =>
          rw [h2] at h
          rw [if_neg (fun e => by rw [e.2, Nat.beq_refl] at h2; cases h2)]
          exact ih _ _ _ h
        | true =>
          rw [h2] at h
          rw [if_pos ⟨Nat.eq_of_beq_eq_true h1, Nat.eq_of_beq_eq_true h2⟩]
          exact congrArg (syi xs) (Option.some.inj h)
    · have h : cond (Nat.beq a b) (cond (Nat.ble d k) (cond (Nat.blt k (d + n)) (syGI u t a0 (s + (k - d))) (syGI u t a k)) (syGI u t a k)) (syGI u t a k) = some v := h
      show (if a = b ∧ d ≤ k ∧ k < d + n then syFI B xs t a0 (s + (k - d)) else syFI B xs t a k) = _
      cases h1 : Nat.beq a b with
      | false =>
        rw [h1] at h
        rw [if_neg (fun e => by rw [e.1, Nat.beq_refl] at h1; cases h1)]
        exact ih _ _ _ h
      | true =>
        rw [h1] at h
        cases h2 : Nat.ble d k with
        | false =>
          rw [h2] at h
          rw [if_neg (fun e => by rw [Nat.ble_eq.mpr e.2.1] at h2; cases h2)]
          exact ih _ _ _ h
        | true =>
          rw [h2] at h
          cases h3 : Nat.blt k (d + n) with
          | false =>
            rw [h3] at h
            rw [if_neg (fun e => by rw [Nat.blt_eq.mpr e.2.2] at h3; cases h3)]
            exact ih _ _ _ h
          | true =>
            rw [h3] at h
            rw [if_pos ⟨Nat.eq_of_beq_eq_true h1, Nat.ble_eq.mp h2, Nat.blt_eq.mp h3⟩]
            exact ih _ _ _ h
theorem syGR_ok {u : syU} {B : zM} (hu : ∀ a k r, u.2.1 a k = some r → zr B a k = r) : ∀ (M : syMR) (a k : Nat) (r : Option Nat), syGR u M a k = some r → syFR B M a k = r := by
  intro M
  induction M with
  | nil => exact hu
  | cons q t ih =>
    intro a k r h
    rcases q with ⟨b, j, w⟩ | ⟨b, n⟩ | ⟨b, n, q⟩
    · have h : cond (Nat.beq a b) (cond (Nat.beq k j) (some w) (syGR u t a k)) (syGR u t a k) = some r := h
      show (if a = b ∧ k = j then w else syFR B t a k) = _
      cases h1 : Nat.beq a b with
      | false => rw [h1] at h; rw [if_neg (fun e => by rw [e.1, Nat.beq_refl] at h1; cases h1)]; exact ih _ _ _ h
      | true =>
        rw [h1] at h
        cases h2 : Nat.beq k j with
        | false => rw [h2] at h; rw [if_neg (fun e => by rw [e.2, Nat.beq_refl] at h2; cases h2)]; exact ih _ _ _ h
        | true => rw [h2] at h; rw [if_pos ⟨Nat.eq_of_beq_eq_true h1, Nat.eq_of_beq_eq_true h2⟩]; exact Option.some.inj h
    · have h : cond (Nat.beq a b) (cond (Nat.blt k n) (some (some (b + 1 + k))) (syGR u t a k)) (syGR u t a k) = some r := h
      show (if a = b ∧ k < n then some (b + 1 + k) else syFR B t a k) = _
      cases h1 : Nat.beq a b with
      | false => rw [h1] at h; rw [if_neg (fun e => by rw [e.1, Nat.beq_refl] at h1; cases h1)]; exact ih _ _ _ h
      | true =>
        rw [h1] at h
        cases h2 : Nat.blt k n with
        | false => rw [h2] at h; rw [if_neg (fun e => by rw [Nat.blt_eq.mpr e.2] at h2; cases h2)]; exact ih _ _ _ h
        | true => rw [h2] at h; rw [if_pos ⟨Nat.eq_of_beq_eq_true h1, Nat.blt_eq.mp h2⟩]; exact Option.some.inj h
    · have h : cond (Nat.beq a b) (cond (Nat.blt k n) (some (some (b + 1 + k * (1 + q)))) (syGR u t a k))
          (cond (Nat.blt b a && Nat.ble a (b + n * (1 + q)) && Nat.beq ((a - b - 1) % (1 + q)) 0 && Nat.blt k q) (some (some (a + 1 + k))) (syGR u t a k)) = some r := h
      show (if a = b ∧ k < n then some (b + 1 + k * (1 + q)) else if b < a ∧ a ≤ b + n * (1 + q) ∧ (a - b - 1) % (1 + q) = 0 ∧ k < q then some (a + 1 + k) else syFR B t a k) = _
      cases h1 : Nat.beq a b with
      | true =>
        rw [h1] at h
        have e := Nat.eq_of_beq_eq_true h1
        cases h2 : Nat.blt k n with
        | false =>
          rw [h2] at h
          rw [if_neg (fun e => by rw [Nat.blt_eq.mpr e.2] at h2; cases h2), if_neg (by omega)]
          exact ih _ _ _ h
        | true => rw [h2] at h; rw [if_pos ⟨e, Nat.blt_eq.mp h2⟩]; exact Option.some.inj h
      | false =>
        rw [h1] at h
        rw [if_neg (fun e => by rw [e.1, Nat.beq_refl] at h1; cases h1)]
        cases h2 : (Nat.blt b a && Nat.ble a (b + n * (1 + q)) && Nat.beq ((a - b - 1) % (1 + q)) 0 && Nat.blt k q) with
        | true =>
          rw [h2] at h
          rw [Bool.and_eq_true, Bool.and_eq_true, Bool.and_eq_true, Nat.blt_eq, Nat.ble_eq, Nat.blt_eq] at h2
          rw [if_pos ⟨h2.1.1.1, h2.1.1.2, Nat.eq_of_beq_eq_true h2.1.2, h2.2⟩]
          exact Option.some.inj h
        | false =>
          rw [h2] at h
          rw [if_neg (fun e => by rw [Nat.blt_eq.mpr e.1, Nat.ble_eq.mpr e.2.1, e.2.2.1, Nat.blt_eq.mpr e.2.2.2] at h2; cases h2)]
          exact ih _ _ _ h
theorem syGK_ok {u : syU} {B : zM} (hu : ∀ a, (u.2.2.1 a).1 ≠ 9999 → zk B a = u.2.2.1 a) : ∀ (M : syMK) (a : Nat), (syGK u M a).1 ≠ 9999 → syFK B M a = syGK u M a := by
  intro M
  induction M with
  | nil => exact hu
  | cons q t ih =>
    intro a h
    rcases q with ⟨b, w⟩ | ⟨b, t2, n, j⟩ | ⟨b, n, q, j⟩
    · have e : syGK u (.inl (b, w) :: t) a = cond (Nat.beq a b) w (syGK u t a) := rfl
      rw [e] at h ⊢
      show (if a = b then w else syFK B t a) = _
      cases h1 : Nat.beq a b with
      | false => rw [h1] at h; rw [if_neg (fun e => by rw [e, Nat.beq_refl] at h1; cases h1)]; exact ih _ h
      | true => rw [if_pos (Nat.eq_of_beq_eq_true h1)]; rfl
    · have e : syGK u (.inr (.inl (b, t2, n, j)) :: t) a = cond (Nat.beq a b) (t2, n) (cond (Nat.blt b a && Nat.ble a (b + n)) (20, j) (syGK u t a)) := rfl
      rw [e] at h ⊢
      show (if a = b then (t2, n) else if b < a ∧ a ≤ b + n then (20, j) else syFK B t a) = _
      cases h1 : Nat.beq a b with
      | true => rw [if_pos (Nat.eq_of_beq_eq_true h1)]; rfl
      | false =>
        rw [h1] at h
        rw [if_neg (fun e => by rw [e, Nat.beq_refl] at h1; cases h1)]
        cases h2 : (Nat.blt b a && Nat.ble a (b + n)) with
        | true => rw [Bool.and_eq_true, Nat.blt_eq, Nat.ble_eq] at h2; rw [if_pos h2]; rfl
        | false =>
          rw [h2] at h
          rw [if_neg (fun e => by rw [Nat.blt_eq.mpr e.1, Nat.ble_eq.mpr e.2] at h2; cases h2)]
          exact ih _ h
    · have e : syGK u (.inr (.inr (b, n, q, j)) :: t) a = cond (Nat.beq a b) (26, n) (cond (Nat.blt b a && Nat.ble a (b + n * (1 + q))) (cond (Nat.beq ((a - b - 1) % (1 + q)) 0) (25, q) (20, j)) (syGK u t a)) := rfl
      rw [e] at h ⊢
      show (if a = b then (26, n) else if b < a ∧ a ≤ b + n * (1 + q) then (if (a - b - 1) % (1 + q) = 0 then (25, q) else (20, j)) else syFK B t a) = _
      cases h1 : Nat.beq a b with
      | true => rw [if_pos (Nat.eq_of_beq_eq_true h1)]; rfl
      | false =>
        rw [h1] at h
        rw [if_neg (fun e => by rw [e, Nat.beq_refl] at h1; cases h1)]
        cases h2 : (Nat.blt b a && Nat.ble a (b + n * (1 + q))) with
        | true =>
          rw [Bool.and_eq_true, Nat.blt_eq, Nat.ble_eq] at h2
          rw [if_pos h2]
          cases h3 : Nat.beq ((a - b - 1) % (1 + q)) 0 with
          | true => rw [if_pos (Nat.eq_of_beq_eq_true h3)]; rfl
          | false => rw [if_neg (fun e => by rw [e] at h3; cases h3)]; rfl
        | false =>
          rw [h2] at h
          rw [if_neg (fun e => by rw [Nat.blt_eq.mpr e.1, Nat.ble_eq.mpr e.2] at h2; cases h2)]
          exact ih _ h
/-! locals, stacks -/
theorem sycat_ok (xs : Nat → Int32) (v : syV) : (syv xs v).category = sycat v := by
  rcases v with z | j | r | q
  · rfl
  · rfl
  · cases r <;> rfl
  · rfl
theorem syct_ok (xs : Nat → Int32) (st : List syV) : zct (sys xs st) = syct st := by
  unfold zct syct sys
  rw [List.map_map]
  congr 1
  apply List.map_congr_left
  intro v _
  exact sycat_ok xs v
theorem syld_ok (xs : Nat → Int32) (l : syL) (i : Nat) : zld (syl xs l) i = (syld l i).map (syv xs) := by
  induction l with
  | nil => rfl
  | cons q t ih =>
    have e : syld (q :: t) i = cond (Nat.beq q.1 i) (some q.2) (syld t i) := rfl
    rw [e]
    show (((q.1, syv xs q.2) :: syl xs t).find? (fun p => p.1 == i)).map (fun p => p.2) = _
    rw [List.find?_cons]
    cases h : Nat.beq q.1 i with
    | true =>
      have h2 : (q.1 == i) = true := by rw [Nat.eq_of_beq_eq_true h]; exact beq_self_eq_true i
      simp only [h2]; rfl
    | false =>
      have h2 : (q.1 == i) = false := by
        cases hq : (q.1 == i) with
        | false => rfl
        | true => have := eq_of_beq hq; rw [this, Nat.beq_refl] at h; cases h
      simp only [h2]
      exact ih
theorem sydel_ok (xs : Nat → Int32) (l : syL) (i : Nat) : (syl xs l).filter (fun q => !(q.1 == i) && !(q.1 + 1 == i && q.2.category == 2)) = syl xs (sydel l i) := by
  induction l with
  | nil => rfl
  | cons q t ih =>
    have e : sydel (q :: t) i = cond (Nat.beq q.1 i) (sydel t i) (cond (Nat.beq (q.1 + 1) i) (cond (Nat.beq (sycat q.2) 2) (sydel t i) (q :: sydel t i)) (q :: sydel t i)) := rfl
    have b : ∀ (x y : Nat), (x == y) = Nat.beq x y := fun x y => by
      cases h : Nat.beq x y with
      | true => rw [Nat.eq_of_beq_eq_true h]; exact beq_self_eq_true y
      | false =>
        cases hq : (x == y) with
        | false => rfl
        | true => have := eq_of_beq hq; rw [this, Nat.beq_refl] at h; cases h
    rw [e]
    show List.filter _ ((q.1, syv xs q.2) :: syl xs t) = _
    rw [List.filter_cons]
    have e2 : (!((q.1, syv xs q.2).1 == i) && !((q.1, syv xs q.2).1 + 1 == i && (q.1, syv xs q.2).2.category == 2)) = (!(Nat.beq q.1 i) && !(Nat.beq (q.1 + 1) i && Nat.beq (sycat q.2) 2)) := by
      show (!(q.1 == i) && !(q.1 + 1 == i && (syv xs q.2).category == 2)) = _
      rw [sycat_ok, b, b, b]
    rw [e2, ih]
    cases Nat.beq q.1 i <;> cases Nat.beq (q.1 + 1) i <;> cases Nat.beq (sycat q.2) 2 <;> rfl
theorem syst_ok (xs : Nat → Int32) (l : syL) (i : Nat) (v : syV) : zst (syl xs l) i (syv xs v) = syl xs (syst l i v) := by
  unfold zst
  rw [sydel_ok]
  rfl
theorem syarg_ok (xs : Nat → Int32) : ∀ (as : List syV) (i : Nat), lv_args i (sys xs as) = syl xs (syarg i as) := by
  intro as
  induction as with
  | nil => intro i; rfl
  | cons v vs ih =>
    intro i
    show (i, syv xs v) :: lv_args (if (syv xs v).category = 2 then i + 2 else i + 1) (sys xs vs) = _
    rw [sycat_ok, ih]
    rfl
theorem sytake_ok : ∀ (n : Nat) (acc st as tl : List syV), sytake n acc st = some (as, tl) → ∃ w : List syV, st = w ++ tl ∧ as = w.reverse ++ acc ∧ w.length = n := by
  intro n
  induction n with
  | zero =>
    intro acc st as tl h
    have h : some (acc, st) = some (as, tl) := h
    cases h
    exact ⟨[], rfl, rfl, rfl⟩
  | succ n ih =>
    intro acc st as tl h
    cases st with
    | nil => cases h
    | cons v st =>
      obtain ⟨w, h1, h2, h3⟩ := ih (v :: acc) st as tl h
      refine ⟨v :: w, by rw [h1]; rfl, by rw [h2, List.reverse_cons, List.append_assoc]; rfl, by rw [List.length_cons, h3]⟩
theorem sytake_s {xs : Nat → Int32} {n : Nat} {st as tl : List syV} (h : sytake n [] st = some (as, tl)) : sys xs st = (sys xs as).reverse ++ sys xs tl ∧ (sys xs as).length = n := by
  obtain ⟨w, h1, h2, h3⟩ := sytake_ok _ _ _ _ _ h
  rw [List.append_nil] at h2
  subst h2
  unfold sys
  rw [← List.map_reverse, List.reverse_reverse, h1, List.map_append, List.length_map, List.length_reverse]
  exact ⟨rfl, h3⟩
