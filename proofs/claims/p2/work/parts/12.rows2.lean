/-! ===== rows for numbers (nI), truths and the cells ===== -/
def bI (p : Bool) : Int32 := if p then 1 else 0
theorem bI_or (p : Bool) : bI p = 0 ∨ bI p = 1 := by cases p <;> simp [bI]
theorem bI_t {p : Bool} (h : p = true) : bI p = 1 := by subst h; rfl
theorem bI_f {p : Bool} (h : p = false) : bI p = 0 := by subst h; rfl
theorem wi_eq (M : zM) (a k : Nat) (v : Int32) (b j : Nat) : zi (zwi M a k v) b j = if b = a ∧ j = k then v else zi M b j := rfl
theorem wi_s (M : zM) (a k : Nat) (v : Int32) : zi (zwi M a k v) a k = v := by rw [wi_eq, if_pos ⟨rfl, rfl⟩]
theorem wi_n {M : zM} {a k b j : Nat} {v : Int32} (h : b ≠ a ∨ j ≠ k) : zi (zwi M a k v) b j = zi M b j := by rw [wi_eq, if_neg (by omega)]
theorem wr_eq (M : zM) (a k : Nat) (v : Option Nat) (b j : Nat) : zr (zwr M a k v) b j = if b = a ∧ j = k then v else zr M b j := rfl
theorem cp_eq (M : zM) (a0 s a d n b j : Nat) : zi (zcp M a0 s a d n) b j = if b = a ∧ d ≤ j ∧ j < d + n then zi M a0 (s + (j - d)) else zi M b j := rfl
theorem wl_eq (M : zM) (a k : Nat) (v : Int64) (b j : Nat) : zl (zwl M a k v) b j = if b = a ∧ j = k then v else zl M b j := rfl
theorem nI_inj {a b : Nat} (ha : a < 2147483648) (hb : b < 2147483648) (h : nI a = nI b) : a = b := (nI_eq ha hb).mp h
/-- a number that is a place of a row of n -/
def zix (x : Int32) (n : Nat) : Option Nat := if 0 ≤ x.toInt ∧ x.toInt < n then some x.toNatClampNeg else none
theorem zix_in {k n : Nat} (h : k < n) (hn : n ≤ 2147483648) : zix (nI k) n = some k := by
  have h1 : (nI k).toInt = k := nI_toInt (by omega)
  unfold zix; rw [if_pos (by omega), nI_clamp (by omega)]
theorem zix_c (x : Int32) {n : Nat} (hn : n ≤ 2147483648) : (∃ k, k < n ∧ x = nI k ∧ zix x n = some k) ∨ (zix x n = none ∧ ¬ (0 ≤ x.toInt ∧ x.toInt < n)) := by
  by_cases h : 0 ≤ x.toInt ∧ x.toInt < n
  · obtain ⟨k, h2, h3⟩ := nI_of (x := x) (by rw [Int32.lt_iff_toInt_lt]; have : (0 : Int32).toInt = 0 := rfl; omega)
    subst h3
    have h1 : (nI k).toInt = k := nI_toInt h2
    exact Or.inl ⟨k, by omega, rfl, zix_in (by omega) hn⟩
  · exact Or.inr ⟨if_neg h, h⟩
theorem zix_none {x : Int32} {n : Nat} (h : zix x n = none) : ¬ (0 ≤ x.toInt ∧ x.toInt < n) := by
  intro h2; unfold zix at h; rw [if_pos h2] at h; cases h
theorem zix_some {x : Int32} {n k : Nat} (h : zix x n = some k) : k < n ∧ x = nI k := by
  unfold zix at h
  split at h
  · rename_i h2
    obtain ⟨j, h3, h4⟩ := nI_of (x := x) (by rw [Int32.lt_iff_toInt_lt]; have : (0 : Int32).toInt = 0 := rfl; omega)
    subst h4
    have h1 : (nI j).toInt = j := nI_toInt h3
    rw [nI_clamp h3] at h
    cases h
    exact ⟨by omega, rfl⟩
  · cases h
/-- bits -/
theorem s_l : ∀ n, n < 32 → ((nI n &&& 31).toBitVec.smod 32).toNat = n := by decide +kernel
theorem n_or (a b : Nat) : nI a ||| nI b = nI (a ||| b) := by
  apply Int32.toBitVec_inj.1
  show BitVec.ofNat 32 a ||| BitVec.ofNat 32 b = BitVec.ofNat 32 (a ||| b)
  apply BitVec.eq_of_getLsbD_eq
  intro i hi
  simp [hi]
theorem n_and (a b : Nat) : nI a &&& nI b = nI (a &&& b) := by
  apply Int32.toBitVec_inj.1
  show BitVec.ofNat 32 a &&& BitVec.ofNat 32 b = BitVec.ofNat 32 (a &&& b)
  apply BitVec.eq_of_getLsbD_eq
  intro i hi
  simp [hi]
/-- a without b -/
def zdf (a b : Nat) : Nat := a ^^^ (a &&& b)
theorem zdf_bit (a b i : Nat) : (zdf a b).testBit i = (a.testBit i && !b.testBit i) := by
  unfold zdf; rw [Nat.testBit_xor, Nat.testBit_and]; cases a.testBit i <;> cases b.testBit i <;> rfl
theorem n_andn (a b : Nat) : nI a &&& (nI b ^^^ (-1)) = nI (zdf a b) := by
  apply Int32.toBitVec_inj.1
  show BitVec.ofNat 32 a &&& (BitVec.ofNat 32 b ^^^ (-1 : Int32).toBitVec) = BitVec.ofNat 32 (zdf a b)
  have h : (-1 : Int32).toBitVec = BitVec.allOnes 32 := by decide
  rw [h]
  apply BitVec.eq_of_getLsbD_eq
  intro i hi
  rw [BitVec.getLsbD_and, BitVec.getLsbD_xor, BitVec.getLsbD_allOnes, BitVec.getLsbD_ofNat, BitVec.getLsbD_ofNat, BitVec.getLsbD_ofNat, zdf_bit, decide_eq_true hi]
  cases a.testBit i <;> cases b.testBit i <;> rfl
theorem n_shl (a k : Nat) (hk : k < 32) : nI a <<< (nI k &&& 31) = nI (a <<< k) := by
  apply Int32.toBitVec_inj.1
  rw [Int32.toBitVec_shiftLeft]
  show (BitVec.ofNat 32 a <<< ((nI k &&& 31).toBitVec.smod 32).toNat) = BitVec.ofNat 32 (a <<< k)
  rw [s_l k hk]
  apply BitVec.eq_of_getLsbD_eq
  intro i hi
  rw [BitVec.getLsbD_shiftLeft, BitVec.getLsbD_ofNat, BitVec.getLsbD_ofNat, Nat.testBit_shiftLeft, decide_eq_true hi]
  by_cases h : i < k
  · have h2 : ¬ i ≥ k := by omega
    simp [h, h2]
  · have h2 : i ≥ k := by omega
    have h3 : i - k < 32 := by omega
    simp [h, h2, h3]
theorem n_shr {a k : Nat} (ha : a < 2147483648) (hk : k < 32) : nI a >>> (nI k &&& 31) = nI (a >>> k) := by
  rw [pk_shrN ha _ k (s_l k hk), Nat.shiftRight_eq_div_pow]
theorem n_bit {a k : Nat} (ha : a < 2147483648) (hk : k < 32) : nI a >>> (nI k &&& 31) &&& nI 1 = bI (a.testBit k) := by
  rw [n_shr ha hk, n_and]
  have h : a >>> k &&& 1 = if a.testBit k then 1 else 0 := by
    rw [Nat.and_one_is_mod, Nat.testBit_eq_decide_div_mod_eq, Nat.shiftRight_eq_div_pow]
    have := Nat.mod_two_eq_zero_or_one (a / 2 ^ k)
    rcases this with h | h <;> simp [h]
  rw [h]
  cases a.testBit k <;> rfl
theorem pow_lt {k n : Nat} (h : k < n) : 2 ^ k < 2 ^ n := Nat.pow_lt_pow_right (by omega) h
theorem one_shl (k : Nat) : 1 <<< k = 2 ^ k := by rw [Nat.shiftLeft_eq, Nat.one_mul]
section QN
variable {R : zRT} {m : Nat} {Q : Option Value → zM → Prop} {pc n : Nat} {l l' : List (Nat × Value)} {st : List Value} {M : zM}
theorem nc_lt {off : Int} {x y : Nat} (tgt : Nat) (hd : decode (zB m) pc = .ok (.if_icmp .lt off, 3)) (ht : (pc : Int) + off = tgt) (hx : x < 2147483648) (hy : y < 2147483648) (kt : x < y → qW R m Q tgt l st M) (kf : y ≤ x → qW R m Q (pc + 3) l st M) : qW R m Q pc l (.int (nI y) :: .int (nI x) :: st) M :=
  q_icmp tgt hd ht (fun h => kt ((nI_ltI hx hy).mp h)) (fun h => kf (by have h2 := (not_congr (nI_ltI hx hy)).mp h; omega))
theorem n0_lt {off : Int} {x : Nat} (tgt : Nat) (hd : decode (zB m) pc = .ok (.ifCond .lt off, 3)) (ht : (pc : Int) + off = tgt) (hx : x < 2147483648) (kt : x < 0 → qW R m Q tgt l st M) (kf : 0 ≤ x → qW R m Q (pc + 3) l st M) : qW R m Q pc l (.int (nI x) :: st) M :=
  q_if tgt hd ht (fun h => kt ((nI_ltI hx (Nat.le_of_ble_eq_true rfl : 0 < 2 ^ 31)).mp h)) (fun h => kf (by have h2 := (not_congr (nI_ltI hx (Nat.le_of_ble_eq_true rfl : 0 < 2 ^ 31))).mp h; omega))
theorem nc_ge {off : Int} {x y : Nat} (tgt : Nat) (hd : decode (zB m) pc = .ok (.if_icmp .ge off, 3)) (ht : (pc : Int) + off = tgt) (hx : x < 2147483648) (hy : y < 2147483648) (kt : y ≤ x → qW R m Q tgt l st M) (kf : x < y → qW R m Q (pc + 3) l st M) : qW R m Q pc l (.int (nI y) :: .int (nI x) :: st) M :=
  q_icmp tgt hd ht (fun h => kt ((nI_leI hy hx).mp h)) (fun h => kf (by have h2 := (not_congr (nI_leI hy hx)).mp h; omega))
theorem n0_ge {off : Int} {x : Nat} (tgt : Nat) (hd : decode (zB m) pc = .ok (.ifCond .ge off, 3)) (ht : (pc : Int) + off = tgt) (hx : x < 2147483648) (kt : 0 ≤ x → qW R m Q tgt l st M) (kf : x < 0 → qW R m Q (pc + 3) l st M) : qW R m Q pc l (.int (nI x) :: st) M :=
  q_if tgt hd ht (fun h => kt ((nI_leI (Nat.le_of_ble_eq_true rfl : 0 < 2 ^ 31) hx).mp h)) (fun h => kf (by have h2 := (not_congr (nI_leI (Nat.le_of_ble_eq_true rfl : 0 < 2 ^ 31) hx)).mp h; omega))
theorem nc_gt {off : Int} {x y : Nat} (tgt : Nat) (hd : decode (zB m) pc = .ok (.if_icmp .gt off, 3)) (ht : (pc : Int) + off = tgt) (hx : x < 2147483648) (hy : y < 2147483648) (kt : y < x → qW R m Q tgt l st M) (kf : x ≤ y → qW R m Q (pc + 3) l st M) : qW R m Q pc l (.int (nI y) :: .int (nI x) :: st) M :=
  q_icmp tgt hd ht (fun h => kt ((nI_ltI hy hx).mp h)) (fun h => kf (by have h2 := (not_congr (nI_ltI hy hx)).mp h; omega))
theorem n0_gt {off : Int} {x : Nat} (tgt : Nat) (hd : decode (zB m) pc = .ok (.ifCond .gt off, 3)) (ht : (pc : Int) + off = tgt) (hx : x < 2147483648) (kt : 0 < x → qW R m Q tgt l st M) (kf : x ≤ 0 → qW R m Q (pc + 3) l st M) : qW R m Q pc l (.int (nI x) :: st) M :=
  q_if tgt hd ht (fun h => kt ((nI_ltI (Nat.le_of_ble_eq_true rfl : 0 < 2 ^ 31) hx).mp h)) (fun h => kf (by have h2 := (not_congr (nI_ltI (Nat.le_of_ble_eq_true rfl : 0 < 2 ^ 31) hx)).mp h; omega))
theorem nc_le {off : Int} {x y : Nat} (tgt : Nat) (hd : decode (zB m) pc = .ok (.if_icmp .le off, 3)) (ht : (pc : Int) + off = tgt) (hx : x < 2147483648) (hy : y < 2147483648) (kt : x ≤ y → qW R m Q tgt l st M) (kf : y < x → qW R m Q (pc + 3) l st M) : qW R m Q pc l (.int (nI y) :: .int (nI x) :: st) M :=
  q_icmp tgt hd ht (fun h => kt ((nI_leI hx hy).mp h)) (fun h => kf (by have h2 := (not_congr (nI_leI hx hy)).mp h; omega))
theorem n0_le {off : Int} {x : Nat} (tgt : Nat) (hd : decode (zB m) pc = .ok (.ifCond .le off, 3)) (ht : (pc : Int) + off = tgt) (hx : x < 2147483648) (kt : x ≤ 0 → qW R m Q tgt l st M) (kf : 0 < x → qW R m Q (pc + 3) l st M) : qW R m Q pc l (.int (nI x) :: st) M :=
  q_if tgt hd ht (fun h => kt ((nI_leI hx (Nat.le_of_ble_eq_true rfl : 0 < 2 ^ 31)).mp h)) (fun h => kf (by have h2 := (not_congr (nI_leI hx (Nat.le_of_ble_eq_true rfl : 0 < 2 ^ 31))).mp h; omega))
theorem nc_eq {off : Int} {x y : Nat} (tgt : Nat) (hd : decode (zB m) pc = .ok (.if_icmp .eq off, 3)) (ht : (pc : Int) + off = tgt) (hx : x < 2147483648) (hy : y < 2147483648) (kt : x = y → qW R m Q tgt l st M) (kf : ¬ x = y → qW R m Q (pc + 3) l st M) : qW R m Q pc l (.int (nI y) :: .int (nI x) :: st) M :=
  q_icmp tgt hd ht (fun h => kt ((nI_eq hx hy).mp h)) (fun h => kf (by have h2 := (not_congr (nI_eq hx hy)).mp h; omega))
theorem n0_eq {off : Int} {x : Nat} (tgt : Nat) (hd : decode (zB m) pc = .ok (.ifCond .eq off, 3)) (ht : (pc : Int) + off = tgt) (hx : x < 2147483648) (kt : x = 0 → qW R m Q tgt l st M) (kf : ¬ x = 0 → qW R m Q (pc + 3) l st M) : qW R m Q pc l (.int (nI x) :: st) M :=
  q_if tgt hd ht (fun h => kt ((nI_eq hx (Nat.le_of_ble_eq_true rfl : 0 < 2 ^ 31)).mp h)) (fun h => kf (by have h2 := (not_congr (nI_eq hx (Nat.le_of_ble_eq_true rfl : 0 < 2 ^ 31))).mp h; omega))
theorem nc_ne {off : Int} {x y : Nat} (tgt : Nat) (hd : decode (zB m) pc = .ok (.if_icmp .ne off, 3)) (ht : (pc : Int) + off = tgt) (hx : x < 2147483648) (hy : y < 2147483648) (kt : ¬ x = y → qW R m Q tgt l st M) (kf : x = y → qW R m Q (pc + 3) l st M) : qW R m Q pc l (.int (nI y) :: .int (nI x) :: st) M :=
  q_icmp tgt hd ht (fun h => kt (fun e => h (congrArg nI e))) (fun h => kf ((nI_eq hx hy).mp (Classical.not_not.mp h)))
theorem n0_ne {off : Int} {x : Nat} (tgt : Nat) (hd : decode (zB m) pc = .ok (.ifCond .ne off, 3)) (ht : (pc : Int) + off = tgt) (hx : x < 2147483648) (kt : ¬ x = 0 → qW R m Q tgt l st M) (kf : x = 0 → qW R m Q (pc + 3) l st M) : qW R m Q pc l (.int (nI x) :: st) M :=
  q_if tgt hd ht (fun h => kt (fun e => h (congrArg nI e))) (fun h => kf ((nI_eq (b := 0) hx (by omega)).mp (Classical.not_not.mp h)))
theorem ic_lt {off : Int} {x y : Int32} (tgt : Nat) (hd : decode (zB m) pc = .ok (.if_icmp .lt off, 3)) (ht : (pc : Int) + off = tgt) (kt : x < y → qW R m Q tgt l st M) (kf : ¬ x < y → qW R m Q (pc + 3) l st M) : qW R m Q pc l (.int y :: .int x :: st) M := q_icmp tgt hd ht kt kf
theorem i0_lt {off : Int} {x : Int32} (tgt : Nat) (hd : decode (zB m) pc = .ok (.ifCond .lt off, 3)) (ht : (pc : Int) + off = tgt) (kt : x < 0 → qW R m Q tgt l st M) (kf : ¬ x < 0 → qW R m Q (pc + 3) l st M) : qW R m Q pc l (.int x :: st) M := q_if tgt hd ht kt kf
theorem ic_ge {off : Int} {x y : Int32} (tgt : Nat) (hd : decode (zB m) pc = .ok (.if_icmp .ge off, 3)) (ht : (pc : Int) + off = tgt) (kt : y ≤ x → qW R m Q tgt l st M) (kf : ¬ y ≤ x → qW R m Q (pc + 3) l st M) : qW R m Q pc l (.int y :: .int x :: st) M := q_icmp tgt hd ht kt kf
theorem i0_ge {off : Int} {x : Int32} (tgt : Nat) (hd : decode (zB m) pc = .ok (.ifCond .ge off, 3)) (ht : (pc : Int) + off = tgt) (kt : 0 ≤ x → qW R m Q tgt l st M) (kf : ¬ 0 ≤ x → qW R m Q (pc + 3) l st M) : qW R m Q pc l (.int x :: st) M := q_if tgt hd ht kt kf
theorem ic_gt {off : Int} {x y : Int32} (tgt : Nat) (hd : decode (zB m) pc = .ok (.if_icmp .gt off, 3)) (ht : (pc : Int) + off = tgt) (kt : y < x → qW R m Q tgt l st M) (kf : ¬ y < x → qW R m Q (pc + 3) l st M) : qW R m Q pc l (.int y :: .int x :: st) M := q_icmp tgt hd ht kt kf
theorem i0_gt {off : Int} {x : Int32} (tgt : Nat) (hd : decode (zB m) pc = .ok (.ifCond .gt off, 3)) (ht : (pc : Int) + off = tgt) (kt : 0 < x → qW R m Q tgt l st M) (kf : ¬ 0 < x → qW R m Q (pc + 3) l st M) : qW R m Q pc l (.int x :: st) M := q_if tgt hd ht kt kf
theorem ic_le {off : Int} {x y : Int32} (tgt : Nat) (hd : decode (zB m) pc = .ok (.if_icmp .le off, 3)) (ht : (pc : Int) + off = tgt) (kt : x ≤ y → qW R m Q tgt l st M) (kf : ¬ x ≤ y → qW R m Q (pc + 3) l st M) : qW R m Q pc l (.int y :: .int x :: st) M := q_icmp tgt hd ht kt kf
theorem i0_le {off : Int} {x : Int32} (tgt : Nat) (hd : decode (zB m) pc = .ok (.ifCond .le off, 3)) (ht : (pc : Int) + off = tgt) (kt : x ≤ 0 → qW R m Q tgt l st M) (kf : ¬ x ≤ 0 → qW R m Q (pc + 3) l st M) : qW R m Q pc l (.int x :: st) M := q_if tgt hd ht kt kf
theorem ic_eq {off : Int} {x y : Int32} (tgt : Nat) (hd : decode (zB m) pc = .ok (.if_icmp .eq off, 3)) (ht : (pc : Int) + off = tgt) (kt : x = y → qW R m Q tgt l st M) (kf : ¬ x = y → qW R m Q (pc + 3) l st M) : qW R m Q pc l (.int y :: .int x :: st) M := q_icmp tgt hd ht kt kf
theorem i0_eq {off : Int} {x : Int32} (tgt : Nat) (hd : decode (zB m) pc = .ok (.ifCond .eq off, 3)) (ht : (pc : Int) + off = tgt) (kt : x = 0 → qW R m Q tgt l st M) (kf : ¬ x = 0 → qW R m Q (pc + 3) l st M) : qW R m Q pc l (.int x :: st) M := q_if tgt hd ht kt kf
theorem ic_ne {off : Int} {x y : Int32} (tgt : Nat) (hd : decode (zB m) pc = .ok (.if_icmp .ne off, 3)) (ht : (pc : Int) + off = tgt) (kt : ¬ x = y → qW R m Q tgt l st M) (kf : x = y → qW R m Q (pc + 3) l st M) : qW R m Q pc l (.int y :: .int x :: st) M := q_icmp tgt hd ht kt (fun h => kf (Classical.not_not.mp h))
theorem i0_ne {off : Int} {x : Int32} (tgt : Nat) (hd : decode (zB m) pc = .ok (.ifCond .ne off, 3)) (ht : (pc : Int) + off = tgt) (kt : ¬ x = 0 → qW R m Q tgt l st M) (kf : x = 0 → qW R m Q (pc + 3) l st M) : qW R m Q pc l (.int x :: st) M := q_if tgt hd ht kt (fun h => kf (Classical.not_not.mp h))
theorem b0_eq {off : Int} {p : Bool} (tgt : Nat) (hd : decode (zB m) pc = .ok (.ifCond .eq off, 3)) (ht : (pc : Int) + off = tgt) (kt : p = false → qW R m Q tgt l st M) (kf : p = true → qW R m Q (pc + 3) l st M) : qW R m Q pc l (.int (bI p) :: st) M := by
  cases p
  · exact q_if tgt hd ht (fun _ => kt rfl) (fun h => absurd rfl h)
  · exact q_if tgt hd ht (fun h => absurd h (show ¬ (1 : Int32) = 0 by decide)) (fun _ => kf rfl)
theorem b0_ne {off : Int} {p : Bool} (tgt : Nat) (hd : decode (zB m) pc = .ok (.ifCond .ne off, 3)) (ht : (pc : Int) + off = tgt) (kt : p = true → qW R m Q tgt l st M) (kf : p = false → qW R m Q (pc + 3) l st M) : qW R m Q pc l (.int (bI p) :: st) M := by
  cases p
  · exact q_if tgt hd ht (fun h => absurd rfl h) (fun _ => kf rfl)
  · exact q_if tgt hd ht (fun _ => kt rfl) (fun h => absurd (by decide : ¬ (1 : Int32) = 0) h)
theorem q_iconstN {z : Nat} (hd : decode (zB m) pc = .ok (.iconst (z : Int), 1)) (k : qW R m Q (pc + 1) l (.int (nI z) :: st) M) : qW R m Q pc l st M :=
  q_iconst hd Int32.ofInt_eq_ofNat k
theorem n_iinc {j x : Nat} (z : Nat) (hd : decode (zB m) pc = .ok (.iinc j (z : Int), 3)) (hj : j < zML m) (hx : zld l j = some (.int (nI x))) (hl : zst l j (.int (nI (x + z))) = l') (k : qW R m Q (pc + 3) l' st M) : qW R m Q pc l st M :=
  q_iinc hd hj hx (by rw [Int32.ofInt_eq_ofNat]; exact nI_add x z) hl k
theorem n_iadd {x y : Nat} (hd : decode (zB m) pc = .ok (.iadd, 1)) (k : qW R m Q (pc + 1) l (.int (nI (x + y)) :: st) M) : qW R m Q pc l (.int (nI y) :: .int (nI x) :: st) M :=
  q_iadd hd (by rw [nI_add]; exact k)
theorem n_isub {x y : Nat} (hd : decode (zB m) pc = .ok (.isub, 1)) (h : y ≤ x) (k : qW R m Q (pc + 1) l (.int (nI (x - y)) :: st) M) : qW R m Q pc l (.int (nI y) :: .int (nI x) :: st) M :=
  q_isub hd (by rw [pk_sub h]; exact k)
theorem n_imul {x y : Nat} (hd : decode (zB m) pc = .ok (.imul, 1)) (k : qW R m Q (pc + 1) l (.int (nI (x * y)) :: st) M) : qW R m Q pc l (.int (nI y) :: .int (nI x) :: st) M :=
  q_imul hd (by rw [pk_mul]; exact k)
theorem n_idiv {x y : Nat} (hd : decode (zB m) pc = .ok (.idiv, 1)) (hx : x < 2147483648) (h0 : 0 < y) (hy : y < 2147483648) (k : qW R m Q (pc + 1) l (.int (nI (x / y)) :: st) M) : qW R m Q pc l (.int (nI y) :: .int (nI x) :: st) M :=
  q_idiv hd (nI_ne0 h0 hy) (by rw [pk_div hx h0 hy]; exact k)
theorem n_irem {x y : Nat} (hd : decode (zB m) pc = .ok (.irem, 1)) (hx : x < 2147483648) (h0 : 0 < y) (hy : y < 2147483648) (k : qW R m Q (pc + 1) l (.int (nI (x % y)) :: st) M) : qW R m Q pc l (.int (nI y) :: .int (nI x) :: st) M :=
  q_irem hd (nI_ne0 h0 hy) (by rw [pk_rem hx h0 hy]; exact k)
theorem n_iand {x y : Nat} (hd : decode (zB m) pc = .ok (.iand, 1)) (k : qW R m Q (pc + 1) l (.int (nI (x &&& y)) :: st) M) : qW R m Q pc l (.int (nI y) :: .int (nI x) :: st) M :=
  q_iand hd (by rw [n_and]; exact k)
theorem n_ior {x y : Nat} (hd : decode (zB m) pc = .ok (.ior, 1)) (k : qW R m Q (pc + 1) l (.int (nI (x ||| y)) :: st) M) : qW R m Q pc l (.int (nI y) :: .int (nI x) :: st) M :=
  q_ior hd (by rw [n_or]; exact k)
theorem n_iandn {x y : Nat} (hd : decode (zB m) pc = .ok (.iand, 1)) (k : qW R m Q (pc + 1) l (.int (nI (zdf x y)) :: st) M) : qW R m Q pc l (.int (nI y ^^^ (-1)) :: .int (nI x) :: st) M :=
  q_iand hd (by rw [n_andn]; exact k)
theorem n_ishl1 {y : Nat} (hd : decode (zB m) pc = .ok (.ishl, 1)) (hy : y < 32) (k : qW R m Q (pc + 1) l (.int (nI (2 ^ y)) :: st) M) : qW R m Q pc l (.int (nI y) :: .int (nI 1) :: st) M :=
  q_ishl hd (by rw [n_shl 1 y hy, one_shl]; exact k)
theorem n_iald {a N j : Nat} {x : Int32} (hd : decode (zB m) pc = .ok (.iaload, 1)) (hk : zk M a = (20, N)) (hj : j < N) (hN : N < 2147483648) (hx : zi M a j = x) (k : qW R m Q (pc + 1) l (.int x :: st) M) : qW R m Q pc l (.int (nI j) :: .ref a :: st) M :=
  q_iald hd (Or.inl hk) (vp_in_nI hj hN) (by rw [nI_clamp (Nat.lt_trans hj hN)]; exact hx) k
theorem n_ialds {a N j : Nat} {x : Int32} (hd : decode (zB m) pc = .ok (.iaload, 1)) (hk : a < 3 ∧ zk M a = (30, N)) (hj : j < N) (hN : N < 2147483648) (hx : zi M a j = x) (k : qW R m Q (pc + 1) l (.int x :: st) M) : qW R m Q pc l (.int (nI j) :: .ref a :: st) M :=
  q_iald hd (Or.inr hk) (vp_in_nI hj hN) (by rw [nI_clamp (Nat.lt_trans hj hN)]; exact hx) k
theorem n_lald {a N j : Nat} {x : Int64} (hd : decode (zB m) pc = .ok (.laload, 1)) (hk : zk M a = (21, N)) (hj : j < N) (hN : N < 2147483648) (hx : zl M a j = x) (k : qW R m Q (pc + 1) l (.long x :: st) M) : qW R m Q pc l (.int (nI j) :: .ref a :: st) M :=
  q_lald hd hk (vp_in_nI hj hN) (by rw [nI_clamp (Nat.lt_trans hj hN)]; exact hx) k
theorem n_aald {a t N j : Nat} {r : Option Nat} (hd : decode (zB m) pc = .ok (.aaload, 1)) (hk : zk M a = (t, N)) (ht : 22 ≤ t ∧ t < 27) (hj : j < N) (hN : N < 2147483648) (hr : zr M a j = r) (k : qW R m Q (pc + 1) l (va_rf r :: st) M) : qW R m Q pc l (.int (nI j) :: .ref a :: st) M :=
  q_aald hd hk ht (vp_in_nI hj hN) (by rw [nI_clamp (Nat.lt_trans hj hN)]; exact hr) k
theorem n_iast {a N j : Nat} {x : Int32} (hd : decode (zB m) pc = .ok (.iastore, 1)) (hk : zk M a = (20, N)) (hj : j < N) (hN : N < 2147483648) (k : qW R m Q (pc + 1) l st (zwi M a j x)) : qW R m Q pc l (.int x :: .int (nI j) :: .ref a :: st) M :=
  q_iast hd hk (vp_in_nI hj hN) (by rw [nI_clamp (Nat.lt_trans hj hN)]; exact k)
theorem n_last {a N j : Nat} {x : Int64} (hd : decode (zB m) pc = .ok (.lastore, 1)) (hk : zk M a = (21, N)) (hj : j < N) (hN : N < 2147483648) (k : qW R m Q (pc + 1) l st (zwl M a j x)) : qW R m Q pc l (.long x :: .int (nI j) :: .ref a :: st) M :=
  q_last hd hk (vp_in_nI hj hN) (by rw [nI_clamp (Nat.lt_trans hj hN)]; exact k)
theorem n_alen {a N : Nat} (hd : decode (zB m) pc = .ok (.arraylength, 1)) (hk : zk M a = (20, N) ∨ zk M a = (21, N)) (k : qW R m Q (pc + 1) l (.int (nI N) :: st) M) : qW R m Q pc l (.ref a :: st) M :=
  q_alen hd (by rcases hk with h | h; exact Or.inl h; exact Or.inr (Or.inl h)) k
theorem n_copy {ix y a a0 n0 n1 N dp sp : Nat} (hd : decode (zB m) pc = .ok (.invokestatic ix, 3)) (hc : zCall (zO m) ix = some (7, y)) (h0 : zk M a0 = (20, n0)) (h1 : zk M a = (20, n1)) (b0 : n0 < 2147483648) (b1 : n1 < 2147483648) (e0 : sp + N ≤ n0) (e1 : dp + N ≤ n1) (h8 : zct st ≤ 8)
    (k : qW R m Q (pc + 3) l st (zcp M a0 sp a dp N)) : qW R m Q pc l (.int (nI N) :: .int (nI dp) :: .ref a :: .int (nI sp) :: .ref a0 :: st) M :=
  q_copy hd hc h0 h1 (nI_pos (by omega)) (nI_pos (by omega)) (nI_pos (by omega)) (by rw [nI_clamp (by omega), nI_clamp (by omega)]; exact e0) (by rw [nI_clamp (by omega), nI_clamp (by omega)]; exact e1) h8 (by rw [nI_clamp (by omega), nI_clamp (by omega), nI_clamp (by omega)]; exact k)
theorem q_getv {ix a c f : Nat} {x : Int32} (hd : decode (zB m) pc = .ok (.getfield ix, 3)) (hf : zFld (zO m) ix = some (c, f) ∧ zF c f ≠ 1) (hk : zk M a = (c, 0)) (hx : zi M a f = x) (k : qW R m Q (pc + 3) l (.int x :: st) M) : qW R m Q pc l (.ref a :: st) M := by
  subst hx; exact q_geti hd hf hk k
theorem n_ret {x : Nat} (hd : decode (zB m) pc = .ok (.ireturn, 1)) (hk : zRk m = 1) (h : Q (some (.int (nI x))) M) : qW R m Q pc l [.int (nI x)] M := q_iret hd hk h
theorem b_ret {p : Bool} (hd : decode (zB m) pc = .ok (.ireturn, 1)) (hk : zRk m = 2) (h : Q (some (.int (bI p))) M) : qW R m Q pc l [.int (bI p)] M := q_zret hd hk (bI_or p) h
theorem n_tsI {d lo hi : Int} {offs : Array Int} {x : Nat} (off : Int) (tgt : Nat) (hd : decode (zB m) pc = .ok (.tableswitch d lo hi offs, n)) (hx : x < 2147483648) (h : lo ≤ x ∧ (x : Int) ≤ hi) (ho : offs[((x : Int) - lo).toNat]? = some off) (ht : (pc : Int) + off = tgt) (k : qW R m Q tgt l st M) : qW R m Q pc l (.int (nI x) :: st) M :=
  q_tsI off tgt hd (by rw [nI_toInt hx]; omega) (by rw [nI_toInt hx]; exact ho) ht k
theorem n_tsO {d lo hi : Int} {offs : Array Int} {x : Nat} (tgt : Nat) (hd : decode (zB m) pc = .ok (.tableswitch d lo hi offs, n)) (hx : x < 2147483648) (h : (x : Int) < lo ∨ hi < x) (ht : (pc : Int) + d = tgt) (k : qW R m Q tgt l st M) : qW R m Q pc l (.int (nI x) :: st) M :=
  q_tsO tgt hd (by rw [nI_toInt hx]; omega) ht k
end QN
/-- cells that a run leaves as they are: all but those of S -/
def Fr (S : Nat → Nat → Prop) (M M' : zM) : Prop := (∀ a k, ¬ S a k → zi M' a k = zi M a k ∧ zr M' a k = zr M a k) ∧ zl M' = zl M ∧ zk M' = zk M ∧ zn M' = zn M ∧ zs M' = zs M
theorem Fr.refl (S : Nat → Nat → Prop) (M : zM) : Fr S M M := ⟨fun _ _ _ => ⟨rfl, rfl⟩, rfl, rfl, rfl, rfl⟩
theorem Fr.mono {S S' : Nat → Nat → Prop} {M M' : zM} (h : Fr S M M') (hs : ∀ a k, S a k → S' a k) : Fr S' M M' := ⟨fun a k q => h.1 a k (fun p => q (hs a k p)), h.2⟩
theorem Fr.trans {S : Nat → Nat → Prop} {M M' M'' : zM} (h : Fr S M M') (g : Fr S M' M'') : Fr S M M'' :=
  ⟨fun a k q => ⟨((g.1 a k q).1).trans (h.1 a k q).1, ((g.1 a k q).2).trans (h.1 a k q).2⟩, g.2.1.trans h.2.1, g.2.2.1.trans h.2.2.1, g.2.2.2.1.trans h.2.2.2.1, g.2.2.2.2.trans h.2.2.2.2⟩
theorem Fr.wi {S : Nat → Nat → Prop} {M M' : zM} {a k : Nat} {v : Int32} (h : Fr S M M') (hs : S a k) : Fr S M (zwi M' a k v) :=
  ⟨fun b j q => ⟨by rw [wi_n]; exact (h.1 b j q).1; by_cases e : b = a; (subst e; by_cases e2 : j = k; (subst e2; exact absurd hs q); exact Or.inr e2); exact Or.inl e, (h.1 b j q).2⟩, h.2⟩
theorem Fr.wr {S : Nat → Nat → Prop} {M M' : zM} {a k : Nat} {v : Option Nat} (h : Fr S M M') (hs : S a k) : Fr S M (zwr M' a k v) :=
  ⟨fun b j q => ⟨(h.1 b j q).1, by rw [wr_eq, if_neg (by rintro ⟨rfl, rfl⟩; exact q hs)]; exact (h.1 b j q).2⟩, h.2⟩
theorem Fr.cp {S : Nat → Nat → Prop} {M M' : zM} {a0 s a d n : Nat} (h : Fr S M M') (hs : ∀ j, d ≤ j → j < d + n → S a j) : Fr S M (zcp M' a0 s a d n) :=
  ⟨fun b j q => ⟨by rw [cp_eq, if_neg (by rintro ⟨rfl, h1, h2⟩; exact q (hs j h1 h2))]; exact (h.1 b j q).1, (h.1 b j q).2⟩, h.2⟩
theorem Fr.i {S : Nat → Nat → Prop} {M M' : zM} (h : Fr S M M') {a k : Nat} (hs : ¬ S a k) : zi M' a k = zi M a k := (h.1 a k hs).1
theorem Fr.r {S : Nat → Nat → Prop} {M M' : zM} (h : Fr S M M') {a k : Nat} (hs : ¬ S a k) : zr M' a k = zr M a k := (h.1 a k hs).2
theorem Fr.k {S : Nat → Nat → Prop} {M M' : zM} (h : Fr S M M') (a : Nat) : zk M' a = zk M a := congrFun h.2.2.1 a
theorem Fr.l {S : Nat → Nat → Prop} {M M' : zM} (h : Fr S M M') : zl M' = zl M := h.2.1
theorem q_s0 {d m pc ix y : Nat} {Q : Option Value → zM → Prop} {l : List (Nat × Value)} {st : List Value} {M : zM} (hd : decode (zB m) pc = .ok (.invokestatic ix, 3)) (hc : zCall (zO m) ix = some (1, y) ∨ zCall (zO m) ix = some (4, y)) (hn : 0 = zA y) (h8 : zct st ≤ 8) (h : qC d y [] M (fun w M1 => qW (zEv d) m Q (pc + 3) l (w.toList ++ st) M1)) : qW (zEv d) m Q pc l (st) M := by
  obtain ⟨w, M1, h1, h2⟩ := h
  exact q_static (as := []) hd hc hn h1 h8 h2
theorem q_v0 {b : Nat} {d m pc ix y : Nat} {Q : Option Value → zM → Prop} {l : List (Nat × Value)} {st : List Value} {M : zM} (hd : decode (zB m) pc = .ok (.invokevirtual ix, 3)) (hc : zCall (zO m) ix = some (0, y)) (hn : 0 = zA y) (hk : zk M b = (zO y, 0)) (h8 : zct st ≤ 8) (h : qC d y [.ref b] M (fun w M1 => qW (zEv d) m Q (pc + 3) l (w.toList ++ st) M1)) : qW (zEv d) m Q pc l (.ref b :: st) M := by
  obtain ⟨w, M1, h1, h2⟩ := h
  exact q_virt (as := []) hd hc hn hk h1 h8 h2
theorem q_i0 {b : Nat} {d m pc ix y : Nat} {Q : Option Value → zM → Prop} {l : List (Nat × Value)} {st : List Value} {M : zM} (hd : decode (zB m) pc = .ok (.invokespecial ix, 3)) (hc : zCall (zO m) ix = some (2, y) ∨ zCall (zO m) ix = some (5, y)) (hn : 0 = zA y) (hk : zRk y = 0) (h8 : zct st ≤ 8) (h : qC d y [.ref b] M (fun w M1 => qW (zEv d) m Q (pc + 3) l (w.toList ++ st) M1)) : qW (zEv d) m Q pc l (.ref b :: st) M := by
  obtain ⟨w, M1, h1, h2⟩ := h
  exact q_spec (as := []) hd hc hn hk h1 h8 h2
theorem q_t0 {b : Nat} {d m pc ix y : Nat} {Q : Option Value → zM → Prop} {l : List (Nat × Value)} {st : List Value} {M : zM} (hd : decode (zB m) pc = .ok (.invokevirtual ix, 3)) (hc : zCall (zO m) ix = some (8, y) ∨ zCall (zO m) ix = some (9, y)) (h8 : zct st ≤ 8) (h : qC d y [.ref b] M (fun w M1 => qW (zEv d) m Q (pc + 3) l (w.toList ++ st) M1)) : qW (zEv d) m Q pc l (.ref b :: st) M := by
  obtain ⟨w, M1, h1, h2⟩ := h
  exact q_str (as := []) hd hc h1 h8 h2
theorem q_s1 {d m pc ix y : Nat} {Q : Option Value → zM → Prop} {l : List (Nat × Value)} {st : List Value} {M : zM} {a0 : Value} (hd : decode (zB m) pc = .ok (.invokestatic ix, 3)) (hc : zCall (zO m) ix = some (1, y) ∨ zCall (zO m) ix = some (4, y)) (hn : 1 = zA y) (h8 : zct st ≤ 8) (h : qC d y [a0] M (fun w M1 => qW (zEv d) m Q (pc + 3) l (w.toList ++ st) M1)) : qW (zEv d) m Q pc l (a0 :: st) M := by
  obtain ⟨w, M1, h1, h2⟩ := h
  exact q_static (as := [a0]) hd hc hn h1 h8 h2
theorem q_v1 {b : Nat} {d m pc ix y : Nat} {Q : Option Value → zM → Prop} {l : List (Nat × Value)} {st : List Value} {M : zM} {a0 : Value} (hd : decode (zB m) pc = .ok (.invokevirtual ix, 3)) (hc : zCall (zO m) ix = some (0, y)) (hn : 1 = zA y) (hk : zk M b = (zO y, 0)) (h8 : zct st ≤ 8) (h : qC d y [.ref b, a0] M (fun w M1 => qW (zEv d) m Q (pc + 3) l (w.toList ++ st) M1)) : qW (zEv d) m Q pc l (a0 :: .ref b :: st) M := by
  obtain ⟨w, M1, h1, h2⟩ := h
  exact q_virt (as := [a0]) hd hc hn hk h1 h8 h2
theorem q_i1 {b : Nat} {d m pc ix y : Nat} {Q : Option Value → zM → Prop} {l : List (Nat × Value)} {st : List Value} {M : zM} {a0 : Value} (hd : decode (zB m) pc = .ok (.invokespecial ix, 3)) (hc : zCall (zO m) ix = some (2, y) ∨ zCall (zO m) ix = some (5, y)) (hn : 1 = zA y) (hk : zRk y = 0) (h8 : zct st ≤ 8) (h : qC d y [.ref b, a0] M (fun w M1 => qW (zEv d) m Q (pc + 3) l (w.toList ++ st) M1)) : qW (zEv d) m Q pc l (a0 :: .ref b :: st) M := by
  obtain ⟨w, M1, h1, h2⟩ := h
  exact q_spec (as := [a0]) hd hc hn hk h1 h8 h2
theorem q_t1 {b : Nat} {d m pc ix y : Nat} {Q : Option Value → zM → Prop} {l : List (Nat × Value)} {st : List Value} {M : zM} {a0 : Value} (hd : decode (zB m) pc = .ok (.invokevirtual ix, 3)) (hc : zCall (zO m) ix = some (8, y) ∨ zCall (zO m) ix = some (9, y)) (h8 : zct st ≤ 8) (h : qC d y [.ref b, a0] M (fun w M1 => qW (zEv d) m Q (pc + 3) l (w.toList ++ st) M1)) : qW (zEv d) m Q pc l (a0 :: .ref b :: st) M := by
  obtain ⟨w, M1, h1, h2⟩ := h
  exact q_str (as := [a0]) hd hc h1 h8 h2
theorem q_s2 {d m pc ix y : Nat} {Q : Option Value → zM → Prop} {l : List (Nat × Value)} {st : List Value} {M : zM} {a0 a1 : Value} (hd : decode (zB m) pc = .ok (.invokestatic ix, 3)) (hc : zCall (zO m) ix = some (1, y) ∨ zCall (zO m) ix = some (4, y)) (hn : 2 = zA y) (h8 : zct st ≤ 8) (h : qC d y [a0, a1] M (fun w M1 => qW (zEv d) m Q (pc + 3) l (w.toList ++ st) M1)) : qW (zEv d) m Q pc l (a1 :: a0 :: st) M := by
  obtain ⟨w, M1, h1, h2⟩ := h
  exact q_static (as := [a0, a1]) hd hc hn h1 h8 h2
theorem q_v2 {b : Nat} {d m pc ix y : Nat} {Q : Option Value → zM → Prop} {l : List (Nat × Value)} {st : List Value} {M : zM} {a0 a1 : Value} (hd : decode (zB m) pc = .ok (.invokevirtual ix, 3)) (hc : zCall (zO m) ix = some (0, y)) (hn : 2 = zA y) (hk : zk M b = (zO y, 0)) (h8 : zct st ≤ 8) (h : qC d y [.ref b, a0, a1] M (fun w M1 => qW (zEv d) m Q (pc + 3) l (w.toList ++ st) M1)) : qW (zEv d) m Q pc l (a1 :: a0 :: .ref b :: st) M := by
  obtain ⟨w, M1, h1, h2⟩ := h
  exact q_virt (as := [a0, a1]) hd hc hn hk h1 h8 h2
theorem q_i2 {b : Nat} {d m pc ix y : Nat} {Q : Option Value → zM → Prop} {l : List (Nat × Value)} {st : List Value} {M : zM} {a0 a1 : Value} (hd : decode (zB m) pc = .ok (.invokespecial ix, 3)) (hc : zCall (zO m) ix = some (2, y) ∨ zCall (zO m) ix = some (5, y)) (hn : 2 = zA y) (hk : zRk y = 0) (h8 : zct st ≤ 8) (h : qC d y [.ref b, a0, a1] M (fun w M1 => qW (zEv d) m Q (pc + 3) l (w.toList ++ st) M1)) : qW (zEv d) m Q pc l (a1 :: a0 :: .ref b :: st) M := by
  obtain ⟨w, M1, h1, h2⟩ := h
  exact q_spec (as := [a0, a1]) hd hc hn hk h1 h8 h2
theorem q_s3 {d m pc ix y : Nat} {Q : Option Value → zM → Prop} {l : List (Nat × Value)} {st : List Value} {M : zM} {a0 a1 a2 : Value} (hd : decode (zB m) pc = .ok (.invokestatic ix, 3)) (hc : zCall (zO m) ix = some (1, y) ∨ zCall (zO m) ix = some (4, y)) (hn : 3 = zA y) (h8 : zct st ≤ 8) (h : qC d y [a0, a1, a2] M (fun w M1 => qW (zEv d) m Q (pc + 3) l (w.toList ++ st) M1)) : qW (zEv d) m Q pc l (a2 :: a1 :: a0 :: st) M := by
  obtain ⟨w, M1, h1, h2⟩ := h
  exact q_static (as := [a0, a1, a2]) hd hc hn h1 h8 h2
theorem q_v3 {b : Nat} {d m pc ix y : Nat} {Q : Option Value → zM → Prop} {l : List (Nat × Value)} {st : List Value} {M : zM} {a0 a1 a2 : Value} (hd : decode (zB m) pc = .ok (.invokevirtual ix, 3)) (hc : zCall (zO m) ix = some (0, y)) (hn : 3 = zA y) (hk : zk M b = (zO y, 0)) (h8 : zct st ≤ 8) (h : qC d y [.ref b, a0, a1, a2] M (fun w M1 => qW (zEv d) m Q (pc + 3) l (w.toList ++ st) M1)) : qW (zEv d) m Q pc l (a2 :: a1 :: a0 :: .ref b :: st) M := by
  obtain ⟨w, M1, h1, h2⟩ := h
  exact q_virt (as := [a0, a1, a2]) hd hc hn hk h1 h8 h2
theorem q_i3 {b : Nat} {d m pc ix y : Nat} {Q : Option Value → zM → Prop} {l : List (Nat × Value)} {st : List Value} {M : zM} {a0 a1 a2 : Value} (hd : decode (zB m) pc = .ok (.invokespecial ix, 3)) (hc : zCall (zO m) ix = some (2, y) ∨ zCall (zO m) ix = some (5, y)) (hn : 3 = zA y) (hk : zRk y = 0) (h8 : zct st ≤ 8) (h : qC d y [.ref b, a0, a1, a2] M (fun w M1 => qW (zEv d) m Q (pc + 3) l (w.toList ++ st) M1)) : qW (zEv d) m Q pc l (a2 :: a1 :: a0 :: .ref b :: st) M := by
  obtain ⟨w, M1, h1, h2⟩ := h
  exact q_spec (as := [a0, a1, a2]) hd hc hn hk h1 h8 h2
theorem q_s4 {d m pc ix y : Nat} {Q : Option Value → zM → Prop} {l : List (Nat × Value)} {st : List Value} {M : zM} {a0 a1 a2 a3 : Value} (hd : decode (zB m) pc = .ok (.invokestatic ix, 3)) (hc : zCall (zO m) ix = some (1, y) ∨ zCall (zO m) ix = some (4, y)) (hn : 4 = zA y) (h8 : zct st ≤ 8) (h : qC d y [a0, a1, a2, a3] M (fun w M1 => qW (zEv d) m Q (pc + 3) l (w.toList ++ st) M1)) : qW (zEv d) m Q pc l (a3 :: a2 :: a1 :: a0 :: st) M := by
  obtain ⟨w, M1, h1, h2⟩ := h
  exact q_static (as := [a0, a1, a2, a3]) hd hc hn h1 h8 h2
theorem q_v4 {b : Nat} {d m pc ix y : Nat} {Q : Option Value → zM → Prop} {l : List (Nat × Value)} {st : List Value} {M : zM} {a0 a1 a2 a3 : Value} (hd : decode (zB m) pc = .ok (.invokevirtual ix, 3)) (hc : zCall (zO m) ix = some (0, y)) (hn : 4 = zA y) (hk : zk M b = (zO y, 0)) (h8 : zct st ≤ 8) (h : qC d y [.ref b, a0, a1, a2, a3] M (fun w M1 => qW (zEv d) m Q (pc + 3) l (w.toList ++ st) M1)) : qW (zEv d) m Q pc l (a3 :: a2 :: a1 :: a0 :: .ref b :: st) M := by
  obtain ⟨w, M1, h1, h2⟩ := h
  exact q_virt (as := [a0, a1, a2, a3]) hd hc hn hk h1 h8 h2
theorem q_i4 {b : Nat} {d m pc ix y : Nat} {Q : Option Value → zM → Prop} {l : List (Nat × Value)} {st : List Value} {M : zM} {a0 a1 a2 a3 : Value} (hd : decode (zB m) pc = .ok (.invokespecial ix, 3)) (hc : zCall (zO m) ix = some (2, y) ∨ zCall (zO m) ix = some (5, y)) (hn : 4 = zA y) (hk : zRk y = 0) (h8 : zct st ≤ 8) (h : qC d y [.ref b, a0, a1, a2, a3] M (fun w M1 => qW (zEv d) m Q (pc + 3) l (w.toList ++ st) M1)) : qW (zEv d) m Q pc l (a3 :: a2 :: a1 :: a0 :: .ref b :: st) M := by
  obtain ⟨w, M1, h1, h2⟩ := h
  exact q_spec (as := [a0, a1, a2, a3]) hd hc hn hk h1 h8 h2
theorem q_s5 {d m pc ix y : Nat} {Q : Option Value → zM → Prop} {l : List (Nat × Value)} {st : List Value} {M : zM} {a0 a1 a2 a3 a4 : Value} (hd : decode (zB m) pc = .ok (.invokestatic ix, 3)) (hc : zCall (zO m) ix = some (1, y) ∨ zCall (zO m) ix = some (4, y)) (hn : 5 = zA y) (h8 : zct st ≤ 8) (h : qC d y [a0, a1, a2, a3, a4] M (fun w M1 => qW (zEv d) m Q (pc + 3) l (w.toList ++ st) M1)) : qW (zEv d) m Q pc l (a4 :: a3 :: a2 :: a1 :: a0 :: st) M := by
  obtain ⟨w, M1, h1, h2⟩ := h
  exact q_static (as := [a0, a1, a2, a3, a4]) hd hc hn h1 h8 h2
theorem q_v5 {b : Nat} {d m pc ix y : Nat} {Q : Option Value → zM → Prop} {l : List (Nat × Value)} {st : List Value} {M : zM} {a0 a1 a2 a3 a4 : Value} (hd : decode (zB m) pc = .ok (.invokevirtual ix, 3)) (hc : zCall (zO m) ix = some (0, y)) (hn : 5 = zA y) (hk : zk M b = (zO y, 0)) (h8 : zct st ≤ 8) (h : qC d y [.ref b, a0, a1, a2, a3, a4] M (fun w M1 => qW (zEv d) m Q (pc + 3) l (w.toList ++ st) M1)) : qW (zEv d) m Q pc l (a4 :: a3 :: a2 :: a1 :: a0 :: .ref b :: st) M := by
  obtain ⟨w, M1, h1, h2⟩ := h
  exact q_virt (as := [a0, a1, a2, a3, a4]) hd hc hn hk h1 h8 h2
theorem q_i5 {b : Nat} {d m pc ix y : Nat} {Q : Option Value → zM → Prop} {l : List (Nat × Value)} {st : List Value} {M : zM} {a0 a1 a2 a3 a4 : Value} (hd : decode (zB m) pc = .ok (.invokespecial ix, 3)) (hc : zCall (zO m) ix = some (2, y) ∨ zCall (zO m) ix = some (5, y)) (hn : 5 = zA y) (hk : zRk y = 0) (h8 : zct st ≤ 8) (h : qC d y [.ref b, a0, a1, a2, a3, a4] M (fun w M1 => qW (zEv d) m Q (pc + 3) l (w.toList ++ st) M1)) : qW (zEv d) m Q pc l (a4 :: a3 :: a2 :: a1 :: a0 :: .ref b :: st) M := by
  obtain ⟨w, M1, h1, h2⟩ := h
  exact q_spec (as := [a0, a1, a2, a3, a4]) hd hc hn hk h1 h8 h2
theorem q_s6 {d m pc ix y : Nat} {Q : Option Value → zM → Prop} {l : List (Nat × Value)} {st : List Value} {M : zM} {a0 a1 a2 a3 a4 a5 : Value} (hd : decode (zB m) pc = .ok (.invokestatic ix, 3)) (hc : zCall (zO m) ix = some (1, y) ∨ zCall (zO m) ix = some (4, y)) (hn : 6 = zA y) (h8 : zct st ≤ 8) (h : qC d y [a0, a1, a2, a3, a4, a5] M (fun w M1 => qW (zEv d) m Q (pc + 3) l (w.toList ++ st) M1)) : qW (zEv d) m Q pc l (a5 :: a4 :: a3 :: a2 :: a1 :: a0 :: st) M := by
  obtain ⟨w, M1, h1, h2⟩ := h
  exact q_static (as := [a0, a1, a2, a3, a4, a5]) hd hc hn h1 h8 h2
theorem q_v6 {b : Nat} {d m pc ix y : Nat} {Q : Option Value → zM → Prop} {l : List (Nat × Value)} {st : List Value} {M : zM} {a0 a1 a2 a3 a4 a5 : Value} (hd : decode (zB m) pc = .ok (.invokevirtual ix, 3)) (hc : zCall (zO m) ix = some (0, y)) (hn : 6 = zA y) (hk : zk M b = (zO y, 0)) (h8 : zct st ≤ 8) (h : qC d y [.ref b, a0, a1, a2, a3, a4, a5] M (fun w M1 => qW (zEv d) m Q (pc + 3) l (w.toList ++ st) M1)) : qW (zEv d) m Q pc l (a5 :: a4 :: a3 :: a2 :: a1 :: a0 :: .ref b :: st) M := by
  obtain ⟨w, M1, h1, h2⟩ := h
  exact q_virt (as := [a0, a1, a2, a3, a4, a5]) hd hc hn hk h1 h8 h2
theorem q_i6 {b : Nat} {d m pc ix y : Nat} {Q : Option Value → zM → Prop} {l : List (Nat × Value)} {st : List Value} {M : zM} {a0 a1 a2 a3 a4 a5 : Value} (hd : decode (zB m) pc = .ok (.invokespecial ix, 3)) (hc : zCall (zO m) ix = some (2, y) ∨ zCall (zO m) ix = some (5, y)) (hn : 6 = zA y) (hk : zRk y = 0) (h8 : zct st ≤ 8) (h : qC d y [.ref b, a0, a1, a2, a3, a4, a5] M (fun w M1 => qW (zEv d) m Q (pc + 3) l (w.toList ++ st) M1)) : qW (zEv d) m Q pc l (a5 :: a4 :: a3 :: a2 :: a1 :: a0 :: .ref b :: st) M := by
  obtain ⟨w, M1, h1, h2⟩ := h
  exact q_spec (as := [a0, a1, a2, a3, a4, a5]) hd hc hn hk h1 h8 h2
theorem q_s7 {d m pc ix y : Nat} {Q : Option Value → zM → Prop} {l : List (Nat × Value)} {st : List Value} {M : zM} {a0 a1 a2 a3 a4 a5 a6 : Value} (hd : decode (zB m) pc = .ok (.invokestatic ix, 3)) (hc : zCall (zO m) ix = some (1, y) ∨ zCall (zO m) ix = some (4, y)) (hn : 7 = zA y) (h8 : zct st ≤ 8) (h : qC d y [a0, a1, a2, a3, a4, a5, a6] M (fun w M1 => qW (zEv d) m Q (pc + 3) l (w.toList ++ st) M1)) : qW (zEv d) m Q pc l (a6 :: a5 :: a4 :: a3 :: a2 :: a1 :: a0 :: st) M := by
  obtain ⟨w, M1, h1, h2⟩ := h
  exact q_static (as := [a0, a1, a2, a3, a4, a5, a6]) hd hc hn h1 h8 h2
theorem q_v7 {b : Nat} {d m pc ix y : Nat} {Q : Option Value → zM → Prop} {l : List (Nat × Value)} {st : List Value} {M : zM} {a0 a1 a2 a3 a4 a5 a6 : Value} (hd : decode (zB m) pc = .ok (.invokevirtual ix, 3)) (hc : zCall (zO m) ix = some (0, y)) (hn : 7 = zA y) (hk : zk M b = (zO y, 0)) (h8 : zct st ≤ 8) (h : qC d y [.ref b, a0, a1, a2, a3, a4, a5, a6] M (fun w M1 => qW (zEv d) m Q (pc + 3) l (w.toList ++ st) M1)) : qW (zEv d) m Q pc l (a6 :: a5 :: a4 :: a3 :: a2 :: a1 :: a0 :: .ref b :: st) M := by
  obtain ⟨w, M1, h1, h2⟩ := h
  exact q_virt (as := [a0, a1, a2, a3, a4, a5, a6]) hd hc hn hk h1 h8 h2
theorem q_i7 {b : Nat} {d m pc ix y : Nat} {Q : Option Value → zM → Prop} {l : List (Nat × Value)} {st : List Value} {M : zM} {a0 a1 a2 a3 a4 a5 a6 : Value} (hd : decode (zB m) pc = .ok (.invokespecial ix, 3)) (hc : zCall (zO m) ix = some (2, y) ∨ zCall (zO m) ix = some (5, y)) (hn : 7 = zA y) (hk : zRk y = 0) (h8 : zct st ≤ 8) (h : qC d y [.ref b, a0, a1, a2, a3, a4, a5, a6] M (fun w M1 => qW (zEv d) m Q (pc + 3) l (w.toList ++ st) M1)) : qW (zEv d) m Q pc l (a6 :: a5 :: a4 :: a3 :: a2 :: a1 :: a0 :: .ref b :: st) M := by
  obtain ⟨w, M1, h1, h2⟩ := h
  exact q_spec (as := [a0, a1, a2, a3, a4, a5, a6]) hd hc hn hk h1 h8 h2
