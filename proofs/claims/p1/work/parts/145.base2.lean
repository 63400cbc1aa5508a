/-! at first, and behind the makers -/
def syu0 (L : Nat) : syU := ((fun a k => cond (Nat.blt a 3) (cond (Nat.beq a 0) (cond (Nat.blt k 7) (some (.inr k)) none) none) (some (.inl 0))), (fun _ _ => some none), (fun a => cond (Nat.beq a 0) (30, L) (cond (Nat.blt a 3) (30, 6) (cond (Nat.blt a 16) (98, 0) (99, 0)))), sykt)
def syc0 : syC := (40, [], (902, 0, syk902_0, [(0, syrf 0)], []), [], ([], [], [], 16, 0))
def syc18 : syC := (40, [], (902, 18, syk902_18, sysL, []), [], symM)
noncomputable def systep0 (u : syU) : syC → syR
  | (d, bx, (m, pc, K, l, st), rest, M) => cond (Nat.beq m 902 && Nat.beq pc 18) syno (systep u (d, bx, (m, pc, K, l, st), rest, M))
def syeq18 (c : syC) : Bool := decide (c.1 = 40) && decide (c.2.2.1.1 = 902) && decide (c.2.2.1.2.1 = 18) && decide (c.2.2.1.2.2.1 = syk902_18) && decide (c.2.2.1.2.2.2.1 = sysL) && c.2.2.1.2.2.2.2.isEmpty && c.2.2.2.1.isEmpty
  && decide (c.2.2.2.2.1 = symI) && decide (c.2.2.2.2.2.1 = symR) && decide (c.2.2.2.2.2.2.1 = symK) && decide (c.2.2.2.2.2.2.2.1 = 327) && decide (c.2.2.2.2.2.2.2.2 = 13301)
theorem symake : ∀ L, L < 8 → syrun (systep0 (syu0 L)) syeq18 3000 syc0 = true := by decide +kernel
noncomputable def sychI (a k : Nat) : Bool := match (syu1 0).1 a k with
  | none => true
  | some v => decide (syGI (syu0 0) symI a k = some v)
theorem sychI_0 : ∀ a, a < 80 → ∀ k, k < 50 → sychI a k = true := by decide +kernel
theorem sychI_1 : ∀ a, a < 80 → ∀ k, k < 50 → sychI (80 + a) k = true := by decide +kernel
theorem sychI_2 : ∀ a, a < 80 → ∀ k, k < 50 → sychI (160 + a) k = true := by decide +kernel
theorem sychI_3 : ∀ a, a < 87 → ∀ k, k < 50 → sychI (240 + a) k = true := by decide +kernel
noncomputable def sychR (a k : Nat) : Bool := match (syu1 0).2.1 a k with
  | none => true
  | some v => decide (syGR (syu0 0) symR a k = some v)
theorem sychR_0 : ∀ a, a < 327 → ∀ k, k < 50 → sychR a k = true := by decide +kernel
noncomputable def sychK (a : Nat) : Bool := decide (syGK (syu0 0) symK a = (syu1 0).2.2.1 a) && decide ((syGK (syu0 0) symK a).1 ≠ 9999)
theorem sychK_0 : ∀ a, a < 311 → sychK (16 + a) = true := by decide +kernel
/-- the kind of a cell of one's own doesn't rest on the script's length -/
theorem syGK_L {L : Nat} (a : Nat) (ha : 16 ≤ a) : ∀ M : syMK, syGK (syu0 L) M a = syGK (syu0 0) M a := by
  intro M
  induction M with
  | nil =>
    show cond (Nat.beq a 0) (30, L) _ = cond (Nat.beq a 0) (30, 0) _
    rw [show Nat.beq a 0 = false by cases hb : Nat.beq a 0 with | true => have := Nat.eq_of_beq_eq_true hb; omega | false => rfl]
    rfl
  | cons q t ih =>
    rcases q with q | q | q
    · show syGK1 (syGK (syu0 L) t a) a q = syGK1 (syGK (syu0 0) t a) a q
      rw [ih]
    · show syGK2 (syGK (syu0 L) t a) a q = syGK2 (syGK (syu0 0) t a) a q
      rw [ih]
    · show syGK3 (syGK (syu0 L) t a) a q = syGK3 (syGK (syu0 0) t a) a q
      rw [ih]
theorem syGI_L {L : Nat} : ∀ M : syMI, syGI (syu0 L) M = syGI (syu0 0) M := by
  intro M
  induction M with
  | nil => rfl
  | cons q t ih =>
    funext a k
    rcases q with q | q
    · show syGI1 (syGI (syu0 L) t) a k q = syGI1 (syGI (syu0 0) t) a k q
      rw [ih]
    · show syGI2 (syGI (syu0 L) t) a k q = syGI2 (syGI (syu0 0) t) a k q
      rw [ih]
theorem syGR_L {L : Nat} (a k : Nat) : ∀ M : syMR, syGR (syu0 L) M a k = syGR (syu0 0) M a k := by
  intro M
  induction M with
  | nil => rfl
  | cons q t ih =>
    rcases q with q | q | q
    · show syGR1 (syGR (syu0 L) t a k) a k q = syGR1 (syGR (syu0 0) t a k) a k q
      rw [ih]
    · show syGR2 (syGR (syu0 L) t a k) a k q = syGR2 (syGR (syu0 0) t a k) a k q
      rw [ih]
    · show syGR3 (syGR (syu0 L) t a k) a k q = syGR3 (syGR (syu0 0) t a k) a k q
      rw [ih]
def syK0 : syMK → Bool
  | [] => true
  | .inl q :: t => Nat.blt 0 q.1 && syK0 t
  | .inr (.inl q) :: t => Nat.blt 0 q.1 && syK0 t
  | .inr (.inr q) :: t => Nat.blt 0 q.1 && syK0 t
theorem syK0_ok {L : Nat} : ∀ M : syMK, syK0 M = true → syGK (syu0 L) M 0 = (30, L) := by
  intro M
  induction M with
  | nil => intro _; rfl
  | cons q t ih =>
    intro h
    rcases q with q | q | q
    · obtain ⟨h1, h2⟩ := syand h
      have h1 := Nat.blt_eq.mp h1
      show cond (Nat.beq 0 q.1) q.2 (syGK (syu0 L) t 0) = _
      rw [show Nat.beq 0 q.1 = false by cases hb : Nat.beq 0 q.1 with | true => have := Nat.eq_of_beq_eq_true hb; omega | false => rfl]
      exact ih h2
    · obtain ⟨h1, h2⟩ := syand h
      have h1 := Nat.blt_eq.mp h1
      show cond (Nat.beq 0 q.1) (q.2.1, q.2.2.1) (cond (Nat.blt q.1 0 && Nat.ble 0 (q.1 + q.2.2.1)) (20, q.2.2.2) (syGK (syu0 L) t 0)) = _
      rw [show Nat.beq 0 q.1 = false by cases hb : Nat.beq 0 q.1 with | true => have := Nat.eq_of_beq_eq_true hb; omega | false => rfl, show Nat.blt q.1 0 = false by cases hb : Nat.blt q.1 0 with | true => have := Nat.blt_eq.mp hb; omega | false => rfl]
      exact ih h2
    · obtain ⟨h1, h2⟩ := syand h
      have h1 := Nat.blt_eq.mp h1
      show cond (Nat.beq 0 q.1) (26, q.2.1) (cond (Nat.blt q.1 0 && Nat.ble 0 (q.1 + q.2.1 * (1 + q.2.2.1))) (cond (Nat.beq ((0 - q.1 - 1) % (1 + q.2.2.1)) 0) (25, q.2.2.1) (20, q.2.2.2)) (syGK (syu0 L) t 0)) = _
      rw [show Nat.beq 0 q.1 = false by cases hb : Nat.beq 0 q.1 with | true => have := Nat.eq_of_beq_eq_true hb; omega | false => rfl, show Nat.blt q.1 0 = false by cases hb : Nat.blt q.1 0 with | true => have := Nat.blt_eq.mp hb; omega | false => rfl]
      exact ih h2
theorem syblt {a b : Nat} (h : a < b) : Nat.blt a b = true := Nat.blt_eq.mpr h
theorem sybge {a b : Nat} (h : ¬ a < b) : Nat.blt a b = false := by
  cases hb : Nat.blt a b with
  | true => exact absurd (Nat.blt_eq.mp hb) h
  | false => rfl
theorem sybne {a b : Nat} (h : a ≠ b) : Nat.beq a b = false := by
  cases hb : Nat.beq a b with
  | true => exact absurd (Nat.eq_of_beq_eq_true hb) h
  | false => rfl
theorem syu0_ok (L : Nat) (xs : Nat → Int32) : syUok xs (syu0 L) (zM0 L xs) := by
  refine ⟨fun a k v h => ?_, fun a k r h => ?_, fun a _ => ?_, fun m pc => sykt_ok m pc⟩
  · have h : cond (Nat.blt a 3) (cond (Nat.beq a 0) (cond (Nat.blt k 7) (some (.inr k)) none) none) (some (.inl 0)) = some v := h
    show (if a = 0 then xs k else if a = 1 then zUn k else if a = 2 then zAo k else 0) = _
    by_cases h3 : a < 3
    · rw [syblt h3] at h
      by_cases h0 : a = 0
      · subst h0
        by_cases h7 : k < 7
        · have h : cond (Nat.blt k 7) (some (.inr k)) none = some v := h
          rw [syblt h7] at h
          have h := Option.some.inj h
          subst h
          rw [if_pos rfl]
          show _ = (if k = 7 then xs 0 &&& 31 else xs k)
          rw [if_neg (by omega)]
        · have h : cond (Nat.blt k 7) (some (.inr k)) none = some v := h
          rw [sybge h7] at h; cases h
      · rw [sybne h0] at h; cases h
    · rw [sybge h3] at h
      have h := Option.some.inj h
      subst h
      rw [if_neg (by omega), if_neg (by omega), if_neg (by omega)]
      rfl
  · exact (Option.some.inj h)
  · show (if a = 0 then ((30, L) : Nat × Nat) else if a = 1 ∨ a = 2 then (30, 6) else if a < 16 then (98, 0) else (99, 0)) = cond (Nat.beq a 0) (30, L) (cond (Nat.blt a 3) (30, 6) (cond (Nat.blt a 16) (98, 0) (99, 0)))
    by_cases h0 : a = 0
    · subst h0; rfl
    · rw [if_neg h0, sybne h0]
      by_cases h3 : a < 3
      · rw [if_pos (by omega), syblt h3]; rfl
      · rw [if_neg (by omega), sybge h3]
        by_cases h16 : a < 16
        · rw [if_pos h16, syblt h16]; rfl
        · rw [if_neg h16, sybge h16]; rfl
theorem syA_zk (B : zM) (xs : Nat → Int32) (M : syM) (a : Nat) : zk (syA B xs M) a = syFK B M.2.2.1 a := rfl
theorem symM_K : symM.2.2.1 = symK := rfl
theorem syu1_ok (L : Nat) (xs : Nat → Int32) : syUok xs (syu1 L) (syA (zM0 L xs) xs symM) := by
  have u0 := syu0_ok L xs
  refine ⟨fun a k v h => ?_, fun a k r h => ?_, fun a h9 => ?_, fun m pc => sykt_ok m pc⟩
  · have h1 : a < 327 ∧ k < 50 := by
      have h : cond (Nat.blt a 16) (cond (Nat.beq a 0) (cond (Nat.blt k 7) (some (.inr k)) none) none) (cond (Nat.blt a 327) (cond (Nat.blt k 50) (sybI (a * 64 + k)) none) none) = some v := h
      by_cases h16 : a < 16
      · rw [syblt h16] at h
        by_cases h0 : a = 0
        · subst h0
          have h : cond (Nat.blt k 7) (some (.inr k)) none = some v := h
          by_cases h7 : k < 7
          · omega
          · rw [sybge h7] at h; cases h
        · rw [sybne h0] at h; cases h
      · rw [sybge h16] at h
        by_cases h3 : a < 327
        · rw [syblt h3] at h
          by_cases h5 : k < 50
          · exact ⟨h3, h5⟩
          · have h : cond (Nat.blt k 50) (sybI (a * 64 + k)) none = some v := h
            rw [sybge h5] at h; cases h
        · rw [sybge h3] at h; cases h
    have hc : sychI a k = true := by
      by_cases c0 : a < 80
      · exact sychI_0 a c0 k h1.2
      · by_cases c1 : a < 160
        · have := sychI_1 (a - 80) (by omega) k h1.2; rw [show 80 + (a - 80) = a by omega] at this; exact this
        · by_cases c2 : a < 240
          · have := sychI_2 (a - 160) (by omega) k h1.2; rw [show 160 + (a - 160) = a by omega] at this; exact this
          · have := sychI_3 (a - 240) (by omega) k h1.2; rw [show 240 + (a - 240) = a by omega] at this; exact this
    unfold sychI at hc
    have h : (syu1 0).1 a k = some v := h
    rw [h] at hc
    have hc := syd hc
    rw [← syGI_L (L := L)] at hc
    exact syGI_ok u0.1 _ _ _ _ hc
  · have h1 : a < 327 ∧ k < 50 := by
      have h : cond (Nat.blt a 327) (cond (Nat.blt k 50) (sybR (a * 64 + k)) none) none = some r := h
      by_cases h3 : a < 327
      · rw [syblt h3] at h
        by_cases h5 : k < 50
        · exact ⟨h3, h5⟩
        · have h : cond (Nat.blt k 50) (sybR (a * 64 + k)) none = some r := h
          rw [sybge h5] at h; cases h
      · rw [sybge h3] at h; cases h
    have hc := sychR_0 a h1.1 k h1.2
    unfold sychR at hc
    have h : (syu1 0).2.1 a k = some r := h
    rw [h] at hc
    have hc := syd hc
    rw [← syGR_L (L := L)] at hc
    exact syGR_ok u0.2.1 _ _ _ _ hc
  · have e : (syu1 L).2.2.1 a = cond (Nat.blt a 16) (cond (Nat.beq a 0) (30, L) (9999, 0)) (cond (Nat.blt a 327) (sybK a) (9999, 0)) := rfl
    by_cases h16 : a < 16
    · rw [e, syblt h16] at h9 ⊢
      by_cases h0 : a = 0
      · subst h0
        have h2 : (syGK (syu0 L) symK 0) = (30, L) := syK0_ok symK (by decide +kernel)
        have g : syFK (zM0 L xs) symK 0 = (30, L) := (syGK_ok u0.2.2.1 _ _ (by rw [h2]; show (30 : Nat) ≠ 9999; omega)).trans h2
        rw [syA_zk, symM_K, g]
        rfl
      · rw [sybne h0] at h9; exact absurd rfl h9
    · by_cases h3 : a < 327
      · have hc := sychK_0 (a - 16) (by omega)
        rw [show 16 + (a - 16) = a by omega] at hc
        obtain ⟨g1, g2⟩ := syand hc
        have g1 := syd g1
        have g2 := syd g2
        rw [← syGK_L (L := L) a (by omega)] at g1 g2
        have e2 : (syu1 L).2.2.1 a = (syu1 0).2.2.1 a := by
          show cond (Nat.blt a 16) (cond (Nat.beq a 0) (30, L) (9999, 0)) (cond (Nat.blt a 327) (sybK a) (9999, 0)) = cond (Nat.blt a 16) (cond (Nat.beq a 0) (30, 0) (9999, 0)) (cond (Nat.blt a 327) (sybK a) (9999, 0))
          rw [sybge h16]; rfl
        rw [e2, ← g1]
        exact syGK_ok u0.2.2.1 _ _ g2
      · rw [e, sybge h16, sybge h3] at h9; exact absurd rfl h9
