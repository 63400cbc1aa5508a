/-! ===== that table held against decode ===== -/
theorem sytv_0 : ∀ i, i < 40 → ∀ pc, pc < sysz (0 + i) → sytc (0 + i) pc = true := by decide +kernel
theorem sykv_0 : ∀ i, i < 40 → ∀ pc, pc < sysz (0 + i) → sykb (0 + i) pc (sykt (0 + i) pc) = true := by decide +kernel
theorem sytv_1 : ∀ i, i < 50 → ∀ pc, pc < sysz (40 + i) → sytc (40 + i) pc = true := by decide +kernel
theorem sykv_1 : ∀ i, i < 50 → ∀ pc, pc < sysz (40 + i) → sykb (40 + i) pc (sykt (40 + i) pc) = true := by decide +kernel
theorem sytv_2 : ∀ i, i < 39 → ∀ pc, pc < sysz (90 + i) → sytc (90 + i) pc = true := by decide +kernel
theorem sykv_2 : ∀ i, i < 39 → ∀ pc, pc < sysz (90 + i) → sykb (90 + i) pc (sykt (90 + i) pc) = true := by decide +kernel
theorem sytv_3 : ∀ i, i < 21 → ∀ pc, pc < sysz (129 + i) → sytc (129 + i) pc = true := by decide +kernel
theorem sykv_3 : ∀ i, i < 21 → ∀ pc, pc < sysz (129 + i) → sykb (129 + i) pc (sykt (129 + i) pc) = true := by decide +kernel
theorem sytv_4 : ∀ i, i < 30 → ∀ pc, pc < sysz (150 + i) → sytc (150 + i) pc = true := by decide +kernel
theorem sykv_4 : ∀ i, i < 30 → ∀ pc, pc < sysz (150 + i) → sykb (150 + i) pc (sykt (150 + i) pc) = true := by decide +kernel
theorem sytv_5 : ∀ i, i < 20 → ∀ pc, pc < sysz (180 + i) → sytc (180 + i) pc = true := by decide +kernel
theorem sykv_5 : ∀ i, i < 20 → ∀ pc, pc < sysz (180 + i) → sykb (180 + i) pc (sykt (180 + i) pc) = true := by decide +kernel
theorem sytv_6 : ∀ i, i < 16 → ∀ pc, pc < sysz (200 + i) → sytc (200 + i) pc = true := by decide +kernel
theorem sykv_6 : ∀ i, i < 16 → ∀ pc, pc < sysz (200 + i) → sykb (200 + i) pc (sykt (200 + i) pc) = true := by decide +kernel
theorem sytw_0 : ∀ i, i < 60 → sytc 902 (0 + i) = true := by decide +kernel
theorem sytv_l (pc : Nat) (h : pc < sysz 902) : sytc 902 pc = true := by
  have e : sysz 902 = 19 := by decide +kernel
  rw [e] at h
  by_cases h0 : pc < 60
  · have g := sytw_0 (pc - 0) (by omega); rw [show 0 + (pc - 0) = pc by omega] at g; exact g
  omega
theorem sykv_l : ∀ pc, pc < sysz 902 → sykb 902 pc (sykt 902 pc) = true := by decide +kernel
theorem sytc_all (m pc : Nat) : sytc m pc = true := by
  by_cases hz : pc < sysz m
  · by_cases hm : m < 216
    · by_cases h0 : m < 40
      · have h := sytv_0 (m - 0) (by omega) pc (by rw [show 0 + (m - 0) = m by omega]; exact hz)
        rw [show 0 + (m - 0) = m by omega] at h
        exact h
      by_cases h1 : m < 90
      · have h := sytv_1 (m - 40) (by omega) pc (by rw [show 40 + (m - 40) = m by omega]; exact hz)
        rw [show 40 + (m - 40) = m by omega] at h
        exact h
      by_cases h2 : m < 129
      · have h := sytv_2 (m - 90) (by omega) pc (by rw [show 90 + (m - 90) = m by omega]; exact hz)
        rw [show 90 + (m - 90) = m by omega] at h
        exact h
      by_cases h3 : m < 150
      · have h := sytv_3 (m - 129) (by omega) pc (by rw [show 129 + (m - 129) = m by omega]; exact hz)
        rw [show 129 + (m - 129) = m by omega] at h
        exact h
      by_cases h4 : m < 180
      · have h := sytv_4 (m - 150) (by omega) pc (by rw [show 150 + (m - 150) = m by omega]; exact hz)
        rw [show 150 + (m - 150) = m by omega] at h
        exact h
      by_cases h5 : m < 200
      · have h := sytv_5 (m - 180) (by omega) pc (by rw [show 180 + (m - 180) = m by omega]; exact hz)
        rw [show 180 + (m - 180) = m by omega] at h
        exact h
      by_cases h6 : m < 216
      · have h := sytv_6 (m - 200) (by omega) pc (by rw [show 200 + (m - 200) = m by omega]; exact hz)
        rw [show 200 + (m - 200) = m by omega] at h
        exact h
      omega
    · by_cases hl : m = 902
      · subst hl; exact sytv_l pc hz
      · exfalso
        unfold sysz at hz
        rw [show Nat.blt m 216 = false by cases hb : Nat.blt m 216 with | true => exact absurd (Nat.blt_eq.mp hb) hm | false => rfl, show Nat.beq m 902 = false by cases hb : Nat.beq m 902 with | true => exact absurd (Nat.eq_of_beq_eq_true hb) hl | false => rfl] at hz
        exact absurd hz (Nat.not_lt_zero _)
  · have hb : Nat.blt pc (sysz m) = false := by cases hb : Nat.blt pc (sysz m) with | true => exact absurd (Nat.blt_eq.mp hb) hz | false => rfl
    unfold sytc sytab
    rw [hb]
    rfl
theorem sykc_all (m pc : Nat) : sykb m pc (sykt m pc) = true := by
  by_cases hz : pc < sysz m
  · by_cases hm : m < 216
    · by_cases h0 : m < 40
      · have h := sykv_0 (m - 0) (by omega) pc (by rw [show 0 + (m - 0) = m by omega]; exact hz)
        rw [show 0 + (m - 0) = m by omega] at h
        exact h
      by_cases h1 : m < 90
      · have h := sykv_1 (m - 40) (by omega) pc (by rw [show 40 + (m - 40) = m by omega]; exact hz)
        rw [show 40 + (m - 40) = m by omega] at h
        exact h
      by_cases h2 : m < 129
      · have h := sykv_2 (m - 90) (by omega) pc (by rw [show 90 + (m - 90) = m by omega]; exact hz)
        rw [show 90 + (m - 90) = m by omega] at h
        exact h
      by_cases h3 : m < 150
      · have h := sykv_3 (m - 129) (by omega) pc (by rw [show 129 + (m - 129) = m by omega]; exact hz)
        rw [show 129 + (m - 129) = m by omega] at h
        exact h
      by_cases h4 : m < 180
      · have h := sykv_4 (m - 150) (by omega) pc (by rw [show 150 + (m - 150) = m by omega]; exact hz)
        rw [show 150 + (m - 150) = m by omega] at h
        exact h
      by_cases h5 : m < 200
      · have h := sykv_5 (m - 180) (by omega) pc (by rw [show 180 + (m - 180) = m by omega]; exact hz)
        rw [show 180 + (m - 180) = m by omega] at h
        exact h
      by_cases h6 : m < 216
      · have h := sykv_6 (m - 200) (by omega) pc (by rw [show 200 + (m - 200) = m by omega]; exact hz)
        rw [show 200 + (m - 200) = m by omega] at h
        exact h
      omega
    · by_cases hl : m = 902
      · subst hl; exact sykv_l pc hz
      · exfalso
        unfold sysz at hz
        rw [show Nat.blt m 216 = false by cases hb : Nat.blt m 216 with | true => exact absurd (Nat.blt_eq.mp hb) hm | false => rfl, show Nat.beq m 902 = false by cases hb : Nat.beq m 902 with | true => exact absurd (Nat.eq_of_beq_eq_true hb) hl | false => rfl] at hz
        exact absurd hz (Nat.not_lt_zero _)
  · have hb : Nat.blt pc (sysz m) = false := by cases hb : Nat.blt pc (sysz m) with | true => exact absurd (Nat.blt_eq.mp hb) hz | false => rfl
    unfold sykt
    rw [hb]
    rfl
theorem sytab_ok (m pc : Nat) (i : Instr) (n : Nat) (r : List Nat) (h : sytab m pc = some (i, n, r)) : decode (zB m) pc = .ok (i, n) ∧ sychk m pc i n r = true := by
  have g := sytc_all m pc
  unfold sytc at g
  rw [h] at g
  exact ⟨syd (syand g).1, (syand g).2⟩
theorem sykb_ok (m : Nat) : ∀ (K : List syQ) (pc : Nat), sykb m pc K = true → syKok m pc K := by
  intro K
  induction K with
  | nil => intro _ _; trivial
  | cons q K ih =>
    intro pc h
    have h : (match sytab m pc with
      | none => false
      | some w => decide (q = syenc w.1 w.2.2) && sykb m (pc + w.2.1) K) = true := h
    cases ht : sytab m pc with
    | none => rw [ht] at h; cases h
    | some w =>
      rw [ht] at h
      obtain ⟨i, n, r⟩ := w
      obtain ⟨h1, h2⟩ := syand h
      obtain ⟨g1, g2⟩ := sytab_ok _ _ _ _ _ ht
      exact ⟨i, n, r, g1, g2, syd h1, ih _ h2⟩
theorem sykt_ok (m pc : Nat) : syKok m pc (sykt m pc) := sykb_ok m _ _ (sykc_all m pc)
