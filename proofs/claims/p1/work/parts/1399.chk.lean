/-! ===== the table held against decode, written by wip/gen/p1/tab.py ===== -/
theorem sytv_l (pc : Nat) (h : pc < sysz 902) : sytc 902 pc = true := by
  have e : sysz 902 = 1094 := by decide +kernel
  rw [e] at h
  by_cases h0 : pc < 60
  · have g := sytw_0 (pc - 0) (by omega); rw [show 0 + (pc - 0) = pc by omega] at g; exact g
  by_cases h1 : pc < 120
  · have g := sytw_1 (pc - 60) (by omega); rw [show 60 + (pc - 60) = pc by omega] at g; exact g
  by_cases h2 : pc < 180
  · have g := sytw_2 (pc - 120) (by omega); rw [show 120 + (pc - 120) = pc by omega] at g; exact g
  by_cases h3 : pc < 240
  · have g := sytw_3 (pc - 180) (by omega); rw [show 180 + (pc - 180) = pc by omega] at g; exact g
  by_cases h4 : pc < 300
  · have g := sytw_4 (pc - 240) (by omega); rw [show 240 + (pc - 240) = pc by omega] at g; exact g
  by_cases h5 : pc < 360
  · have g := sytw_5 (pc - 300) (by omega); rw [show 300 + (pc - 300) = pc by omega] at g; exact g
  by_cases h6 : pc < 420
  · have g := sytw_6 (pc - 360) (by omega); rw [show 360 + (pc - 360) = pc by omega] at g; exact g
  by_cases h7 : pc < 480
  · have g := sytw_7 (pc - 420) (by omega); rw [show 420 + (pc - 420) = pc by omega] at g; exact g
  by_cases h8 : pc < 540
  · have g := sytw_8 (pc - 480) (by omega); rw [show 480 + (pc - 480) = pc by omega] at g; exact g
  by_cases h9 : pc < 600
  · have g := sytw_9 (pc - 540) (by omega); rw [show 540 + (pc - 540) = pc by omega] at g; exact g
  by_cases h10 : pc < 660
  · have g := sytw_10 (pc - 600) (by omega); rw [show 600 + (pc - 600) = pc by omega] at g; exact g
  by_cases h11 : pc < 720
  · have g := sytw_11 (pc - 660) (by omega); rw [show 660 + (pc - 660) = pc by omega] at g; exact g
  by_cases h12 : pc < 780
  · have g := sytw_12 (pc - 720) (by omega); rw [show 720 + (pc - 720) = pc by omega] at g; exact g
  by_cases h13 : pc < 840
  · have g := sytw_13 (pc - 780) (by omega); rw [show 780 + (pc - 780) = pc by omega] at g; exact g
  by_cases h14 : pc < 900
  · have g := sytw_14 (pc - 840) (by omega); rw [show 840 + (pc - 840) = pc by omega] at g; exact g
  by_cases h15 : pc < 960
  · have g := sytw_15 (pc - 900) (by omega); rw [show 900 + (pc - 900) = pc by omega] at g; exact g
  by_cases h16 : pc < 1020
  · have g := sytw_16 (pc - 960) (by omega); rw [show 960 + (pc - 960) = pc by omega] at g; exact g
  by_cases h17 : pc < 1080
  · have g := sytw_17 (pc - 1020) (by omega); rw [show 1020 + (pc - 1020) = pc by omega] at g; exact g
  by_cases h18 : pc < 1140
  · have g := sytw_18 (pc - 1080) (by omega); rw [show 1080 + (pc - 1080) = pc by omega] at g; exact g
  omega
theorem sytc_all (m pc : Nat) : sytc m pc = true := by
  by_cases hz : pc < sysz m
  · by_cases hm : m < 216
    · by_cases h0 : m < 40
      · have h := sytv_0 (m - 0) (by omega) pc (by rw [show 0 + (m - 0) = m by omega]; exact hz)
        rw [show 0 + (m - 0) = m by omega] at h
        exact h
      by_cases h1 : m < 90
      · have h := sytv_1 (m - 40) (by omega) pc (by rw [show 40 + (m - 40) = m by omega]; exact hz)
        rw [show 40 + (m - 40) = m by omega] at h
        exact h
      by_cases h2 : m < 129
      · have h := sytv_2 (m - 90) (by omega) pc (by rw [show 90 + (m - 90) = m by omega]; exact hz)
        rw [show 90 + (m - 90) = m by omega] at h
        exact h
      by_cases h3 : m < 150
      · have h := sytv_3 (m - 129) (by omega) pc (by rw [show 129 + (m - 129) = m by omega]; exact hz)
        rw [show 129 + (m - 129) = m by omega] at h
        exact h
      by_cases h4 : m < 180
      · have h := sytv_4 (m - 150) (by omega) pc (by rw [show 150 + (m - 150) = m by omega]; exact hz)
        rw [show 150 + (m - 150) = m by omega] at h
        exact h
      by_cases h5 : m < 200
      · have h := sytv_5 (m - 180) (by omega) pc (by rw [show 180 + (m - 180) = m by omega]; exact hz)
        rw [show 180 + (m - 180) = m by omega] at h
        exact h
      by_cases h6 : m < 216
      · have h := sytv_6 (m - 200) (by omega) pc (by rw [show 200 + (m - 200) = m by omega]; exact hz)
        rw [show 200 + (m - 200) = m by omega] at h
        exact h
      omega
    · by_cases hl : m = 902
      · subst hl; exact sytv_l pc hz
      · exfalso
        unfold sysz at hz
        rw [show Nat.blt m 216 = false by cases hb : Nat.blt m 216 with | true => exact absurd (Nat.blt_eq.mp hb) hm | false => rfl, show Nat.beq m 902 = false by cases hb : Nat.beq m 902 with | true => exact absurd (Nat.eq_of_beq_eq_true hb) hl | false => rfl] at hz
        exact absurd hz (Nat.not_lt_zero _)
  · have hb : Nat.blt pc (sysz m) = false := by cases hb : Nat.blt pc (sysz m) with | true => exact absurd (Nat.blt_eq.mp hb) hz | false => rfl
    unfold sytc sytab
    rw [hb]
    rfl
theorem sykc_all (m pc : Nat) : sykb m pc (sykt m pc) = true := by
  by_cases hz : pc < sysz m
  · by_cases hm : m < 216
    · by_cases h0 : m < 40
      · have h := sykv_0 (m - 0) (by omega) pc (by rw [show 0 + (m - 0) = m by omega]; exact hz)
        rw [show 0 + (m - 0) = m by omega] at h
        exact h
      by_cases h1 : m < 90
      · have h := sykv_1 (m - 40) (by omega) pc (by rw [show 40 + (m - 40) = m by omega]; exact hz)
        rw [show 40 + (m - 40) = m by omega] at h
        exact h
      by_cases h2 : m < 129
      · have h := sykv_2 (m - 90) (by omega) pc (by rw [show 90 + (m - 90) = m by omega]; exact hz)
        rw [show 90 + (m - 90) = m by omega] at h
        exact h
      by_cases h3 : m < 150
      · have h := sykv_3 (m - 129) (by omega) pc (by rw [show 129 + (m - 129) = m by omega]; exact hz)
        rw [show 129 + (m - 129) = m by omega] at h
        exact h
      by_cases h4 : m < 180
      · have h := sykv_4 (m - 150) (by omega) pc (by rw [show 150 + (m - 150) = m by omega]; exact hz)
        rw [show 150 + (m - 150) = m by omega] at h
        exact h
      by_cases h5 : m < 200
      · have h := sykv_5 (m - 180) (by omega) pc (by rw [show 180 + (m - 180) = m by omega]; exact hz)
        rw [show 180 + (m - 180) = m by omega] at h
        exact h
      by_cases h6 : m < 216
      · have h := sykv_6 (m - 200) (by omega) pc (by rw [show 200 + (m - 200) = m by omega]; exact hz)
        rw [show 200 + (m - 200) = m by omega] at h
        exact h
      omega
    · by_cases hl : m = 902
      · subst hl; exact sykv_l pc hz
      · exfalso
        unfold sysz at hz
        rw [show Nat.blt m 216 = false by cases hb : Nat.blt m 216 with | true => exact absurd (Nat.blt_eq.mp hb) hm | false => rfl, show Nat.beq m 902 = false by cases hb : Nat.beq m 902 with | true => exact absurd (Nat.eq_of_beq_eq_true hb) hl | false => rfl] at hz
        exact absurd hz (Nat.not_lt_zero _)
  · have hb : Nat.blt pc (sysz m) = false := by cases hb : Nat.blt pc (sysz m) with | true => exact absurd (Nat.blt_eq.mp hb) hz | false => rfl
    unfold sykt
    rw [hb]
    rfl
theorem sytab_ok (m pc : Nat) (i : Instr) (n : Nat) (r : List Nat) (h : sytab m pc = some (i, n, r)) : decode (zB m) pc = .ok (i, n) ∧ sychk m pc i n r = true := by
  have g := sytc_all m pc
  unfold sytc at g
  rw [h] at g
  exact ⟨syd (syand g).1, (syand g).2⟩
theorem sykb_ok (m : Nat) : ∀ (K : List syQ) (pc : Nat), sykb m pc K = true → syKok m pc K := by
  intro K
  induction K with
  | nil => intro _ _; trivial
  | cons q K ih =>
    intro pc h
    have h : (match sytab m pc with
      | none => false
      | some w => decide (q = syenc w.1 w.2.2) && sykb m (pc + w.2.1) K) = true := h
    cases ht : sytab m pc with
    | none => rw [ht] at h; cases h
    | some w =>
      rw [ht] at h
      obtain ⟨i, n, r⟩ := w
      obtain ⟨h1, h2⟩ := syand h
      obtain ⟨g1, g2⟩ := sytab_ok _ _ _ _ _ ht
      exact ⟨i, n, r, g1, g2, syd h1, ih _ h2⟩
theorem sykt_ok (m pc : Nat) : syKok m pc (sykt m pc) := sykb_ok m _ _ (sykc_all m pc)
