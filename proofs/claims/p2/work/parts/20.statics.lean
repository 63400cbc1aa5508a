/-! ===== contracts: statics ===== -/
theorem bK1 {Q : Option Value → zM → Prop} {M : zM} {p : Bool} (k : Q (some (.int (bI p))) M) (h : p = true) : Q (some (.int (nI 1))) M := by subst h; exact k
theorem bK0 {Q : Option Value → zM → Prop} {M : zM} {p : Bool} (k : Q (some (.int (bI p))) M) (h : p = false) : Q (some (.int (nI 0))) M := by subst h; exact k
theorem nK {Q : Option Value → zM → Prop} {M : zM} {x y : Int32} (k : Q (some (.int x)) M) (h : y = x) : Q (some (.int y)) M := by subst h; exact k
theorem mK {Q : Option Value → zM → Prop} {v : Option Value} {M M' : zM} (k : Q v M) (h : M' = M) : Q v M' := by subst h; exact k
theorem d10_0 : decode (zB 10) 0 = .ok (.iload_n 0, 1) := by decide +kernel
theorem d10_1 : decode (zB 10) 1 = .ok (.iload_n 1, 1) := by decide +kernel
theorem d10_2 : decode (zB 10) 2 = .ok (.if_icmp .lt 12, 3) := by decide +kernel
theorem d10_5 : decode (zB 10) 5 = .ok (.iload_n 0, 1) := by decide +kernel
theorem d10_6 : decode (zB 10) 6 = .ok (.iload_n 2, 1) := by decide +kernel
theorem d10_7 : decode (zB 10) 7 = .ok (.if_icmp .gt 7, 3) := by decide +kernel
theorem d10_10 : decode (zB 10) 10 = .ok (.iconst 1, 1) := by decide +kernel
theorem d10_11 : decode (zB 10) 11 = .ok (.goto 4, 3) := by decide +kernel
theorem d10_14 : decode (zB 10) 14 = .ok (.iconst 0, 1) := by decide +kernel
theorem d10_15 : decode (zB 10) 15 = .ok (.ireturn, 1) := by decide +kernel
theorem c10 {d : Nat} {M : zM} {Q : Option Value → zM → Prop} {a b c : Int32} (kt : b ≤ a ∧ a ≤ c → Q (some (.int (nI 1))) M) (kf : ¬ (b ≤ a ∧ a ≤ c) → Q (some (.int (nI 0))) M) : qC (d + 1) 10 [.int a, .int b, .int c] M Q := by
  refine qC_of (by decide) (Nat.le_of_ble_eq_true rfl) ?_
  refine q_iload_n d10_0 rfl ?_
  refine q_iload_n d10_1 rfl ?_
  refine ic_lt 14 d10_2 (by decide) (fun h2 => ?_) (fun h2 => ?_)
  · refine q_iconstN (z := 0) d10_14 ?_
    refine q_zret d10_15 rfl (by decide) ?_
    exact kf (by simp only [Int32.le_iff_toInt_le, Int32.lt_iff_toInt_lt] at *; omega)
  · refine q_iload_n d10_5 rfl ?_
    refine q_iload_n d10_6 rfl ?_
    refine ic_gt 14 d10_7 (by decide) (fun h7 => ?_) (fun h7 => ?_)
    · refine q_iconstN (z := 0) d10_14 ?_
      refine q_zret d10_15 rfl (by decide) ?_
      exact kf (by simp only [Int32.le_iff_toInt_le, Int32.lt_iff_toInt_lt] at *; omega)
    · refine q_iconstN (z := 1) d10_10 ?_
      refine q_goto 15 d10_11 (by decide) ?_
      refine q_zret d10_15 rfl (by decide) ?_
      exact kt (by simp only [Int32.le_iff_toInt_le, Int32.lt_iff_toInt_lt] at *; omega)
theorem c10t {d : Nat} {M : zM} {Q : Option Value → zM → Prop} {x a b : Nat} (h : a ≤ x ∧ x ≤ b) (hb : b < 2147483648) (k : Q (some (.int (nI 1))) M) : qC (d + 1) 10 [.int (nI x), .int (nI a), .int (nI b)] M Q :=
  c10 (fun _ => k) (fun q => absurd ⟨nI_le h.1 (by omega), nI_le h.2 (by omega)⟩ q)
theorem c10n {d : Nat} {M : zM} {Q : Option Value → zM → Prop} {x a b : Nat} (h : ¬ (a ≤ x ∧ x ≤ b)) (ha : a < 2147483648) (hx : x < 2147483648) (hb : b < 2147483648) (k : Q (some (.int (nI 0))) M) : qC (d + 1) 10 [.int (nI x), .int (nI a), .int (nI b)] M Q :=
  c10 (fun q => absurd ⟨(nI_leI ha hx).mp q.1, (nI_leI hx hb).mp q.2⟩ h) (fun _ => k)
theorem c10f {d : Nat} {M : zM} {Q : Option Value → zM → Prop} {x : Int32} {a b : Nat} (hb : b < 2147483648) (h : ¬ ((a : Int) ≤ x.toInt ∧ x.toInt ≤ b)) (ha : a < 2147483648) (k : Q (some (.int (nI 0))) M) : qC (d + 1) 10 [.int x, .int (nI a), .int (nI b)] M Q :=
  c10 (fun q => absurd (by
    have h1 := Int32.le_iff_toInt_le.mp q.1
    have h2 := Int32.le_iff_toInt_le.mp q.2
    rw [nI_toInt (by omega)] at h1 h2
    exact ⟨h1, h2⟩) h) (fun _ => k)
theorem c10z {d : Nat} {M : zM} {Q : Option Value → zM → Prop} {x : Int32} {b : Nat} (hb : b < 2147483647) (k : Q (some (.int (bI (zix x (b + 1)).isSome))) M) : qC (d + 1) 10 [.int x, .int (nI 0), .int (nI b)] M Q := by
  rcases zix_c x (n := b + 1) (by omega) with ⟨j, hj, rfl, e⟩ | ⟨e, hn⟩
  · rw [e] at k; exact c10t ⟨by omega, by omega⟩ (by omega) k
  · rw [e] at k; exact c10f (by omega) (by omega) (by omega) k
/-- from 0 to one less -/
theorem c10s {d : Nat} {M : zM} {Q : Option Value → zM → Prop} {x : Int32} {b : Nat} (hb : b < 2147483648) (k : Q (some (.int (bI (zix x b).isSome))) M) : qC (d + 1) 10 [.int x, .int (nI 0), .int (nI b - nI 1)] M Q := by
  rcases Nat.eq_zero_or_pos b with rfl | h0
  · have e : (zix x 0).isSome = false := by
      cases h : zix x 0 with
      | none => rfl
      | some j => exact absurd (zix_some h).1 (by omega)
    rw [e] at k
    refine c10 (fun q => absurd q ?_) (fun _ => k)
    have e1 : (nI 0 - nI 1 : Int32).toInt = -1 := by decide
    have e0 : (nI 0).toInt = 0 := by decide
    simp only [Int32.le_iff_toInt_le]
    omega
  · rw [pk_sub h0]
    have := c10z (d := d) (M := M) (Q := Q) (x := x) (b := b - 1) (by omega) (by rw [show b - 1 + 1 = b by omega]; exact k)
    exact this
theorem d131_0 : decode (zB 131) 0 = .ok (.iload_n 0, 1) := by decide +kernel
theorem d131_1 : decode (zB 131) 1 = .ok (.iload_n 1, 1) := by decide +kernel
theorem d131_2 : decode (zB 131) 2 = .ok (.if_icmp .lt 12, 3) := by decide +kernel
theorem d131_5 : decode (zB 131) 5 = .ok (.iload_n 0, 1) := by decide +kernel
theorem d131_6 : decode (zB 131) 6 = .ok (.iload_n 2, 1) := by decide +kernel
theorem d131_7 : decode (zB 131) 7 = .ok (.if_icmp .gt 7, 3) := by decide +kernel
theorem d131_10 : decode (zB 131) 10 = .ok (.iconst 1, 1) := by decide +kernel
theorem d131_11 : decode (zB 131) 11 = .ok (.goto 4, 3) := by decide +kernel
theorem d131_14 : decode (zB 131) 14 = .ok (.iconst 0, 1) := by decide +kernel
theorem d131_15 : decode (zB 131) 15 = .ok (.ireturn, 1) := by decide +kernel
theorem c131 {d : Nat} {M : zM} {Q : Option Value → zM → Prop} {a b c : Int32} (kt : b ≤ a ∧ a ≤ c → Q (some (.int (nI 1))) M) (kf : ¬ (b ≤ a ∧ a ≤ c) → Q (some (.int (nI 0))) M) : qC (d + 1) 131 [.int a, .int b, .int c] M Q := by
  refine qC_of (by decide) (Nat.le_of_ble_eq_true rfl) ?_
  refine q_iload_n d131_0 rfl ?_
  refine q_iload_n d131_1 rfl ?_
  refine ic_lt 14 d131_2 (by decide) (fun h2 => ?_) (fun h2 => ?_)
  · refine q_iconstN (z := 0) d131_14 ?_
    refine q_zret d131_15 rfl (by decide) ?_
    exact kf (by simp only [Int32.le_iff_toInt_le, Int32.lt_iff_toInt_lt] at *; omega)
  · refine q_iload_n d131_5 rfl ?_
    refine q_iload_n d131_6 rfl ?_
    refine ic_gt 14 d131_7 (by decide) (fun h7 => ?_) (fun h7 => ?_)
    · refine q_iconstN (z := 0) d131_14 ?_
      refine q_zret d131_15 rfl (by decide) ?_
      exact kf (by simp only [Int32.le_iff_toInt_le, Int32.lt_iff_toInt_lt] at *; omega)
    · refine q_iconstN (z := 1) d131_10 ?_
      refine q_goto 15 d131_11 (by decide) ?_
      refine q_zret d131_15 rfl (by decide) ?_
      exact kt (by simp only [Int32.le_iff_toInt_le, Int32.lt_iff_toInt_lt] at *; omega)
theorem c131t {d : Nat} {M : zM} {Q : Option Value → zM → Prop} {x a b : Nat} (h : a ≤ x ∧ x ≤ b) (hb : b < 2147483648) (k : Q (some (.int (nI 1))) M) : qC (d + 1) 131 [.int (nI x), .int (nI a), .int (nI b)] M Q :=
  c131 (fun _ => k) (fun q => absurd ⟨nI_le h.1 (by omega), nI_le h.2 (by omega)⟩ q)
theorem c131n {d : Nat} {M : zM} {Q : Option Value → zM → Prop} {x a b : Nat} (h : ¬ (a ≤ x ∧ x ≤ b)) (ha : a < 2147483648) (hx : x < 2147483648) (hb : b < 2147483648) (k : Q (some (.int (nI 0))) M) : qC (d + 1) 131 [.int (nI x), .int (nI a), .int (nI b)] M Q :=
  c131 (fun q => absurd ⟨(nI_leI ha hx).mp q.1, (nI_leI hx hb).mp q.2⟩ h) (fun _ => k)
theorem c131f {d : Nat} {M : zM} {Q : Option Value → zM → Prop} {x : Int32} {a b : Nat} (hb : b < 2147483648) (h : ¬ ((a : Int) ≤ x.toInt ∧ x.toInt ≤ b)) (ha : a < 2147483648) (k : Q (some (.int (nI 0))) M) : qC (d + 1) 131 [.int x, .int (nI a), .int (nI b)] M Q :=
  c131 (fun q => absurd (by
    have h1 := Int32.le_iff_toInt_le.mp q.1
    have h2 := Int32.le_iff_toInt_le.mp q.2
    rw [nI_toInt (by omega)] at h1 h2
    exact ⟨h1, h2⟩) h) (fun _ => k)
theorem c131z {d : Nat} {M : zM} {Q : Option Value → zM → Prop} {x : Int32} {b : Nat} (hb : b < 2147483647) (k : Q (some (.int (bI (zix x (b + 1)).isSome))) M) : qC (d + 1) 131 [.int x, .int (nI 0), .int (nI b)] M Q := by
  rcases zix_c x (n := b + 1) (by omega) with ⟨j, hj, rfl, e⟩ | ⟨e, hn⟩
  · rw [e] at k; exact c131t ⟨by omega, by omega⟩ (by omega) k
  · rw [e] at k; exact c131f (by omega) (by omega) (by omega) k
/-- from 0 to one less -/
theorem c131s {d : Nat} {M : zM} {Q : Option Value → zM → Prop} {x : Int32} {b : Nat} (hb : b < 2147483648) (k : Q (some (.int (bI (zix x b).isSome))) M) : qC (d + 1) 131 [.int x, .int (nI 0), .int (nI b - nI 1)] M Q := by
  rcases Nat.eq_zero_or_pos b with rfl | h0
  · have e : (zix x 0).isSome = false := by
      cases h : zix x 0 with
      | none => rfl
      | some j => exact absurd (zix_some h).1 (by omega)
    rw [e] at k
    refine c131 (fun q => absurd q ?_) (fun _ => k)
    have e1 : (nI 0 - nI 1 : Int32).toInt = -1 := by decide
    have e0 : (nI 0).toInt = 0 := by decide
    simp only [Int32.le_iff_toInt_le]
    omega
  · rw [pk_sub h0]
    have := c131z (d := d) (M := M) (Q := Q) (x := x) (b := b - 1) (by omega) (by rw [show b - 1 + 1 = b by omega]; exact k)
    exact this
theorem d11_0 : decode (zB 11) 0 = .ok (.iload_n 0, 1) := by decide +kernel
theorem d11_1 : decode (zB 11) 1 = .ok (.iconst 0, 1) := by decide +kernel
theorem d11_2 : decode (zB 11) 2 = .ok (.sipush 255, 3) := by decide +kernel
theorem d11_5 : decode (zB 11) 5 = .ok (.invokestatic 55, 3) := by decide +kernel
theorem d11_8 : decode (zB 11) 8 = .ok (.ireturn, 1) := by decide +kernel
theorem c11 {d : Nat} {M : zM} {Q : Option Value → zM → Prop} {x : Int32} (k : Q (some (.int (bI (zix x 256).isSome))) M) : qC (d + 2) 11 [.int x] M Q := by
  refine qC_of (by decide) (Nat.le_of_ble_eq_true rfl) ?_
  refine q_iload_n d11_0 rfl ?_
  refine q_iconstN (z := 0) d11_1 ?_
  refine q_sipush (x := nI 255) d11_2 rfl ?_
  refine q_s3 d11_5 (Or.inl rfl) rfl (Nat.le_of_ble_eq_true rfl) (c10z (by omega) ?_)
  refine b_ret d11_8 rfl ?_
  exact k
theorem c11t {d : Nat} {M : zM} {Q : Option Value → zM → Prop} {x : Nat} (h : x < 256) (k : Q (some (.int (nI 1))) M) : qC (d + 2) 11 [.int (nI x)] M Q := c11 (by rw [zix_in h (by omega)]; exact k)
theorem c11f {d : Nat} {M : zM} {Q : Option Value → zM → Prop} {x : Int32} (h : zix x 256 = none) (k : Q (some (.int (nI 0))) M) : qC (d + 2) 11 [.int x] M Q := c11 (by rw [h]; exact k)
theorem d26_0 : decode (zB 26) 0 = .ok (.iload_n 0, 1) := by decide +kernel
theorem d26_1 : decode (zB 26) 1 = .ok (.iconst 0, 1) := by decide +kernel
theorem d26_2 : decode (zB 26) 2 = .ok (.iconst 5, 1) := by decide +kernel
theorem d26_3 : decode (zB 26) 3 = .ok (.invokestatic 55, 3) := by decide +kernel
theorem d26_6 : decode (zB 26) 6 = .ok (.ireturn, 1) := by decide +kernel
theorem c26 {d : Nat} {M : zM} {Q : Option Value → zM → Prop} {x : Int32} (k : Q (some (.int (bI (zix x 6).isSome))) M) : qC (d + 2) 26 [.int x] M Q := by
  refine qC_of (by decide) (Nat.le_of_ble_eq_true rfl) ?_
  refine q_iload_n d26_0 rfl ?_
  refine q_iconstN (z := 0) d26_1 ?_
  refine q_iconstN (z := 5) d26_2 ?_
  refine q_s3 d26_3 (Or.inl rfl) rfl (Nat.le_of_ble_eq_true rfl) (c10z (by omega) ?_)
  refine b_ret d26_6 rfl ?_
  exact k
theorem c26t {d : Nat} {M : zM} {Q : Option Value → zM → Prop} {x : Nat} (h : x < 6) (k : Q (some (.int (nI 1))) M) : qC (d + 2) 26 [.int (nI x)] M Q := c26 (by rw [zix_in h (by omega)]; exact k)
theorem c26f {d : Nat} {M : zM} {Q : Option Value → zM → Prop} {x : Int32} (h : zix x 6 = none) (k : Q (some (.int (nI 0))) M) : qC (d + 2) 26 [.int x] M Q := c26 (by rw [h]; exact k)
theorem d60_0 : decode (zB 60) 0 = .ok (.iload_n 0, 1) := by decide +kernel
theorem d60_1 : decode (zB 60) 1 = .ok (.iconst 0, 1) := by decide +kernel
theorem d60_2 : decode (zB 60) 2 = .ok (.iconst 2, 1) := by decide +kernel
theorem d60_3 : decode (zB 60) 3 = .ok (.invokestatic 55, 3) := by decide +kernel
theorem d60_6 : decode (zB 60) 6 = .ok (.ireturn, 1) := by decide +kernel
theorem c60 {d : Nat} {M : zM} {Q : Option Value → zM → Prop} {x : Int32} (k : Q (some (.int (bI (zix x 3).isSome))) M) : qC (d + 2) 60 [.int x] M Q := by
  refine qC_of (by decide) (Nat.le_of_ble_eq_true rfl) ?_
  refine q_iload_n d60_0 rfl ?_
  refine q_iconstN (z := 0) d60_1 ?_
  refine q_iconstN (z := 2) d60_2 ?_
  refine q_s3 d60_3 (Or.inl rfl) rfl (Nat.le_of_ble_eq_true rfl) (c10z (by omega) ?_)
  refine b_ret d60_6 rfl ?_
  exact k
theorem c60t {d : Nat} {M : zM} {Q : Option Value → zM → Prop} {x : Nat} (h : x < 3) (k : Q (some (.int (nI 1))) M) : qC (d + 2) 60 [.int (nI x)] M Q := c60 (by rw [zix_in h (by omega)]; exact k)
theorem c60f {d : Nat} {M : zM} {Q : Option Value → zM → Prop} {x : Int32} (h : zix x 3 = none) (k : Q (some (.int (nI 0))) M) : qC (d + 2) 60 [.int x] M Q := c60 (by rw [h]; exact k)
theorem d113_0 : decode (zB 113) 0 = .ok (.iload_n 0, 1) := by decide +kernel
theorem d113_1 : decode (zB 113) 1 = .ok (.iconst 0, 1) := by decide +kernel
theorem d113_2 : decode (zB 113) 2 = .ok (.iconst 3, 1) := by decide +kernel
theorem d113_3 : decode (zB 113) 3 = .ok (.invokestatic 55, 3) := by decide +kernel
theorem d113_6 : decode (zB 113) 6 = .ok (.ireturn, 1) := by decide +kernel
theorem c113 {d : Nat} {M : zM} {Q : Option Value → zM → Prop} {x : Int32} (k : Q (some (.int (bI (zix x 4).isSome))) M) : qC (d + 2) 113 [.int x] M Q := by
  refine qC_of (by decide) (Nat.le_of_ble_eq_true rfl) ?_
  refine q_iload_n d113_0 rfl ?_
  refine q_iconstN (z := 0) d113_1 ?_
  refine q_iconstN (z := 3) d113_2 ?_
  refine q_s3 d113_3 (Or.inl rfl) rfl (Nat.le_of_ble_eq_true rfl) (c10z (by omega) ?_)
  refine b_ret d113_6 rfl ?_
  exact k
theorem c113t {d : Nat} {M : zM} {Q : Option Value → zM → Prop} {x : Nat} (h : x < 4) (k : Q (some (.int (nI 1))) M) : qC (d + 2) 113 [.int (nI x)] M Q := c113 (by rw [zix_in h (by omega)]; exact k)
theorem c113f {d : Nat} {M : zM} {Q : Option Value → zM → Prop} {x : Int32} (h : zix x 4 = none) (k : Q (some (.int (nI 0))) M) : qC (d + 2) 113 [.int x] M Q := c113 (by rw [h]; exact k)
theorem d132_0 : decode (zB 132) 0 = .ok (.iload_n 0, 1) := by decide +kernel
theorem d132_1 : decode (zB 132) 1 = .ok (.iconst 0, 1) := by decide +kernel
theorem d132_2 : decode (zB 132) 2 = .ok (.sipush 255, 3) := by decide +kernel
theorem d132_5 : decode (zB 132) 5 = .ok (.invokestatic 112, 3) := by decide +kernel
theorem d132_8 : decode (zB 132) 8 = .ok (.ireturn, 1) := by decide +kernel
theorem c132 {d : Nat} {M : zM} {Q : Option Value → zM → Prop} {x : Int32} (k : Q (some (.int (bI (zix x 256).isSome))) M) : qC (d + 2) 132 [.int x] M Q := by
  refine qC_of (by decide) (Nat.le_of_ble_eq_true rfl) ?_
  refine q_iload_n d132_0 rfl ?_
  refine q_iconstN (z := 0) d132_1 ?_
  refine q_sipush (x := nI 255) d132_2 rfl ?_
  refine q_s3 d132_5 (Or.inl rfl) rfl (Nat.le_of_ble_eq_true rfl) (c131z (by omega) ?_)
  refine b_ret d132_8 rfl ?_
  exact k
theorem c132t {d : Nat} {M : zM} {Q : Option Value → zM → Prop} {x : Nat} (h : x < 256) (k : Q (some (.int (nI 1))) M) : qC (d + 2) 132 [.int (nI x)] M Q := c132 (by rw [zix_in h (by omega)]; exact k)
theorem c132f {d : Nat} {M : zM} {Q : Option Value → zM → Prop} {x : Int32} (h : zix x 256 = none) (k : Q (some (.int (nI 0))) M) : qC (d + 2) 132 [.int x] M Q := c132 (by rw [h]; exact k)
theorem d169_0 : decode (zB 169) 0 = .ok (.iload_n 0, 1) := by decide +kernel
theorem d169_1 : decode (zB 169) 1 = .ok (.iconst 0, 1) := by decide +kernel
theorem d169_2 : decode (zB 169) 2 = .ok (.iconst 2, 1) := by decide +kernel
theorem d169_3 : decode (zB 169) 3 = .ok (.invokestatic 112, 3) := by decide +kernel
theorem d169_6 : decode (zB 169) 6 = .ok (.ireturn, 1) := by decide +kernel
theorem c169 {d : Nat} {M : zM} {Q : Option Value → zM → Prop} {x : Int32} (k : Q (some (.int (bI (zix x 3).isSome))) M) : qC (d + 2) 169 [.int x] M Q := by
  refine qC_of (by decide) (Nat.le_of_ble_eq_true rfl) ?_
  refine q_iload_n d169_0 rfl ?_
  refine q_iconstN (z := 0) d169_1 ?_
  refine q_iconstN (z := 2) d169_2 ?_
  refine q_s3 d169_3 (Or.inl rfl) rfl (Nat.le_of_ble_eq_true rfl) (c131z (by omega) ?_)
  refine b_ret d169_6 rfl ?_
  exact k
theorem c169t {d : Nat} {M : zM} {Q : Option Value → zM → Prop} {x : Nat} (h : x < 3) (k : Q (some (.int (nI 1))) M) : qC (d + 2) 169 [.int (nI x)] M Q := c169 (by rw [zix_in h (by omega)]; exact k)
theorem c169f {d : Nat} {M : zM} {Q : Option Value → zM → Prop} {x : Int32} (h : zix x 3 = none) (k : Q (some (.int (nI 0))) M) : qC (d + 2) 169 [.int x] M Q := c169 (by rw [h]; exact k)
theorem d189_0 : decode (zB 189) 0 = .ok (.iload_n 0, 1) := by decide +kernel
theorem d189_1 : decode (zB 189) 1 = .ok (.iconst 0, 1) := by decide +kernel
theorem d189_2 : decode (zB 189) 2 = .ok (.iconst 5, 1) := by decide +kernel
theorem d189_3 : decode (zB 189) 3 = .ok (.invokestatic 112, 3) := by decide +kernel
theorem d189_6 : decode (zB 189) 6 = .ok (.ireturn, 1) := by decide +kernel
theorem c189 {d : Nat} {M : zM} {Q : Option Value → zM → Prop} {x : Int32} (k : Q (some (.int (bI (zix x 6).isSome))) M) : qC (d + 2) 189 [.int x] M Q := by
  refine qC_of (by decide) (Nat.le_of_ble_eq_true rfl) ?_
  refine q_iload_n d189_0 rfl ?_
  refine q_iconstN (z := 0) d189_1 ?_
  refine q_iconstN (z := 5) d189_2 ?_
  refine q_s3 d189_3 (Or.inl rfl) rfl (Nat.le_of_ble_eq_true rfl) (c131z (by omega) ?_)
  refine b_ret d189_6 rfl ?_
  exact k
theorem c189t {d : Nat} {M : zM} {Q : Option Value → zM → Prop} {x : Nat} (h : x < 6) (k : Q (some (.int (nI 1))) M) : qC (d + 2) 189 [.int (nI x)] M Q := c189 (by rw [zix_in h (by omega)]; exact k)
theorem c189f {d : Nat} {M : zM} {Q : Option Value → zM → Prop} {x : Int32} (h : zix x 6 = none) (k : Q (some (.int (nI 0))) M) : qC (d + 2) 189 [.int x] M Q := c189 (by rw [h]; exact k)
theorem d207_0 : decode (zB 207) 0 = .ok (.iload_n 0, 1) := by decide +kernel
theorem d207_1 : decode (zB 207) 1 = .ok (.iconst 0, 1) := by decide +kernel
theorem d207_2 : decode (zB 207) 2 = .ok (.iconst 3, 1) := by decide +kernel
theorem d207_3 : decode (zB 207) 3 = .ok (.invokestatic 112, 3) := by decide +kernel
theorem d207_6 : decode (zB 207) 6 = .ok (.ireturn, 1) := by decide +kernel
theorem c207 {d : Nat} {M : zM} {Q : Option Value → zM → Prop} {x : Int32} (k : Q (some (.int (bI (zix x 4).isSome))) M) : qC (d + 2) 207 [.int x] M Q := by
  refine qC_of (by decide) (Nat.le_of_ble_eq_true rfl) ?_
  refine q_iload_n d207_0 rfl ?_
  refine q_iconstN (z := 0) d207_1 ?_
  refine q_iconstN (z := 3) d207_2 ?_
  refine q_s3 d207_3 (Or.inl rfl) rfl (Nat.le_of_ble_eq_true rfl) (c131z (by omega) ?_)
  refine b_ret d207_6 rfl ?_
  exact k
theorem c207t {d : Nat} {M : zM} {Q : Option Value → zM → Prop} {x : Nat} (h : x < 4) (k : Q (some (.int (nI 1))) M) : qC (d + 2) 207 [.int (nI x)] M Q := c207 (by rw [zix_in h (by omega)]; exact k)
theorem c207f {d : Nat} {M : zM} {Q : Option Value → zM → Prop} {x : Int32} (h : zix x 4 = none) (k : Q (some (.int (nI 0))) M) : qC (d + 2) 207 [.int x] M Q := c207 (by rw [h]; exact k)
theorem d35_0 : decode (zB 35) 0 = .ok (.iload_n 0, 1) := by decide +kernel
theorem d35_1 : decode (zB 35) 1 = .ok (.iload_n 1, 1) := by decide +kernel
theorem d35_2 : decode (zB 35) 2 = .ok (.ishr, 1) := by decide +kernel
theorem d35_3 : decode (zB 35) 3 = .ok (.iconst 1, 1) := by decide +kernel
theorem d35_4 : decode (zB 35) 4 = .ok (.iand, 1) := by decide +kernel
theorem d35_5 : decode (zB 35) 5 = .ok (.ifCond .eq 7, 3) := by decide +kernel
theorem d35_8 : decode (zB 35) 8 = .ok (.iconst 1, 1) := by decide +kernel
theorem d35_9 : decode (zB 35) 9 = .ok (.goto 4, 3) := by decide +kernel
theorem d35_12 : decode (zB 35) 12 = .ok (.iconst 0, 1) := by decide +kernel
theorem d35_13 : decode (zB 35) 13 = .ok (.ireturn, 1) := by decide +kernel
theorem c35 {d : Nat} {M : zM} {Q : Option Value → zM → Prop} {a i : Nat} (ha : a < 2147483648) (hi : i < 32) (k : Q (some (.int (bI (a.testBit i)))) M) : qC (d + 1) 35 [.int (nI a), .int (nI i)] M Q := by
  refine qC_of (by decide) (Nat.le_of_ble_eq_true rfl) ?_
  refine q_iload_n d35_0 rfl ?_
  refine q_iload_n d35_1 rfl ?_
  refine q_ishr d35_2 ?_
  refine q_iconstN (z := 1) d35_3 ?_
  refine q_iand d35_4 ?_
  rw [n_bit ha hi]
  refine b0_eq 12 d35_5 (by decide) (fun h5 => ?_) (fun h5 => ?_)
  · refine q_iconstN (z := 0) d35_12 ?_
    refine q_zret d35_13 rfl (by decide) ?_
    exact bK0 k h5
  · refine q_iconstN (z := 1) d35_8 ?_
    refine q_goto 13 d35_9 (by decide) ?_
    refine q_zret d35_13 rfl (by decide) ?_
    exact bK1 k h5
theorem d27_0 : decode (zB 27) 0 = .ok (.iload_n 0, 1) := by decide +kernel
theorem d27_1 : decode (zB 27) 1 = .ok (.iconst 4, 1) := by decide +kernel
theorem d27_2 : decode (zB 27) 2 = .ok (.if_icmp .eq 12, 3) := by decide +kernel
theorem d27_5 : decode (zB 27) 5 = .ok (.iload_n 0, 1) := by decide +kernel
theorem d27_6 : decode (zB 27) 6 = .ok (.iconst 5, 1) := by decide +kernel
theorem d27_7 : decode (zB 27) 7 = .ok (.if_icmp .eq 7, 3) := by decide +kernel
theorem d27_10 : decode (zB 27) 10 = .ok (.iconst 1, 1) := by decide +kernel
theorem d27_11 : decode (zB 27) 11 = .ok (.goto 4, 3) := by decide +kernel
theorem d27_14 : decode (zB 27) 14 = .ok (.iconst 0, 1) := by decide +kernel
theorem d27_15 : decode (zB 27) 15 = .ok (.ireturn, 1) := by decide +kernel
theorem c27 {d : Nat} {M : zM} {Q : Option Value → zM → Prop} {a : Nat} (ha : a < 6) (k : Q (some (.int (bI (decide (a ≠ 4 ∧ a ≠ 5))))) M) : qC (d + 1) 27 [.int (nI a)] M Q := by
  refine qC_of (by decide) (Nat.le_of_ble_eq_true rfl) ?_
  refine q_iload_n d27_0 rfl ?_
  refine q_iconstN (z := 4) d27_1 ?_
  refine nc_eq 14 d27_2 (by decide) (by omega) (by omega) (fun h2 => ?_) (fun h2 => ?_)
  · refine q_iconstN (z := 0) d27_14 ?_
    refine q_zret d27_15 rfl (by decide) ?_
    exact bK0 k (by simp; omega)
  · refine q_iload_n d27_5 rfl ?_
    refine q_iconstN (z := 5) d27_6 ?_
    refine nc_eq 14 d27_7 (by decide) (by omega) (by omega) (fun h7 => ?_) (fun h7 => ?_)
    · refine q_iconstN (z := 0) d27_14 ?_
      refine q_zret d27_15 rfl (by decide) ?_
      exact bK0 k (by simp; omega)
    · refine q_iconstN (z := 1) d27_10 ?_
      refine q_goto 15 d27_11 (by decide) ?_
      refine q_zret d27_15 rfl (by decide) ?_
      exact bK1 k (by simp; omega)
theorem d48_0 : decode (zB 48) 0 = .ok (.iload_n 0, 1) := by decide +kernel
theorem d48_1 : decode (zB 48) 1 = .ok (.ifCond .ne 7, 3) := by decide +kernel
theorem d48_4 : decode (zB 48) 4 = .ok (.iload_n 1, 1) := by decide +kernel
theorem d48_5 : decode (zB 48) 5 = .ok (.goto 19, 3) := by decide +kernel
theorem d48_8 : decode (zB 48) 8 = .ok (.iload_n 0, 1) := by decide +kernel
theorem d48_9 : decode (zB 48) 9 = .ok (.iconst 4, 1) := by decide +kernel
theorem d48_10 : decode (zB 48) 10 = .ok (.if_icmp .eq 8, 3) := by decide +kernel
theorem d48_13 : decode (zB 48) 13 = .ok (.iload_n 0, 1) := by decide +kernel
theorem d48_14 : decode (zB 48) 14 = .ok (.iconst 5, 1) := by decide +kernel
theorem d48_15 : decode (zB 48) 15 = .ok (.if_icmp .ne 7, 3) := by decide +kernel
theorem d48_18 : decode (zB 48) 18 = .ok (.iconst 0, 1) := by decide +kernel
theorem d48_19 : decode (zB 48) 19 = .ok (.goto 5, 3) := by decide +kernel
theorem d48_22 : decode (zB 48) 22 = .ok (.iload_n 1, 1) := by decide +kernel
theorem d48_23 : decode (zB 48) 23 = .ok (.ineg, 1) := by decide +kernel
theorem d48_24 : decode (zB 48) 24 = .ok (.ireturn, 1) := by decide +kernel
theorem c48 {d : Nat} {M : zM} {Q : Option Value → zM → Prop} {a : Nat} {n : Int32} (ha : a < 6) (k : Q (some (.int (yf1 a n))) M) : qC (d + 1) 48 [.int (nI a), .int n] M Q := by
  refine qC_of (by decide) (Nat.le_of_ble_eq_true rfl) ?_
  refine q_iload_n d48_0 rfl ?_
  refine n0_ne 8 d48_1 (by decide) (by omega) (fun h1 => ?_) (fun h1 => ?_)
  · refine q_iload_n d48_8 rfl ?_
    refine q_iconstN (z := 4) d48_9 ?_
    refine nc_eq 18 d48_10 (by decide) (by omega) (by omega) (fun h10 => ?_) (fun h10 => ?_)
    · refine q_iconstN (z := 0) d48_18 ?_
      refine q_goto 24 d48_19 (by decide) ?_
      refine q_iret d48_24 rfl ?_
      exact nK k (by unfold yf1; first | rw [if_pos (by omega)] | (rw [if_neg (by omega), if_pos (by omega)]; rfl) | rw [if_neg (by omega), if_neg (by omega)])
    · refine q_iload_n d48_13 rfl ?_
      refine q_iconstN (z := 5) d48_14 ?_
      refine nc_ne 22 d48_15 (by decide) (by omega) (by omega) (fun h15 => ?_) (fun h15 => ?_)
      · refine q_iload_n d48_22 rfl ?_
        refine q_ineg d48_23 ?_
        refine q_iret d48_24 rfl ?_
        exact nK k (by unfold yf1; first | rw [if_pos (by omega)] | (rw [if_neg (by omega), if_pos (by omega)]; rfl) | rw [if_neg (by omega), if_neg (by omega)])
      · refine q_iconstN (z := 0) d48_18 ?_
        refine q_goto 24 d48_19 (by decide) ?_
        refine q_iret d48_24 rfl ?_
        exact nK k (by unfold yf1; first | rw [if_pos (by omega)] | (rw [if_neg (by omega), if_pos (by omega)]; rfl) | rw [if_neg (by omega), if_neg (by omega)])
  · refine q_iload_n d48_4 rfl ?_
    refine q_goto 24 d48_5 (by decide) ?_
    refine q_iret d48_24 rfl ?_
    exact nK k (by unfold yf1; first | rw [if_pos (by omega)] | (rw [if_neg (by omega), if_pos (by omega)]; rfl) | rw [if_neg (by omega), if_neg (by omega)])
theorem d50_0 : decode (zB 50) 0 = .ok (.iload_n 0, 1) := by decide +kernel
theorem d50_1 : decode (zB 50) 1 = .ok (.iconst 2, 1) := by decide +kernel
theorem d50_2 : decode (zB 50) 2 = .ok (.if_icmp .ne 7, 3) := by decide +kernel
theorem d50_5 : decode (zB 50) 5 = .ok (.iload_n 1, 1) := by decide +kernel
theorem d50_6 : decode (zB 50) 6 = .ok (.goto 4, 3) := by decide +kernel
theorem d50_9 : decode (zB 50) 9 = .ok (.iconst 0, 1) := by decide +kernel
theorem d50_10 : decode (zB 50) 10 = .ok (.ireturn, 1) := by decide +kernel
theorem c50 {d : Nat} {M : zM} {Q : Option Value → zM → Prop} {a : Nat} {n : Int32} (ha : a < 6) (k : Q (some (.int (yf2 a n))) M) : qC (d + 1) 50 [.int (nI a), .int n] M Q := by
  refine qC_of (by decide) (Nat.le_of_ble_eq_true rfl) ?_
  refine q_iload_n d50_0 rfl ?_
  refine q_iconstN (z := 2) d50_1 ?_
  refine nc_ne 9 d50_2 (by decide) (by omega) (by omega) (fun h2 => ?_) (fun h2 => ?_)
  · refine q_iconstN (z := 0) d50_9 ?_
    refine q_iret d50_10 rfl ?_
    exact nK k (by unfold yf2; first | rw [if_pos (by omega)] | (rw [if_neg (by omega)]; rfl))
  · refine q_iload_n d50_5 rfl ?_
    refine q_goto 10 d50_6 (by decide) ?_
    refine q_iret d50_10 rfl ?_
    exact nK k (by unfold yf2; first | rw [if_pos (by omega)] | (rw [if_neg (by omega)]; rfl))
