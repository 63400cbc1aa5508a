/-! ===== contracts: statics ===== -/
theorem bK1 {Q : Option Value → zM → Prop} {M : zM} {p : Bool} (k : Q (some (.int (bI p))) M) (h : p = true) : Q (some (.int (nI 1))) M := by subst h; exact k
theorem bK0 {Q : Option Value → zM → Prop} {M : zM} {p : Bool} (k : Q (some (.int (bI p))) M) (h : p = false) : Q (some (.int (nI 0))) M := by subst h; exact k
theorem nK {Q : Option Value → zM → Prop} {M : zM} {x y : Int32} (k : Q (some (.int x)) M) (h : y = x) : Q (some (.int y)) M := by subst h; exact k
theorem mK {Q : Option Value → zM → Prop} {v : Option Value} {M M' : zM} (k : Q v M) (h : M' = M) : Q v M' := by subst h; exact k
theorem d10_0 : decode (zB 10) 0 = .ok (.iload_n 0, 1) := (congrArg (fun c => decode c 0) zeq10).trans (by decide +kernel)
theorem d10_1 : decode (zB 10) 1 = .ok (.iload_n 1, 1) := (congrArg (fun c => decode c 1) zeq10).trans (by decide +kernel)
theorem d10_2 : decode (zB 10) 2 = .ok (.if_icmp .lt 12, 3) := (congrArg (fun c => decode c 2) zeq10).trans (by decide +kernel)
theorem d10_5 : decode (zB 10) 5 = .ok (.iload_n 0, 1) := (congrArg (fun c => decode c 5) zeq10).trans (by decide +kernel)
theorem d10_6 : decode (zB 10) 6 = .ok (.iload_n 2, 1) := (congrArg (fun c => decode c 6) zeq10).trans (by decide +kernel)
theorem d10_7 : decode (zB 10) 7 = .ok (.if_icmp .gt 7, 3) := (congrArg (fun c => decode c 7) zeq10).trans (by decide +kernel)
theorem d10_10 : decode (zB 10) 10 = .ok (.iconst 1, 1) := (congrArg (fun c => decode c 10) zeq10).trans (by decide +kernel)
theorem d10_11 : decode (zB 10) 11 = .ok (.goto 4, 3) := (congrArg (fun c => decode c 11) zeq10).trans (by decide +kernel)
theorem d10_14 : decode (zB 10) 14 = .ok (.iconst 0, 1) := (congrArg (fun c => decode c 14) zeq10).trans (by decide +kernel)
theorem d10_15 : decode (zB 10) 15 = .ok (.ireturn, 1) := (congrArg (fun c => decode c 15) zeq10).trans (by decide +kernel)
theorem c10 {d : Nat} {M : zM} {Q : Option Value → zM → Prop} {a b c : Int32} (kt : b ≤ a ∧ a ≤ c → Q (some (.int (nI 1))) M) (kf : ¬ (b ≤ a ∧ a ≤ c) → Q (some (.int (nI 0))) M) : qC (d + 1) 10 [.int a, .int b, .int c] M Q := by
  refine qC_of (by decide) (Nat.le_of_ble_eq_true rfl) ?_
  refine q_iload_n d10_0 rfl ?_
  refine q_iload_n d10_1 rfl ?_
  refine ic_lt 14 d10_2 (by decide) (fun h2 => ?_) (fun h2 => ?_)
  · refine q_iconstN (z := 0) d10_14 ?_
    refine q_zret d10_15 rfl (by decide) ?_
    exact kf (by simp only [Int32.le_iff_toInt_le, Int32.lt_iff_toInt_lt] at *; omega)
  · refine q_iload_n d10_5 rfl ?_
    refine q_iload_n d10_6 rfl ?_
    refine ic_gt 14 d10_7 (by decide) (fun h7 => ?_) (fun h7 => ?_)
    · refine q_iconstN (z := 0) d10_14 ?_
      refine q_zret d10_15 rfl (by decide) ?_
      exact kf (by simp only [Int32.le_iff_toInt_le, Int32.lt_iff_toInt_lt] at *; omega)
    · refine q_iconstN (z := 1) d10_10 ?_
      refine q_goto 15 d10_11 (by decide) ?_
      refine q_zret d10_15 rfl (by decide) ?_
      exact kt (by simp only [Int32.le_iff_toInt_le, Int32.lt_iff_toInt_lt] at *; omega)
theorem c10t {d : Nat} {M : zM} {Q : Option Value → zM → Prop} {x a b : Nat} (h : a ≤ x ∧ x ≤ b) (hb : b < 2147483648) (k : Q (some (.int (nI 1))) M) : qC (d + 1) 10 [.int (nI x), .int (nI a), .int (nI b)] M Q :=
  c10 (fun _ => k) (fun q => absurd ⟨nI_le h.1 (by omega), nI_le h.2 (by omega)⟩ q)
theorem c10n {d : Nat} {M : zM} {Q : Option Value → zM → Prop} {x a b : Nat} (h : ¬ (a ≤ x ∧ x ≤ b)) (ha : a < 2147483648) (hx : x < 2147483648) (hb : b < 2147483648) (k : Q (some (.int (nI 0))) M) : qC (d + 1) 10 [.int (nI x), .int (nI a), .int (nI b)] M Q :=
  c10 (fun q => absurd ⟨(nI_leI ha hx).mp q.1, (nI_leI hx hb).mp q.2⟩ h) (fun _ => k)
theorem c10f {d : Nat} {M : zM} {Q : Option Value → zM → Prop} {x : Int32} {a b : Nat} (hb : b < 2147483648) (h : ¬ ((a : Int) ≤ x.toInt ∧ x.toInt ≤ b)) (ha : a < 2147483648) (k : Q (some (.int (nI 0))) M) : qC (d + 1) 10 [.int x, .int (nI a), .int (nI b)] M Q :=
  c10 (fun q => absurd (by
    have h1 := Int32.le_iff_toInt_le.mp q.1
    have h2 := Int32.le_iff_toInt_le.mp q.2
    rw [nI_toInt (by omega)] at h1 h2
    exact ⟨h1, h2⟩) h) (fun _ => k)
theorem c10z {d : Nat} {M : zM} {Q : Option Value → zM → Prop} {x : Int32} {b : Nat} (hb : b < 2147483647) (k : Q (some (.int (bI (zix x (b + 1)).isSome))) M) : qC (d + 1) 10 [.int x, .int (nI 0), .int (nI b)] M Q := by
  rcases zix_c x (n := b + 1) (by omega) with ⟨j, hj, rfl, e⟩ | ⟨e, hn⟩
  · rw [e] at k; exact c10t ⟨by omega, by omega⟩ (by omega) k
  · rw [e] at k; exact c10f (by omega) (by omega) (by omega) k
/-- from 0 to one less -/
theorem c10s {d : Nat} {M : zM} {Q : Option Value → zM → Prop} {x : Int32} {b : Nat} (hb : b < 2147483648) (k : Q (some (.int (bI (zix x b).isSome))) M) : qC (d + 1) 10 [.int x, .int (nI 0), .int (nI b - nI 1)] M Q := by
  rcases Nat.eq_zero_or_pos b with rfl | h0
  · have e : (zix x 0).isSome = false := by
      cases h : zix x 0 with
      | none => rfl
      | some j => exact absurd (zix_some h).1 (by omega)
    rw [e] at k
    refine c10 (fun q => absurd q ?_) (fun _ => k)
    have e1 : (nI 0 - nI 1 : Int32).toInt = -1 := by decide
    have e0 : (nI 0).toInt = 0 := by decide
    simp only [Int32.le_iff_toInt_le]
    omega
  · rw [pk_sub h0]
    have := c10z (d := d) (M := M) (Q := Q) (x := x) (b := b - 1) (by omega) (by rw [show b - 1 + 1 = b by omega]; exact k)
    exact this
theorem d131_0 : decode (zB 131) 0 = .ok (.iload_n 0, 1) := (congrArg (fun c => decode c 0) zeq131).trans (by decide +kernel)
theorem d131_1 : decode (zB 131) 1 = .ok (.iload_n 1, 1) := (congrArg (fun c => decode c 1) zeq131).trans (by decide +kernel)
theorem d131_2 : decode (zB 131) 2 = .ok (.if_icmp .lt 12, 3) := (congrArg (fun c => decode c 2) zeq131).trans (by decide +kernel)
theorem d131_5 : decode (zB 131) 5 = .ok (.iload_n 0, 1) := (congrArg (fun c => decode c 5) zeq131).trans (by decide +kernel)
theorem d131_6 : decode (zB 131) 6 = .ok (.iload_n 2, 1) := (congrArg (fun c => decode c 6) zeq131).trans (by decide +kernel)
theorem d131_7 : decode (zB 131) 7 = .ok (.if_icmp .gt 7, 3) := (congrArg (fun c => decode c 7) zeq131).trans (by decide +kernel)
theorem d131_10 : decode (zB 131) 10 = .ok (.iconst 1, 1) := (congrArg (fun c => decode c 10) zeq131).trans (by decide +kernel)
theorem d131_11 : decode (zB 131) 11 = .ok (.goto 4, 3) := (congrArg (fun c => decode c 11) zeq131).trans (by decide +kernel)
theorem d131_14 : decode (zB 131) 14 = .ok (.iconst 0, 1) := (congrArg (fun c => decode c 14) zeq131).trans (by decide +kernel)
theorem d131_15 : decode (zB 131) 15 = .ok (.ireturn, 1) := (congrArg (fun c => decode c 15) zeq131).trans (by decide +kernel)
theorem c131 {d : Nat} {M : zM} {Q : Option Value → zM → Prop} {a b c : Int32} (kt : b ≤ a ∧ a ≤ c → Q (some (.int (nI 1))) M) (kf : ¬ (b ≤ a ∧ a ≤ c) → Q (some (.int (nI 0))) M) : qC (d + 1) 131 [.int a, .int b, .int c] M Q := by
  refine qC_of (by decide) (Nat.le_of_ble_eq_true rfl) ?_
  refine q_iload_n d131_0 rfl ?_
  refine q_iload_n d131_1 rfl ?_
  refine ic_lt 14 d131_2 (by decide) (fun h2 => ?_) (fun h2 => ?_)
  · refine q_iconstN (z := 0) d131_14 ?_
    refine q_zret d131_15 rfl (by decide) ?_
    exact kf (by simp only [Int32.le_iff_toInt_le, Int32.lt_iff_toInt_lt] at *; omega)
  · refine q_iload_n d131_5 rfl ?_
    refine q_iload_n d131_6 rfl ?_
    refine ic_gt 14 d131_7 (by decide) (fun h7 => ?_) (fun h7 => ?_)
    · refine q_iconstN (z := 0) d131_14 ?_
      refine q_zret d131_15 rfl (by decide) ?_
      exact kf (by simp only [Int32.le_iff_toInt_le, Int32.lt_iff_toInt_lt] at *; omega)
    · refine q_iconstN (z := 1) d131_10 ?_
      refine q_goto 15 d131_11 (by decide) ?_
      refine q_zret d131_15 rfl (by decide) ?_
      exact kt (by simp only [Int32.le_iff_toInt_le, Int32.lt_iff_toInt_lt] at *; omega)
theorem c131t {d : Nat} {M : zM} {Q : Option Value → zM → Prop} {x a b : Nat} (h : a ≤ x ∧ x ≤ b) (hb : b < 2147483648) (k : Q (some (.int (nI 1))) M) : qC (d + 1) 131 [.int (nI x), .int (nI a), .int (nI b)] M Q :=
  c131 (fun _ => k) (fun q => absurd ⟨nI_le h.1 (by omega), nI_le h.2 (by omega)⟩ q)
theorem c131n {d : Nat} {M : zM} {Q : Option Value → zM → Prop} {x a b : Nat} (h : ¬ (a ≤ x ∧ x ≤ b)) (ha : a < 2147483648) (hx : x < 2147483648) (hb : b < 2147483648) (k : Q (some (.int (nI 0))) M) : qC (d + 1) 131 [.int (nI x), .int (nI a), .int (nI b)] M Q :=
  c131 (fun q => absurd ⟨(nI_leI ha hx).mp q.1, (nI_leI hx hb).mp q.2⟩ h) (fun _ => k)
theorem c131f {d : Nat} {M : zM} {Q : Option Value → zM → Prop} {x : Int32} {a b : Nat} (hb : b < 2147483648) (h : ¬ ((a : Int) ≤ x.toInt ∧ x.toInt ≤ b)) (ha : a < 2147483648) (k : Q (some (.int (nI 0))) M) : qC (d + 1) 131 [.int x, .int (nI a), .int (nI b)] M Q :=
  c131 (fun q => absurd (by
    have h1 := Int32.le_iff_toInt_le.mp q.1
    have h2 := Int32.le_iff_toInt_le.mp q.2
    rw [nI_toInt (by omega)] at h1 h2
    exact ⟨h1, h2⟩) h) (fun _ => k)
theorem c131z {d : Nat} {M : zM} {Q : Option Value → zM → Prop} {x : Int32} {b : Nat} (hb : b < 2147483647) (k : Q (some (.int (bI (zix x (b + 1)).isSome))) M) : qC (d + 1) 131 [.int x, .int (nI 0), .int (nI b)] M Q := by
  rcases zix_c x (n := b + 1) (by omega) with ⟨j, hj, rfl, e⟩ | ⟨e, hn⟩
  · rw [e] at k; exact c131t ⟨by omega, by omega⟩ (by omega) k
  · rw [e] at k; exact c131f (by omega) (by omega) (by omega) k
/-- from 0 to one less -/
theorem c131s {d : Nat} {M : zM} {Q : Option Value → zM → Prop} {x : Int32} {b : Nat} (hb : b < 2147483648) (k : Q (some (.int (bI (zix x b).isSome))) M) : qC (d + 1) 131 [.int x, .int (nI 0), .int (nI b - nI 1)] M Q := by
  rcases Nat.eq_zero_or_pos b with rfl | h0
  · have e : (zix x 0).isSome = false := by
      cases h : zix x 0 with
      | none => rfl
      | some j => exact absurd (zix_some h).1 (by omega)
    rw [e] at k
    refine c131 (fun q => absurd q ?_) (fun _ => k)
    have e1 : (nI 0 - nI 1 : Int32).toInt = -1 := by decide
    have e0 : (nI 0).toInt = 0 := by decide
    simp only [Int32.le_iff_toInt_le]
    omega
  · rw [pk_sub h0]
    have := c131z (d := d) (M := M) (Q := Q) (x := x) (b := b - 1) (by omega) (by rw [show b - 1 + 1 = b by omega]; exact k)
    exact this
theorem d11_0 : decode (zB 11) 0 = .ok (.iload_n 0, 1) := (congrArg (fun c => decode c 0) zeq11).trans (by decide +kernel)
theorem d11_1 : decode (zB 11) 1 = .ok (.iconst 0, 1) := (congrArg (fun c => decode c 1) zeq11).trans (by decide +kernel)
theorem d11_2 : decode (zB 11) 2 = .ok (.sipush 255, 3) := (congrArg (fun c => decode c 2) zeq11).trans (by decide +kernel)
theorem d11_5 : decode (zB 11) 5 = .ok (.invokestatic 55, 3) := (congrArg (fun c => decode c 5) zeq11).trans (by decide +kernel)
theorem d11_8 : decode (zB 11) 8 = .ok (.ireturn, 1) := (congrArg (fun c => decode c 8) zeq11).trans (by decide +kernel)
theorem c11 {d : Nat} {M : zM} {Q : Option Value → zM → Prop} {x : Int32} (k : Q (some (.int (bI (zix x 256).isSome))) M) : qC (d + 2) 11 [.int x] M Q := by
  refine qC_of (by decide) (Nat.le_of_ble_eq_true rfl) ?_
  refine q_iload_n d11_0 rfl ?_
  refine q_iconstN (z := 0) d11_1 ?_
  refine q_sipush (x := nI 255) d11_2 rfl ?_
  refine q_s3 d11_5 (Or.inl rfl) rfl (Nat.le_of_ble_eq_true rfl) (c10z (by omega) ?_)
  refine b_ret d11_8 rfl ?_
  exact k
theorem c11t {d : Nat} {M : zM} {Q : Option Value → zM → Prop} {x : Nat} (h : x < 256) (k : Q (some (.int (nI 1))) M) : qC (d + 2) 11 [.int (nI x)] M Q := c11 (by rw [zix_in h (by omega)]; exact k)
theorem c11f {d : Nat} {M : zM} {Q : Option Value → zM → Prop} {x : Int32} (h : zix x 256 = none) (k : Q (some (.int (nI 0))) M) : qC (d + 2) 11 [.int x] M Q := c11 (by rw [h]; exact k)
theorem d26_0 : decode (zB 26) 0 = .ok (.iload_n 0, 1) := (congrArg (fun c => decode c 0) zeq26).trans (by decide +kernel)
theorem d26_1 : decode (zB 26) 1 = .ok (.iconst 0, 1) := (congrArg (fun c => decode c 1) zeq26).trans (by decide +kernel)
theorem d26_2 : decode (zB 26) 2 = .ok (.iconst 5, 1) := (congrArg (fun c => decode c 2) zeq26).trans (by decide +kernel)
theorem d26_3 : decode (zB 26) 3 = .ok (.invokestatic 55, 3) := (congrArg (fun c => decode c 3) zeq26).trans (by decide +kernel)
theorem d26_6 : decode (zB 26) 6 = .ok (.ireturn, 1) := (congrArg (fun c => decode c 6) zeq26).trans (by decide +kernel)
theorem c26 {d : Nat} {M : zM} {Q : Option Value → zM → Prop} {x : Int32} (k : Q (some (.int (bI (zix x 6).isSome))) M) : qC (d + 2) 26 [.int x] M Q := by
  refine qC_of (by decide) (Nat.le_of_ble_eq_true rfl) ?_
  refine q_iload_n d26_0 rfl ?_
  refine q_iconstN (z := 0) d26_1 ?_
  refine q_iconstN (z := 5) d26_2 ?_
  refine q_s3 d26_3 (Or.inl rfl) rfl (Nat.le_of_ble_eq_true rfl) (c10z (by omega) ?_)
  refine b_ret d26_6 rfl ?_
  exact k
theorem c26t {d : Nat} {M : zM} {Q : Option Value → zM → Prop} {x : Nat} (h : x < 6) (k : Q (some (.int (nI 1))) M) : qC (d + 2) 26 [.int (nI x)] M Q := c26 (by rw [zix_in h (by omega)]; exact k)
theorem c26f {d : Nat} {M : zM} {Q : Option Value → zM → Prop} {x : Int32} (h : zix x 6 = none) (k : Q (some (.int (nI 0))) M) : qC (d + 2) 26 [.int x] M Q := c26 (by rw [h]; exact k)
theorem d60_0 : decode (zB 60) 0 = .ok (.iload_n 0, 1) := (congrArg (fun c => decode c 0) zeq60).trans (by decide +kernel)
theorem d60_1 : decode (zB 60) 1 = .ok (.iconst 0, 1) := (congrArg (fun c => decode c 1) zeq60).trans (by decide +kernel)
theorem d60_2 : decode (zB 60) 2 = .ok (.iconst 2, 1) := (congrArg (fun c => decode c 2) zeq60).trans (by decide +kernel)
theorem d60_3 : decode (zB 60) 3 = .ok (.invokestatic 55, 3) := (congrArg (fun c => decode c 3) zeq60).trans (by decide +kernel)
theorem d60_6 : decode (zB 60) 6 = .ok (.ireturn, 1) := (congrArg (fun c => decode c 6) zeq60).trans (by decide +kernel)
theorem c60 {d : Nat} {M : zM} {Q : Option Value → zM → Prop} {x : Int32} (k : Q (some (.int (bI (zix x 3).isSome))) M) : qC (d + 2) 60 [.int x] M Q := by
  refine qC_of (by decide) (Nat.le_of_ble_eq_true rfl) ?_
  refine q_iload_n d60_0 rfl ?_
  refine q_iconstN (z := 0) d60_1 ?_
  refine q_iconstN (z := 2) d60_2 ?_
  refine q_s3 d60_3 (Or.inl rfl) rfl (Nat.le_of_ble_eq_true rfl) (c10z (by omega) ?_)
  refine b_ret d60_6 rfl ?_
  exact k
theorem c60t {d : Nat} {M : zM} {Q : Option Value → zM → Prop} {x : Nat} (h : x < 3) (k : Q (some (.int (nI 1))) M) : qC (d + 2) 60 [.int (nI x)] M Q := c60 (by rw [zix_in h (by omega)]; exact k)
theorem c60f {d : Nat} {M : zM} {Q : Option Value → zM → Prop} {x : Int32} (h : zix x 3 = none) (k : Q (some (.int (nI 0))) M) : qC (d + 2) 60 [.int x] M Q := c60 (by rw [h]; exact k)
theorem d113_0 : decode (zB 113) 0 = .ok (.iload_n 0, 1) := (congrArg (fun c => decode c 0) zeq113).trans (by decide +kernel)
theorem d113_1 : decode (zB 113) 1 = .ok (.iconst 0, 1) := (congrArg (fun c => decode c 1) zeq113).trans (by decide +kernel)
theorem d113_2 : decode (zB 113) 2 = .ok (.iconst 3, 1) := (congrArg (fun c => decode c 2) zeq113).trans (by decide +kernel)
theorem d113_3 : decode (zB 113) 3 = .ok (.invokestatic 55, 3) := (congrArg (fun c => decode c 3) zeq113).trans (by decide +kernel)
theorem d113_6 : decode (zB 113) 6 = .ok (.ireturn, 1) := (congrArg (fun c => decode c 6) zeq113).trans (by decide +kernel)
theorem c113 {d : Nat} {M : zM} {Q : Option Value → zM → Prop} {x : Int32} (k : Q (some (.int (bI (zix x 4).isSome))) M) : qC (d + 2) 113 [.int x] M Q := by
  refine qC_of (by decide) (Nat.le_of_ble_eq_true rfl) ?_
  refine q_iload_n d113_0 rfl ?_
  refine q_iconstN (z := 0) d113_1 ?_
  refine q_iconstN (z := 3) d113_2 ?_
  refine q_s3 d113_3 (Or.inl rfl) rfl (Nat.le_of_ble_eq_true rfl) (c10z (by omega) ?_)
  refine b_ret d113_6 rfl ?_
  exact k
theorem c113t {d : Nat} {M : zM} {Q : Option Value → zM → Prop} {x : Nat} (h : x < 4) (k : Q (some (.int (nI 1))) M) : qC (d + 2) 113 [.int (nI x)] M Q := c113 (by rw [zix_in h (by omega)]; exact k)
theorem c113f {d : Nat} {M : zM} {Q : Option Value → zM → Prop} {x : Int32} (h : zix x 4 = none) (k : Q (some (.int (nI 0))) M) : qC (d + 2) 113 [.int x] M Q := c113 (by rw [h]; exact k)
theorem d132_0 : decode (zB 132) 0 = .ok (.iload_n 0, 1) := (congrArg (fun c => decode c 0) zeq132).trans (by decide +kernel)
theorem d132_1 : decode (zB 132) 1 = .ok (.iconst 0, 1) := (congrArg (fun c => decode c 1) zeq132).trans (by decide +kernel)
theorem d132_2 : decode (zB 132) 2 = .ok (.sipush 255, 3) := (congrArg (fun c => decode c 2) zeq132).trans (by decide +kernel)
theorem d132_5 : decode (zB 132) 5 = .ok (.invokestatic 112, 3) := (congrArg (fun c => decode c 5) zeq132).trans (by decide +kernel)
theorem d132_8 : decode (zB 132) 8 = .ok (.ireturn, 1) := (congrArg (fun c => decode c 8) zeq132).trans (by decide +kernel)
theorem c132 {d : Nat} {M : zM} {Q : Option Value → zM → Prop} {x : Int32} (k : Q (some (.int (bI (zix x 256).isSome))) M) : qC (d + 2) 132 [.int x] M Q := by
  refine qC_of (by decide) (Nat.le_of_ble_eq_true rfl) ?_
  refine q_iload_n d132_0 rfl ?_
  refine q_iconstN (z := 0) d132_1 ?_
  refine q_sipush (x := nI 255) d132_2 rfl ?_
  refine q_s3 d132_5 (Or.inl rfl) rfl (Nat.le_of_ble_eq_true rfl) (c131z (by omega) ?_)
  refine b_ret d132_8 rfl ?_
  exact k
theorem c132t {d : Nat} {M : zM} {Q : Option Value → zM → Prop} {x : Nat} (h : x < 256) (k : Q (some (.int (nI 1))) M) : qC (d + 2) 132 [.int (nI x)] M Q := c132 (by rw [zix_in h (by omega)]; exact k)
theorem c132f {d : Nat} {M : zM} {Q : Option Value → zM → Prop} {x : Int32} (h : zix x 256 = none) (k : Q (some (.int (nI 0))) M) : qC (d + 2) 132 [.int x] M Q := c132 (by rw [h]; exact k)
theorem d169_0 : decode (zB 169) 0 = .ok (.iload_n 0, 1) := (congrArg (fun c => decode c 0) zeq169).trans (by decide +kernel)
theorem d169_1 : decode (zB 169) 1 = .ok (.iconst 0, 1) := (congrArg (fun c => decode c 1) zeq169).trans (by decide +kernel)
theorem d169_2 : decode (zB 169) 2 = .ok (.iconst 2, 1) := (congrArg (fun c => decode c 2) zeq169).trans (by decide +kernel)
theorem d169_3 : decode (zB 169) 3 = .ok (.invokestatic 112, 3) := (congrArg (fun c => decode c 3) zeq169).trans (by decide +kernel)
theorem d169_6 : decode (zB 169) 6 = .ok (.ireturn, 1) := (congrArg (fun c => decode c 6) zeq169).trans (by decide +kernel)
theorem c169 {d : Nat} {M : zM} {Q : Option Value → zM → Prop} {x : Int32} (k : Q (some (.int (bI (zix x 3).isSome))) M) : qC (d + 2) 169 [.int x] M Q := by
  refine qC_of (by decide) (Nat.le_of_ble_eq_true rfl) ?_
  refine q_iload_n d169_0 rfl ?_
  refine q_iconstN (z := 0) d169_1 ?_
  refine q_iconstN (z := 2) d169_2 ?_
  refine q_s3 d169_3 (Or.inl rfl) rfl (Nat.le_of_ble_eq_true rfl) (c131z (by omega) ?_)
  refine b_ret d169_6 rfl ?_
  exact k
theorem c169t {d : Nat} {M : zM} {Q : Option Value → zM → Prop} {x : Nat} (h : x < 3) (k : Q (some (.int (nI 1))) M) : qC (d + 2) 169 [.int (nI x)] M Q := c169 (by rw [zix_in h (by omega)]; exact k)
theorem c169f {d : Nat} {M : zM} {Q : Option Value → zM → Prop} {x : Int32} (h : zix x 3 = none) (k : Q (some (.int (nI 0))) M) : qC (d + 2) 169 [.int x] M Q := c169 (by rw [h]; exact k)
theorem d189_0 : decode (zB 189) 0 = .ok (.iload_n 0, 1) := (congrArg (fun c => decode c 0) zeq189).trans (by decide +kernel)
theorem d189_1 : decode (zB 189) 1 = .ok (.iconst 0, 1) := (congrArg (fun c => decode c 1) zeq189).trans (by decide +kernel)
theorem d189_2 : decode (zB 189) 2 = .ok (.iconst 5, 1) := (congrArg (fun c => decode c 2) zeq189).trans (by decide +kernel)
theorem d189_3 : decode (zB 189) 3 = .ok (.invokestatic 112, 3) := (congrArg (fun c => decode c 3) zeq189).trans (by decide +kernel)
theorem d189_6 : decode (zB 189) 6 = .ok (.ireturn, 1) := (congrArg (fun c => decode c 6) zeq189).trans (by decide +kernel)
theorem c189 {d : Nat} {M : zM} {Q : Option Value → zM → Prop} {x : Int32} (k : Q (some (.int (bI (zix x 6).isSome))) M) : qC (d + 2) 189 [.int x] M Q := by
  refine qC_of (by decide) (Nat.le_of_ble_eq_true rfl) ?_
  refine q_iload_n d189_0 rfl ?_
  refine q_iconstN (z := 0) d189_1 ?_
  refine q_iconstN (z := 5) d189_2 ?_
  refine q_s3 d189_3 (Or.inl rfl) rfl (Nat.le_of_ble_eq_true rfl) (c131z (by omega) ?_)
  refine b_ret d189_6 rfl ?_
  exact k
theorem c189t {d : Nat} {M : zM} {Q : Option Value → zM → Prop} {x : Nat} (h : x < 6) (k : Q (some (.int (nI 1))) M) : qC (d + 2) 189 [.int (nI x)] M Q := c189 (by rw [zix_in h (by omega)]; exact k)
theorem c189f {d : Nat} {M : zM} {Q : Option Value → zM → Prop} {x : Int32} (h : zix x 6 = none) (k : Q (some (.int (nI 0))) M) : qC (d + 2) 189 [.int x] M Q := c189 (by rw [h]; exact k)
theorem d207_0 : decode (zB 207) 0 = .ok (.iload_n 0, 1) := (congrArg (fun c => decode c 0) zeq207).trans (by decide +kernel)
theorem d207_1 : decode (zB 207) 1 = .ok (.iconst 0, 1) := (congrArg (fun c => decode c 1) zeq207).trans (by decide +kernel)
theorem d207_2 : decode (zB 207) 2 = .ok (.iconst 3, 1) := (congrArg (fun c => decode c 2) zeq207).trans (by decide +kernel)
theorem d207_3 : decode (zB 207) 3 = .ok (.invokestatic 112, 3) := (congrArg (fun c => decode c 3) zeq207).trans (by decide +kernel)
theorem d207_6 : decode (zB 207) 6 = .ok (.ireturn, 1) := (congrArg (fun c => decode c 6) zeq207).trans (by decide +kernel)
theorem c207 {d : Nat} {M : zM} {Q : Option Value → zM → Prop} {x : Int32} (k : Q (some (.int (bI (zix x 4).isSome))) M) : qC (d + 2) 207 [.int x] M Q := by
  refine qC_of (by decide) (Nat.le_of_ble_eq_true rfl) ?_
  refine q_iload_n d207_0 rfl ?_
  refine q_iconstN (z := 0) d207_1 ?_
  refine q_iconstN (z := 3) d207_2 ?_
  refine q_s3 d207_3 (Or.inl rfl) rfl (Nat.le_of_ble_eq_true rfl) (c131z (by omega) ?_)
  refine b_ret d207_6 rfl ?_
  exact k
theorem c207t {d : Nat} {M : zM} {Q : Option Value → zM → Prop} {x : Nat} (h : x < 4) (k : Q (some (.int (nI 1))) M) : qC (d + 2) 207 [.int (nI x)] M Q := c207 (by rw [zix_in h (by omega)]; exact k)
theorem c207f {d : Nat} {M : zM} {Q : Option Value → zM → Prop} {x : Int32} (h : zix x 4 = none) (k : Q (some (.int (nI 0))) M) : qC (d + 2) 207 [.int x] M Q := c207 (by rw [h]; exact k)
theorem d35_0 : decode (zB 35) 0 = .ok (.iload_n 0, 1) := (congrArg (fun c => decode c 0) zeq35).trans (by decide +kernel)
theorem d35_1 : decode (zB 35) 1 = .ok (.iload_n 1, 1) := (congrArg (fun c => decode c 1) zeq35).trans (by decide +kernel)
theorem d35_2 : decode (zB 35) 2 = .ok (.ishr, 1) := (congrArg (fun c => decode c 2) zeq35).trans (by decide +kernel)
theorem d35_3 : decode (zB 35) 3 = .ok (.iconst 1, 1) := (congrArg (fun c => decode c 3) zeq35).trans (by decide +kernel)
theorem d35_4 : decode (zB 35) 4 = .ok (.iand, 1) := (congrArg (fun c => decode c 4) zeq35).trans (by decide +kernel)
theorem d35_5 : decode (zB 35) 5 = .ok (.ifCond .eq 7, 3) := (congrArg (fun c => decode c 5) zeq35).trans (by decide +kernel)
theorem d35_8 : decode (zB 35) 8 = .ok (.iconst 1, 1) := (congrArg (fun c => decode c 8) zeq35).trans (by decide +kernel)
theorem d35_9 : decode (zB 35) 9 = .ok (.goto 4, 3) := (congrArg (fun c => decode c 9) zeq35).trans (by decide +kernel)
theorem d35_12 : decode (zB 35) 12 = .ok (.iconst 0, 1) := (congrArg (fun c => decode c 12) zeq35).trans (by decide +kernel)
theorem d35_13 : decode (zB 35) 13 = .ok (.ireturn, 1) := (congrArg (fun c => decode c 13) zeq35).trans (by decide +kernel)
theorem c35 {d : Nat} {M : zM} {Q : Option Value → zM → Prop} {a i : Nat} (ha : a < 2147483648) (hi : i < 32) (k : Q (some (.int (bI (a.testBit i)))) M) : qC (d + 1) 35 [.int (nI a), .int (nI i)] M Q := by
  refine qC_of (by decide) (Nat.le_of_ble_eq_true rfl) ?_
  refine q_iload_n d35_0 rfl ?_
  refine q_iload_n d35_1 rfl ?_
  refine q_ishr d35_2 ?_
  refine q_iconstN (z := 1) d35_3 ?_
  refine q_iand d35_4 ?_
  rw [n_bit ha hi]
  refine b0_eq 12 d35_5 (by decide) (fun h5 => ?_) (fun h5 => ?_)
  · refine q_iconstN (z := 0) d35_12 ?_
    refine q_zret d35_13 rfl (by decide) ?_
    exact bK0 k h5
  · refine q_iconstN (z := 1) d35_8 ?_
    refine q_goto 13 d35_9 (by decide) ?_
    refine q_zret d35_13 rfl (by decide) ?_
    exact bK1 k h5
theorem d27_0 : decode (zB 27) 0 = .ok (.iload_n 0, 1) := (congrArg (fun c => decode c 0) zeq27).trans (by decide +kernel)
theorem d27_1 : decode (zB 27) 1 = .ok (.iconst 4, 1) := (congrArg (fun c => decode c 1) zeq27).trans (by decide +kernel)
theorem d27_2 : decode (zB 27) 2 = .ok (.if_icmp .eq 12, 3) := (congrArg (fun c => decode c 2) zeq27).trans (by decide +kernel)
theorem d27_5 : decode (zB 27) 5 = .ok (.iload_n 0, 1) := (congrArg (fun c => decode c 5) zeq27).trans (by decide +kernel)
theorem d27_6 : decode (zB 27) 6 = .ok (.iconst 5, 1) := (congrArg (fun c => decode c 6) zeq27).trans (by decide +kernel)
theorem d27_7 : decode (zB 27) 7 = .ok (.if_icmp .eq 7, 3) := (congrArg (fun c => decode c 7) zeq27).trans (by decide +kernel)
theorem d27_10 : decode (zB 27) 10 = .ok (.iconst 1, 1) := (congrArg (fun c => decode c 10) zeq27).trans (by decide +kernel)
theorem d27_11 : decode (zB 27) 11 = .ok (.goto 4, 3) := (congrArg (fun c => decode c 11) zeq27).trans (by decide +kernel)
theorem d27_14 : decode (zB 27) 14 = .ok (.iconst 0, 1) := (congrArg (fun c => decode c 14) zeq27).trans (by decide +kernel)
theorem d27_15 : decode (zB 27) 15 = .ok (.ireturn, 1) := (congrArg (fun c => decode c 15) zeq27).trans (by decide +kernel)
theorem c27 {d : Nat} {M : zM} {Q : Option Value → zM → Prop} {a : Nat} (ha : a < 6) (k : Q (some (.int (bI (decide (a ≠ 4 ∧ a ≠ 5))))) M) : qC (d + 1) 27 [.int (nI a)] M Q := by
  refine qC_of (by decide) (Nat.le_of_ble_eq_true rfl) ?_
  refine q_iload_n d27_0 rfl ?_
  refine q_iconstN (z := 4) d27_1 ?_
  refine nc_eq 14 d27_2 (by decide) (by omega) (by omega) (fun h2 => ?_) (fun h2 => ?_)
  · refine q_iconstN (z := 0) d27_14 ?_
    refine q_zret d27_15 rfl (by decide) ?_
    exact bK0 k (by simp; omega)
  · refine q_iload_n d27_5 rfl ?_
    refine q_iconstN (z := 5) d27_6 ?_
    refine nc_eq 14 d27_7 (by decide) (by omega) (by omega) (fun h7 => ?_) (fun h7 => ?_)
    · refine q_iconstN (z := 0) d27_14 ?_
      refine q_zret d27_15 rfl (by decide) ?_
      exact bK0 k (by simp; omega)
    · refine q_iconstN (z := 1) d27_10 ?_
      refine q_goto 15 d27_11 (by decide) ?_
      refine q_zret d27_15 rfl (by decide) ?_
      exact bK1 k (by simp; omega)
theorem d48_0 : decode (zB 48) 0 = .ok (.iload_n 0, 1) := (congrArg (fun c => decode c 0) zeq48).trans (by decide +kernel)
theorem d48_1 : decode (zB 48) 1 = .ok (.ifCond .ne 7, 3) := (congrArg (fun c => decode c 1) zeq48).trans (by decide +kernel)
theorem d48_4 : decode (zB 48) 4 = .ok (.iload_n 1, 1) := (congrArg (fun c => decode c 4) zeq48).trans (by decide +kernel)
theorem d48_5 : decode (zB 48) 5 = .ok (.goto 19, 3) := (congrArg (fun c => decode c 5) zeq48).trans (by decide +kernel)
theorem d48_8 : decode (zB 48) 8 = .ok (.iload_n 0, 1) := (congrArg (fun c => decode c 8) zeq48).trans (by decide +kernel)
theorem d48_9 : decode (zB 48) 9 = .ok (.iconst 4, 1) := (congrArg (fun c => decode c 9) zeq48).trans (by decide +kernel)
theorem d48_10 : decode (zB 48) 10 = .ok (.if_icmp .eq 8, 3) := (congrArg (fun c => decode c 10) zeq48).trans (by decide +kernel)
theorem d48_13 : decode (zB 48) 13 = .ok (.iload_n 0, 1) := (congrArg (fun c => decode c 13) zeq48).trans (by decide +kernel)
theorem d48_14 : decode (zB 48) 14 = .ok (.iconst 5, 1) := (congrArg (fun c => decode c 14) zeq48).trans (by decide +kernel)
theorem d48_15 : decode (zB 48) 15 = .ok (.if_icmp .ne 7, 3) := (congrArg (fun c => decode c 15) zeq48).trans (by decide +kernel)
theorem d48_18 : decode (zB 48) 18 = .ok (.iconst 0, 1) := (congrArg (fun c => decode c 18) zeq48).trans (by decide +kernel)
theorem d48_19 : decode (zB 48) 19 = .ok (.goto 5, 3) := (congrArg (fun c => decode c 19) zeq48).trans (by decide +kernel)
theorem d48_22 : decode (zB 48) 22 = .ok (.iload_n 1, 1) := (congrArg (fun c => decode c 22) zeq48).trans (by decide +kernel)
theorem d48_23 : decode (zB 48) 23 = .ok (.ineg, 1) := (congrArg (fun c => decode c 23) zeq48).trans (by decide +kernel)
theorem d48_24 : decode (zB 48) 24 = .ok (.ireturn, 1) := (congrArg (fun c => decode c 24) zeq48).trans (by decide +kernel)
theorem c48 {d : Nat} {M : zM} {Q : Option Value → zM → Prop} {a : Nat} {n : Int32} (ha : a < 6) (k : Q (some (.int (yf1 a n))) M) : qC (d + 1) 48 [.int (nI a), .int n] M Q := by
  refine qC_of (by decide) (Nat.le_of_ble_eq_true rfl) ?_
  refine q_iload_n d48_0 rfl ?_
  refine n0_ne 8 d48_1 (by decide) (by omega) (fun h1 => ?_) (fun h1 => ?_)
  · refine q_iload_n d48_8 rfl ?_
    refine q_iconstN (z := 4) d48_9 ?_
    refine nc_eq 18 d48_10 (by decide) (by omega) (by omega) (fun h10 => ?_) (fun h10 => ?_)
    · refine q_iconstN (z := 0) d48_18 ?_
      refine q_goto 24 d48_19 (by decide) ?_
      refine q_iret d48_24 rfl ?_
      exact nK k (by unfold yf1; first | rw [if_pos (by omega)] | (rw [if_neg (by omega), if_pos (by omega)]; rfl) | rw [if_neg (by omega), if_neg (by omega)])
    · refine q_iload_n d48_13 rfl ?_
      refine q_iconstN (z := 5) d48_14 ?_
      refine nc_ne 22 d48_15 (by decide) (by omega) (by omega) (fun h15 => ?_) (fun h15 => ?_)
      · refine q_iload_n d48_22 rfl ?_
        refine q_ineg d48_23 ?_
        refine q_iret d48_24 rfl ?_
        exact nK k (by unfold yf1; first | rw [if_pos (by omega)] | (rw [if_neg (by omega), if_pos (by omega)]; rfl) | rw [if_neg (by omega), if_neg (by omega)])
      · refine q_iconstN (z := 0) d48_18 ?_
        refine q_goto 24 d48_19 (by decide) ?_
        refine q_iret d48_24 rfl ?_
        exact nK k (by unfold yf1; first | rw [if_pos (by omega)] | (rw [if_neg (by omega), if_pos (by omega)]; rfl) | rw [if_neg (by omega), if_neg (by omega)])
  · refine q_iload_n d48_4 rfl ?_
    refine q_goto 24 d48_5 (by decide) ?_
    refine q_iret d48_24 rfl ?_
    exact nK k (by unfold yf1; first | rw [if_pos (by omega)] | (rw [if_neg (by omega), if_pos (by omega)]; rfl) | rw [if_neg (by omega), if_neg (by omega)])
theorem d50_0 : decode (zB 50) 0 = .ok (.iload_n 0, 1) := (congrArg (fun c => decode c 0) zeq50).trans (by decide +kernel)
theorem d50_1 : decode (zB 50) 1 = .ok (.iconst 2, 1) := (congrArg (fun c => decode c 1) zeq50).trans (by decide +kernel)
theorem d50_2 : decode (zB 50) 2 = .ok (.if_icmp .ne 7, 3) := (congrArg (fun c => decode c 2) zeq50).trans (by decide +kernel)
theorem d50_5 : decode (zB 50) 5 = .ok (.iload_n 1, 1) := (congrArg (fun c => decode c 5) zeq50).trans (by decide +kernel)
theorem d50_6 : decode (zB 50) 6 = .ok (.goto 4, 3) := (congrArg (fun c => decode c 6) zeq50).trans (by decide +kernel)
theorem d50_9 : decode (zB 50) 9 = .ok (.iconst 0, 1) := (congrArg (fun c => decode c 9) zeq50).trans (by decide +kernel)
theorem d50_10 : decode (zB 50) 10 = .ok (.ireturn, 1) := (congrArg (fun c => decode c 10) zeq50).trans (by decide +kernel)
theorem c50 {d : Nat} {M : zM} {Q : Option Value → zM → Prop} {a : Nat} {n : Int32} (ha : a < 6) (k : Q (some (.int (yf2 a n))) M) : qC (d + 1) 50 [.int (nI a), .int n] M Q := by
  refine qC_of (by decide) (Nat.le_of_ble_eq_true rfl) ?_
  refine q_iload_n d50_0 rfl ?_
  refine q_iconstN (z := 2) d50_1 ?_
  refine nc_ne 9 d50_2 (by decide) (by omega) (by omega) (fun h2 => ?_) (fun h2 => ?_)
  · refine q_iconstN (z := 0) d50_9 ?_
    refine q_iret d50_10 rfl ?_
    exact nK k (by unfold yf2; first | rw [if_pos (by omega)] | (rw [if_neg (by omega)]; rfl))
  · refine q_iload_n d50_5 rfl ?_
    refine q_goto 10 d50_6 (by decide) ?_
    refine q_iret d50_10 rfl ?_
    exact nK k (by unfold yf2; first | rw [if_pos (by omega)] | (rw [if_neg (by omega)]; rfl))
/-! ===== contracts: texts ===== -/
theorem zix_of {x : Int32} {n : Nat} (h0 : ¬ x < 0) (h1 : ¬ nI n ≤ x) (hn : n < 2147483648) : 0 ≤ x.toInt ∧ x.toInt < n := by
  rw [Int32.lt_iff_toInt_lt] at h0
  rw [Int32.le_iff_toInt_le, nI_toInt hn] at h1
  have : (0 : Int32).toInt = 0 := rfl
  omega
theorem zdf_lt {a b n : Nat} (h : a < 2 ^ n) : zdf a b < 2 ^ n := by
  apply Nat.lt_pow_two_of_testBit
  intro i hi
  rw [zdf_bit, Nat.testBit_lt_two_pow (Nat.lt_of_lt_of_le h (Nat.pow_le_pow_right (by omega) hi))]; rfl
theorem or_lt {a b n : Nat} (ha : a < 2 ^ n) (hb : b < 2 ^ n) : a ||| b < 2 ^ n := Nat.or_lt_two_pow ha hb
theorem ymk_t {f : Nat → Bool} {i : Nat} (h : f i = true) : ymk f (i + 1) = ymk f i ||| 2 ^ i := by rw [ymk, if_pos h]
theorem ymk_f {f : Nat → Bool} {i : Nat} (h : f i = false) : ymk f (i + 1) = ymk f i := by rw [ymk, h]; exact Nat.or_zero _
theorem ymk_lt12 (f : Nat → Bool) {i : Nat} (h : i ≤ 12) : ymk f i < 4096 := Nat.lt_of_lt_of_le (ymk_lt f i) (Nat.pow_le_pow_right (by omega) h)
theorem pow_12 {i : Nat} (h : i ≤ 12) : 2 ^ i ≤ 4096 := Nat.pow_le_pow_right (by omega) h
theorem OKT.n {T : yT} (h : OKT T) : tn T ≤ 12 := h.2.1
theorem OKT.a {T : yT} (h : OKT T) {k : Nat} (hk : k < tn T) : ta T k < 4096 := Nat.lt_of_lt_of_le (h.2.2.2 k hk).2.1 (pow_12 (by have := h.2.1; omega))
theorem OKT.k {T : yT} (h : OKT T) {k : Nat} (hk : k < tn T) : tk T k < 6 := (h.2.2.2 k hk).1
theorem zdf_12 {a b : Nat} (h : a < 4096) : zdf a b < 4096 := zdf_lt (n := 12) h
theorem d47_0 : decode (zB 47) 0 = .ok (.iload_n 1, 1) := (congrArg (fun c => decode c 0) zeq47).trans (by decide +kernel)
theorem d47_1 : decode (zB 47) 1 = .ok (.ifCond .lt 15, 3) := (congrArg (fun c => decode c 1) zeq47).trans (by decide +kernel)
theorem d47_4 : decode (zB 47) 4 = .ok (.iload_n 1, 1) := (congrArg (fun c => decode c 4) zeq47).trans (by decide +kernel)
theorem d47_5 : decode (zB 47) 5 = .ok (.aload_n 0, 1) := (congrArg (fun c => decode c 5) zeq47).trans (by decide +kernel)
theorem d47_6 : decode (zB 47) 6 = .ok (.getfield 34, 3) := (congrArg (fun c => decode c 6) zeq47).trans (by decide +kernel)
theorem d47_9 : decode (zB 47) 9 = .ok (.if_icmp .ge 7, 3) := (congrArg (fun c => decode c 9) zeq47).trans (by decide +kernel)
theorem d47_12 : decode (zB 47) 12 = .ok (.iconst 1, 1) := (congrArg (fun c => decode c 12) zeq47).trans (by decide +kernel)
theorem d47_13 : decode (zB 47) 13 = .ok (.goto 4, 3) := (congrArg (fun c => decode c 13) zeq47).trans (by decide +kernel)
theorem d47_16 : decode (zB 47) 16 = .ok (.iconst 0, 1) := (congrArg (fun c => decode c 16) zeq47).trans (by decide +kernel)
theorem d47_17 : decode (zB 47) 17 = .ok (.ireturn, 1) := (congrArg (fun c => decode c 17) zeq47).trans (by decide +kernel)
theorem c47 {d : Nat} {M : zM} {Q : Option Value → zM → Prop} {a : Nat} {T : yT} {x : Int32} (hp : SPr M a) (hr : RP M a T) (hn : tn T ≤ 12) (k : Q (some (.int (bI (zix x (tn T)).isSome))) M) : qC (d + 1) 47 [.ref a, .int x] M Q := by
  refine qC_of (by decide) (Nat.le_of_ble_eq_true rfl) ?_
  rcases zix_c x (n := tn T) (by omega) with ⟨j, hj, rfl, e⟩ | ⟨e, hn2⟩
  · rw [e] at k
    refine q_iload_n d47_0 rfl ?_
    refine n0_lt 16 d47_1 (by decide) (by omega) (fun q => absurd q (Nat.not_lt_zero _)) (fun _ => ?_)
    refine q_iload_n d47_4 rfl ?_
    refine q_aload_n d47_5 rfl ?_
    refine q_getv (c := 1) (f := 6) d47_6 ⟨rfl, by decide⟩ hp.1 hr.1 ?_
    refine nc_ge 16 d47_9 (by decide) (by omega) (by omega) (fun h9 => (False.elim (by omega))) (fun h9 => ?_)
    refine q_iconstN (z := 1) d47_12 ?_
    refine q_goto 17 d47_13 (by decide) ?_
    refine q_zret d47_17 rfl (by decide) ?_
    exact k
  · rw [e] at k
    refine q_iload_n d47_0 rfl ?_
    refine i0_lt 16 d47_1 (by decide) (fun h1 => ?_) (fun h1 => ?_)
    · refine q_iconstN (z := 0) d47_16 ?_
      refine q_zret d47_17 rfl (by decide) ?_
      exact k
    · refine q_iload_n d47_4 rfl ?_
      refine q_aload_n d47_5 rfl ?_
      refine q_getv (c := 1) (f := 6) d47_6 ⟨rfl, by decide⟩ hp.1 hr.1 ?_
      refine ic_ge 16 d47_9 (by decide) (fun h9 => ?_) (fun h9 => ?_)
      · refine q_iconstN (z := 0) d47_16 ?_
        refine q_zret d47_17 rfl (by decide) ?_
        exact k
      · refine q_iconstN (z := 1) d47_12 ?_
        refine q_goto 17 d47_13 (by decide) ?_
        refine q_zret d47_17 rfl (by decide) ?_
        exact absurd (zix_of h1 h9 (by omega)) hn2
theorem c47t {d : Nat} {M : zM} {Q : Option Value → zM → Prop} {a : Nat} {T : yT} {x : Nat} (hp : SPr M a) (hr : RP M a T) (hn : tn T ≤ 12) (hx : x < tn T) (k : Q (some (.int (nI 1))) M) : qC (d + 1) 47 [.ref a, .int (nI x)] M Q := c47 hp hr hn (by rw [zix_in hx (by omega)]; exact k)
theorem d37_0 : decode (zB 37) 0 = .ok (.iconst 1, 1) := (congrArg (fun c => decode c 0) zeq37).trans (by decide +kernel)
theorem d37_1 : decode (zB 37) 1 = .ok (.aload_n 0, 1) := (congrArg (fun c => decode c 1) zeq37).trans (by decide +kernel)
theorem d37_2 : decode (zB 37) 2 = .ok (.getfield 34, 3) := (congrArg (fun c => decode c 2) zeq37).trans (by decide +kernel)
theorem d37_5 : decode (zB 37) 5 = .ok (.ishl, 1) := (congrArg (fun c => decode c 5) zeq37).trans (by decide +kernel)
theorem d37_6 : decode (zB 37) 6 = .ok (.iconst 1, 1) := (congrArg (fun c => decode c 6) zeq37).trans (by decide +kernel)
theorem d37_7 : decode (zB 37) 7 = .ok (.isub, 1) := (congrArg (fun c => decode c 7) zeq37).trans (by decide +kernel)
theorem d37_8 : decode (zB 37) 8 = .ok (.ireturn, 1) := (congrArg (fun c => decode c 8) zeq37).trans (by decide +kernel)
theorem c37 {d : Nat} {M : zM} {Q : Option Value → zM → Prop} {a : Nat} {T : yT} (hp : SPr M a) (hr : RP M a T) (hn : tn T ≤ 12) (k : Q (some (.int (nI (2 ^ tn T - 1)))) M) : qC (d + 1) 37 [.ref a] M Q := by
  refine qC_of (by decide) (Nat.le_of_ble_eq_true rfl) ?_
  refine q_iconstN (z := 1) d37_0 ?_
  refine q_aload_n d37_1 rfl ?_
  refine q_getv (c := 1) (f := 6) d37_2 ⟨rfl, by decide⟩ hp.1 hr.1 ?_
  refine n_ishl1 d37_5 (by omega) ?_
  refine q_iconstN (z := 1) d37_6 ?_
  refine n_isub d37_7 Nat.one_le_two_pow ?_
  refine q_iret d37_8 rfl ?_
  exact k
theorem d77_0 : decode (zB 77) 0 = .ok (.aload_n 0, 1) := (congrArg (fun c => decode c 0) zeq77).trans (by decide +kernel)
theorem d77_1 : decode (zB 77) 1 = .ok (.getfield 30, 3) := (congrArg (fun c => decode c 1) zeq77).trans (by decide +kernel)
theorem d77_4 : decode (zB 77) 4 = .ok (.iconst (-1), 1) := (congrArg (fun c => decode c 4) zeq77).trans (by decide +kernel)
theorem d77_5 : decode (zB 77) 5 = .ok (.if_icmp .eq 18, 3) := (congrArg (fun c => decode c 5) zeq77).trans (by decide +kernel)
theorem d77_8 : decode (zB 77) 8 = .ok (.aload_n 0, 1) := (congrArg (fun c => decode c 8) zeq77).trans (by decide +kernel)
theorem d77_9 : decode (zB 77) 9 = .ok (.getfield 30, 3) := (congrArg (fun c => decode c 9) zeq77).trans (by decide +kernel)
theorem d77_12 : decode (zB 77) 12 = .ok (.iload_n 1, 1) := (congrArg (fun c => decode c 12) zeq77).trans (by decide +kernel)
theorem d77_13 : decode (zB 77) 13 = .ok (.iconst (-1), 1) := (congrArg (fun c => decode c 13) zeq77).trans (by decide +kernel)
theorem d77_14 : decode (zB 77) 14 = .ok (.ixor, 1) := (congrArg (fun c => decode c 14) zeq77).trans (by decide +kernel)
theorem d77_15 : decode (zB 77) 15 = .ok (.iand, 1) := (congrArg (fun c => decode c 15) zeq77).trans (by decide +kernel)
theorem d77_16 : decode (zB 77) 16 = .ok (.ifCond .ne 7, 3) := (congrArg (fun c => decode c 16) zeq77).trans (by decide +kernel)
theorem d77_19 : decode (zB 77) 19 = .ok (.iconst 1, 1) := (congrArg (fun c => decode c 19) zeq77).trans (by decide +kernel)
theorem d77_20 : decode (zB 77) 20 = .ok (.goto 4, 3) := (congrArg (fun c => decode c 20) zeq77).trans (by decide +kernel)
theorem d77_23 : decode (zB 77) 23 = .ok (.iconst 0, 1) := (congrArg (fun c => decode c 23) zeq77).trans (by decide +kernel)
theorem d77_24 : decode (zB 77) 24 = .ok (.ireturn, 1) := (congrArg (fun c => decode c 24) zeq77).trans (by decide +kernel)
theorem c77 {d : Nat} {M : zM} {Q : Option Value → zM → Prop} {a : Nat} {T : yT} {dm : Nat} (hp : SPr M a) (hr : RP M a T) (k : Q (some (.int (bI (ypa T dm)))) M) : qC (d + 1) 77 [.ref a, .int (nI dm)] M Q := by
  refine qC_of (by decide) (Nat.le_of_ble_eq_true rfl) ?_
  refine q_aload_n d77_0 rfl ?_
  refine q_getv (c := 1) (f := 7) d77_1 ⟨rfl, by decide⟩ hp.1 hr.2.1 ?_
  refine q_iconst (x := (-1)) d77_4 rfl ?_
  refine ic_eq 23 d77_5 (by decide) (fun h5 => ?_) (fun h5 => ?_)
  · refine q_iconstN (z := 0) d77_23 ?_
    refine q_zret d77_24 rfl (by decide) ?_
    first | exact bK0 k (decide_eq_false (fun q => q.1 h5)) | exact bK0 k (decide_eq_false (fun q => h16 q.2))
  · refine q_aload_n d77_8 rfl ?_
    refine q_getv (c := 1) (f := 7) d77_9 ⟨rfl, by decide⟩ hp.1 hr.2.1 ?_
    refine q_iload_n d77_12 rfl ?_
    refine q_iconst (x := (-1)) d77_13 rfl ?_
    refine q_ixor d77_14 ?_
    refine q_iand d77_15 ?_
    refine i0_ne 23 d77_16 (by decide) (fun h16 => ?_) (fun h16 => ?_)
    · refine q_iconstN (z := 0) d77_23 ?_
      refine q_zret d77_24 rfl (by decide) ?_
      first | exact bK0 k (decide_eq_false (fun q => q.1 h5)) | exact bK0 k (decide_eq_false (fun q => h16 q.2))
    · refine q_iconstN (z := 1) d77_19 ?_
      refine q_goto 24 d77_20 (by decide) ?_
      refine q_zret d77_24 rfl (by decide) ?_
      exact bK1 k (decide_eq_true ⟨h5, h16⟩)
theorem d44_0 : decode (zB 44) 0 = .ok (.iconst 0, 1) := (congrArg (fun c => decode c 0) zeq44).trans (by decide +kernel)
theorem d44_1 : decode (zB 44) 1 = .ok (.istore_n 2, 1) := (congrArg (fun c => decode c 1) zeq44).trans (by decide +kernel)
theorem d44_2 : decode (zB 44) 2 = .ok (.iconst 0, 1) := (congrArg (fun c => decode c 2) zeq44).trans (by decide +kernel)
theorem d44_3 : decode (zB 44) 3 = .ok (.istore_n 3, 1) := (congrArg (fun c => decode c 3) zeq44).trans (by decide +kernel)
theorem d44_4 : decode (zB 44) 4 = .ok (.iload_n 3, 1) := (congrArg (fun c => decode c 4) zeq44).trans (by decide +kernel)
theorem d44_5 : decode (zB 44) 5 = .ok (.aload_n 0, 1) := (congrArg (fun c => decode c 5) zeq44).trans (by decide +kernel)
theorem d44_6 : decode (zB 44) 6 = .ok (.getfield 34, 3) := (congrArg (fun c => decode c 6) zeq44).trans (by decide +kernel)
theorem d44_9 : decode (zB 44) 9 = .ok (.if_icmp .ge 36, 3) := (congrArg (fun c => decode c 9) zeq44).trans (by decide +kernel)
theorem d44_12 : decode (zB 44) 12 = .ok (.iload_n 1, 1) := (congrArg (fun c => decode c 12) zeq44).trans (by decide +kernel)
theorem d44_13 : decode (zB 44) 13 = .ok (.iload_n 3, 1) := (congrArg (fun c => decode c 13) zeq44).trans (by decide +kernel)
theorem d44_14 : decode (zB 44) 14 = .ok (.invokestatic 37, 3) := (congrArg (fun c => decode c 14) zeq44).trans (by decide +kernel)
theorem d44_17 : decode (zB 44) 17 = .ok (.ifCond .ne 22, 3) := (congrArg (fun c => decode c 17) zeq44).trans (by decide +kernel)
theorem d44_20 : decode (zB 44) 20 = .ok (.aload_n 0, 1) := (congrArg (fun c => decode c 20) zeq44).trans (by decide +kernel)
theorem d44_21 : decode (zB 44) 21 = .ok (.getfield 24, 3) := (congrArg (fun c => decode c 21) zeq44).trans (by decide +kernel)
theorem d44_24 : decode (zB 44) 24 = .ok (.iload_n 3, 1) := (congrArg (fun c => decode c 24) zeq44).trans (by decide +kernel)
theorem d44_25 : decode (zB 44) 25 = .ok (.iaload, 1) := (congrArg (fun c => decode c 25) zeq44).trans (by decide +kernel)
theorem d44_26 : decode (zB 44) 26 = .ok (.iload_n 1, 1) := (congrArg (fun c => decode c 26) zeq44).trans (by decide +kernel)
theorem d44_27 : decode (zB 44) 27 = .ok (.iconst (-1), 1) := (congrArg (fun c => decode c 27) zeq44).trans (by decide +kernel)
theorem d44_28 : decode (zB 44) 28 = .ok (.ixor, 1) := (congrArg (fun c => decode c 28) zeq44).trans (by decide +kernel)
theorem d44_29 : decode (zB 44) 29 = .ok (.iand, 1) := (congrArg (fun c => decode c 29) zeq44).trans (by decide +kernel)
theorem d44_30 : decode (zB 44) 30 = .ok (.ifCond .ne 9, 3) := (congrArg (fun c => decode c 30) zeq44).trans (by decide +kernel)
theorem d44_33 : decode (zB 44) 33 = .ok (.iload_n 2, 1) := (congrArg (fun c => decode c 33) zeq44).trans (by decide +kernel)
theorem d44_34 : decode (zB 44) 34 = .ok (.iconst 1, 1) := (congrArg (fun c => decode c 34) zeq44).trans (by decide +kernel)
theorem d44_35 : decode (zB 44) 35 = .ok (.iload_n 3, 1) := (congrArg (fun c => decode c 35) zeq44).trans (by decide +kernel)
theorem d44_36 : decode (zB 44) 36 = .ok (.ishl, 1) := (congrArg (fun c => decode c 36) zeq44).trans (by decide +kernel)
theorem d44_37 : decode (zB 44) 37 = .ok (.ior, 1) := (congrArg (fun c => decode c 37) zeq44).trans (by decide +kernel)
theorem d44_38 : decode (zB 44) 38 = .ok (.istore_n 2, 1) := (congrArg (fun c => decode c 38) zeq44).trans (by decide +kernel)
theorem d44_39 : decode (zB 44) 39 = .ok (.iinc 3 1, 3) := (congrArg (fun c => decode c 39) zeq44).trans (by decide +kernel)
theorem d44_42 : decode (zB 44) 42 = .ok (.goto (-38), 3) := (congrArg (fun c => decode c 42) zeq44).trans (by decide +kernel)
theorem d44_45 : decode (zB 44) 45 = .ok (.iload_n 2, 1) := (congrArg (fun c => decode c 45) zeq44).trans (by decide +kernel)
theorem d44_46 : decode (zB 44) 46 = .ok (.ireturn, 1) := (congrArg (fun c => decode c 46) zeq44).trans (by decide +kernel)
theorem l44 {d : Nat} {M : zM} {Q : Option Value → zM → Prop} {a : Nat} {T : yT} {set : Nat} (hp : SPr M a) (hr : RP M a T) (ho : OKT T) (hs : set < 4096) (k : Q (some (.int (nI (ynx T set)))) M) : ∀ (r i : Nat), i ≤ tn T → tn T < i + r → qW (zEv (d + 1)) 44 Q 4 [(3, .int (nI i)), (2, .int (nI (ymk (fun i => !set.testBit i && zdf (ta T i) set == 0) i))), (0, .ref a), (1, .int (nI set))] [] M := by
  intro r
  induction r with
  | zero => intros; omega
  | succ r ih =>
    intro i  h1 h2 
    have hn := ho.n
    refine q_iload_n d44_4 rfl ?_
    refine q_aload_n d44_5 rfl ?_
    refine q_getv (c := 1) (f := 6) d44_6 ⟨rfl, by decide⟩ hp.1 hr.1 ?_
    refine nc_ge 45 d44_9 (by decide) (by omega) (by omega) (fun h9 => ?_) (fun h9 => ?_)
    · refine q_iload_n d44_45 rfl ?_
      refine q_iret d44_46 rfl ?_
      rw [show i = tn T by omega]; exact k
    · refine q_iload_n d44_12 rfl ?_
      refine q_iload_n d44_13 rfl ?_
      refine q_s2 d44_14 (Or.inr rfl) rfl (Nat.le_of_ble_eq_true rfl) (c35 (by omega) (by omega) ?_)
      refine b0_ne 39 d44_17 (by decide) (fun h17 => ?_) (fun h17 => ?_)
      · refine n_iinc 1 d44_39 (by decide) rfl rfl ?_
        refine q_goto 4 d44_42 (by decide) ?_
        first | (rw [← ymk_t (f := (fun i => !set.testBit i && zdf (ta T i) set == 0)) (by simp [h17, h30])]; exact ih (i + 1) (by omega) (by omega)) | (rw [← ymk_f (f := (fun i => !set.testBit i && zdf (ta T i) set == 0)) (i := i) (by simp_all)]; exact ih (i + 1) (by omega) (by omega))
      · have hz : zdf (ta T i) set < 4096 := zdf_12 (ho.a (by omega))
        refine q_aload_n d44_20 rfl ?_
        refine q_getr (c := 1) (f := 4) d44_21 ⟨rfl, rfl⟩ hp.1 (hp.2 4 (by decide)).1 ?_
        refine q_iload_n d44_24 rfl ?_
        refine n_iald d44_25 (hp.2 4 (by decide)).2 (by omega) (by decide) (hr.2.2 _ (by omega)).2.2.2.2 ?_
        refine q_iload_n d44_26 rfl ?_
        refine q_iconst (x := (-1)) d44_27 rfl ?_
        refine q_ixor d44_28 ?_
        refine n_iandn d44_29 ?_
        refine n0_ne 39 d44_30 (by decide) (by omega) (fun h30 => ?_) (fun h30 => ?_)
        · refine n_iinc 1 d44_39 (by decide) rfl rfl ?_
          refine q_goto 4 d44_42 (by decide) ?_
          first | (rw [← ymk_t (f := (fun i => !set.testBit i && zdf (ta T i) set == 0)) (by simp [h17, h30])]; exact ih (i + 1) (by omega) (by omega)) | (rw [← ymk_f (f := (fun i => !set.testBit i && zdf (ta T i) set == 0)) (i := i) (by simp_all)]; exact ih (i + 1) (by omega) (by omega))
        · refine q_iload_n d44_33 rfl ?_
          refine q_iconstN (z := 1) d44_34 ?_
          refine q_iload_n d44_35 rfl ?_
          refine n_ishl1 d44_36 (by omega) ?_
          refine n_ior d44_37 ?_
          refine q_istore_n d44_38 (by decide) rfl ?_
          refine n_iinc 1 d44_39 (by decide) rfl rfl ?_
          refine q_goto 4 d44_42 (by decide) ?_
          first | (rw [← ymk_t (f := (fun i => !set.testBit i && zdf (ta T i) set == 0)) (by simp [h17, h30])]; exact ih (i + 1) (by omega) (by omega)) | (rw [← ymk_f (f := (fun i => !set.testBit i && zdf (ta T i) set == 0)) (i := i) (by simp_all)]; exact ih (i + 1) (by omega) (by omega))
theorem c44 {d : Nat} {M : zM} {Q : Option Value → zM → Prop} {a : Nat} {T : yT} {set : Nat} (hp : SPr M a) (hr : RP M a T) (ho : OKT T) (hs : set < 4096) (k : Q (some (.int (nI (ynx T set)))) M) : qC (d + 2) 44 [.ref a, .int (nI set)] M Q := by
  refine qC_of (by decide) (Nat.le_of_ble_eq_true rfl) ?_
  refine q_iconstN (z := 0) d44_0 ?_
  refine q_istore_n d44_1 (by decide) rfl ?_
  refine q_iconstN (z := 0) d44_2 ?_
  refine q_istore_n d44_3 (by decide) rfl ?_
  exact l44 hp hr ho hs k (tn T + 1) 0 (by omega) (by omega)
/-- steps beside one of a text -/
def ybd (T : yT) (i : Nat) : Nat := ymk (fun k => !(k == i) && !(ta T i).testBit k && !(ta T k).testBit i) (tn T)
theorem zdf_all {m n : Nat} (f : Nat → Bool) (h : ∀ k, k < n → m.testBit k = !f k) : zdf (2 ^ n - 1) m = ymk f n := by
  apply ymk_is
  intro i
  rw [zdf_bit, Nat.testBit_two_pow_sub_one]
  by_cases hi : i < n
  · rw [h i hi]; simp
  · rw [decide_eq_false hi]; rfl
theorem or_bit_t {m i k : Nat} : (m ||| 2 ^ i).testBit k = (m.testBit k || decide (k = i)) := by
  rw [Nat.testBit_or, Nat.testBit_two_pow, show decide (i = k) = decide (k = i) by simp only [decide_eq_decide]; omega]
theorem d39_0 : decode (zB 39) 0 = .ok (.iconst 1, 1) := (congrArg (fun c => decode c 0) zeq39).trans (by decide +kernel)
theorem d39_1 : decode (zB 39) 1 = .ok (.iload_n 1, 1) := (congrArg (fun c => decode c 1) zeq39).trans (by decide +kernel)
theorem d39_2 : decode (zB 39) 2 = .ok (.ishl, 1) := (congrArg (fun c => decode c 2) zeq39).trans (by decide +kernel)
theorem d39_3 : decode (zB 39) 3 = .ok (.istore_n 2, 1) := (congrArg (fun c => decode c 3) zeq39).trans (by decide +kernel)
theorem d39_4 : decode (zB 39) 4 = .ok (.iconst 0, 1) := (congrArg (fun c => decode c 4) zeq39).trans (by decide +kernel)
theorem d39_5 : decode (zB 39) 5 = .ok (.istore_n 3, 1) := (congrArg (fun c => decode c 5) zeq39).trans (by decide +kernel)
theorem d39_6 : decode (zB 39) 6 = .ok (.iload_n 3, 1) := (congrArg (fun c => decode c 6) zeq39).trans (by decide +kernel)
theorem d39_7 : decode (zB 39) 7 = .ok (.aload_n 0, 1) := (congrArg (fun c => decode c 7) zeq39).trans (by decide +kernel)
theorem d39_8 : decode (zB 39) 8 = .ok (.getfield 34, 3) := (congrArg (fun c => decode c 8) zeq39).trans (by decide +kernel)
theorem d39_11 : decode (zB 39) 11 = .ok (.if_icmp .ge 41, 3) := (congrArg (fun c => decode c 11) zeq39).trans (by decide +kernel)
theorem d39_14 : decode (zB 39) 14 = .ok (.aload_n 0, 1) := (congrArg (fun c => decode c 14) zeq39).trans (by decide +kernel)
theorem d39_15 : decode (zB 39) 15 = .ok (.getfield 24, 3) := (congrArg (fun c => decode c 15) zeq39).trans (by decide +kernel)
theorem d39_18 : decode (zB 39) 18 = .ok (.iload_n 1, 1) := (congrArg (fun c => decode c 18) zeq39).trans (by decide +kernel)
theorem d39_19 : decode (zB 39) 19 = .ok (.iaload, 1) := (congrArg (fun c => decode c 19) zeq39).trans (by decide +kernel)
theorem d39_20 : decode (zB 39) 20 = .ok (.iload_n 3, 1) := (congrArg (fun c => decode c 20) zeq39).trans (by decide +kernel)
theorem d39_21 : decode (zB 39) 21 = .ok (.invokestatic 37, 3) := (congrArg (fun c => decode c 21) zeq39).trans (by decide +kernel)
theorem d39_24 : decode (zB 39) 24 = .ok (.ifCond .ne 16, 3) := (congrArg (fun c => decode c 24) zeq39).trans (by decide +kernel)
theorem d39_27 : decode (zB 39) 27 = .ok (.aload_n 0, 1) := (congrArg (fun c => decode c 27) zeq39).trans (by decide +kernel)
theorem d39_28 : decode (zB 39) 28 = .ok (.getfield 24, 3) := (congrArg (fun c => decode c 28) zeq39).trans (by decide +kernel)
theorem d39_31 : decode (zB 39) 31 = .ok (.iload_n 3, 1) := (congrArg (fun c => decode c 31) zeq39).trans (by decide +kernel)
theorem d39_32 : decode (zB 39) 32 = .ok (.iaload, 1) := (congrArg (fun c => decode c 32) zeq39).trans (by decide +kernel)
theorem d39_33 : decode (zB 39) 33 = .ok (.iload_n 1, 1) := (congrArg (fun c => decode c 33) zeq39).trans (by decide +kernel)
theorem d39_34 : decode (zB 39) 34 = .ok (.invokestatic 37, 3) := (congrArg (fun c => decode c 34) zeq39).trans (by decide +kernel)
theorem d39_37 : decode (zB 39) 37 = .ok (.ifCond .eq 9, 3) := (congrArg (fun c => decode c 37) zeq39).trans (by decide +kernel)
theorem d39_40 : decode (zB 39) 40 = .ok (.iload_n 2, 1) := (congrArg (fun c => decode c 40) zeq39).trans (by decide +kernel)
theorem d39_41 : decode (zB 39) 41 = .ok (.iconst 1, 1) := (congrArg (fun c => decode c 41) zeq39).trans (by decide +kernel)
theorem d39_42 : decode (zB 39) 42 = .ok (.iload_n 3, 1) := (congrArg (fun c => decode c 42) zeq39).trans (by decide +kernel)
theorem d39_43 : decode (zB 39) 43 = .ok (.ishl, 1) := (congrArg (fun c => decode c 43) zeq39).trans (by decide +kernel)
theorem d39_44 : decode (zB 39) 44 = .ok (.ior, 1) := (congrArg (fun c => decode c 44) zeq39).trans (by decide +kernel)
theorem d39_45 : decode (zB 39) 45 = .ok (.istore_n 2, 1) := (congrArg (fun c => decode c 45) zeq39).trans (by decide +kernel)
theorem d39_46 : decode (zB 39) 46 = .ok (.iinc 3 1, 3) := (congrArg (fun c => decode c 46) zeq39).trans (by decide +kernel)
theorem d39_49 : decode (zB 39) 49 = .ok (.goto (-43), 3) := (congrArg (fun c => decode c 49) zeq39).trans (by decide +kernel)
theorem d39_52 : decode (zB 39) 52 = .ok (.aload_n 0, 1) := (congrArg (fun c => decode c 52) zeq39).trans (by decide +kernel)
theorem d39_53 : decode (zB 39) 53 = .ok (.invokevirtual 41, 3) := (congrArg (fun c => decode c 53) zeq39).trans (by decide +kernel)
theorem d39_56 : decode (zB 39) 56 = .ok (.iload_n 2, 1) := (congrArg (fun c => decode c 56) zeq39).trans (by decide +kernel)
theorem d39_57 : decode (zB 39) 57 = .ok (.iconst (-1), 1) := (congrArg (fun c => decode c 57) zeq39).trans (by decide +kernel)
theorem d39_58 : decode (zB 39) 58 = .ok (.ixor, 1) := (congrArg (fun c => decode c 58) zeq39).trans (by decide +kernel)
theorem d39_59 : decode (zB 39) 59 = .ok (.iand, 1) := (congrArg (fun c => decode c 59) zeq39).trans (by decide +kernel)
theorem d39_60 : decode (zB 39) 60 = .ok (.ireturn, 1) := (congrArg (fun c => decode c 60) zeq39).trans (by decide +kernel)
theorem l39 {d : Nat} {M : zM} {Q : Option Value → zM → Prop} {a : Nat} {T : yT} {s : Nat} (hp : SPr M a) (hr : RP M a T) (ho : OKT T) (hs : s < tn T) (k : Q (some (.int (nI (ybd T s)))) M) : ∀ (r i : Nat) rel, i ≤ tn T → tn T < i + r → rel < 4096 → (∀ k, rel.testBit k = (decide (k = s) || (decide (k < i) && ((ta T s).testBit k || (ta T k).testBit s)))) → qW (zEv (d + 1)) 39 Q 6 [(3, .int (nI i)), (2, .int (nI rel)), (0, .ref a), (1, .int (nI s))] [] M := by
  intro r
  induction r with
  | zero => intros; omega
  | succ r ih =>
    intro i rel h1 h2 hl hb
    have hn := ho.n
    refine q_iload_n d39_6 rfl ?_
    refine q_aload_n d39_7 rfl ?_
    refine q_getv (c := 1) (f := 6) d39_8 ⟨rfl, by decide⟩ hp.1 hr.1 ?_
    refine nc_ge 52 d39_11 (by decide) (by omega) (by omega) (fun h11 => ?_) (fun h11 => ?_)
    · refine q_aload_n d39_52 rfl ?_
      refine q_v0 d39_53 rfl rfl hp.1 (Nat.le_of_ble_eq_true rfl) (c37 hp hr hn ?_)
      refine q_iload_n d39_56 rfl ?_
      refine q_iconst (x := (-1)) d39_57 rfl ?_
      refine q_ixor d39_58 ?_
      refine n_iandn d39_59 ?_
      refine q_iret d39_60 rfl ?_
      have e : i = tn T := by omega
      subst e
      rw [zdf_all (fun k => !(k == s) && !(ta T s).testBit k && !(ta T k).testBit s) (fun k hk => by rw [hb k]; simp [hk, Bool.or_assoc]; rfl)]
      exact k
    · have ha1 := ho.a hs
      have ha2 := ho.a (k := i) (by omega)
      refine q_aload_n d39_14 rfl ?_
      refine q_getr (c := 1) (f := 4) d39_15 ⟨rfl, rfl⟩ hp.1 (hp.2 4 (by decide)).1 ?_
      refine q_iload_n d39_18 rfl ?_
      refine n_iald d39_19 (hp.2 4 (by decide)).2 (by omega) (by decide) (hr.2.2 _ (by omega)).2.2.2.2 ?_
      refine q_iload_n d39_20 rfl ?_
      refine q_s2 d39_21 (Or.inr rfl) rfl (Nat.le_of_ble_eq_true rfl) (c35 (by omega) (by omega) ?_)
      refine b0_ne 40 d39_24 (by decide) (fun h24 => ?_) (fun h24 => ?_)
      · refine q_iload_n d39_40 rfl ?_
        refine q_iconstN (z := 1) d39_41 ?_
        refine q_iload_n d39_42 rfl ?_
        refine n_ishl1 d39_43 (by omega) ?_
        refine n_ior d39_44 ?_
        refine q_istore_n d39_45 (by decide) rfl ?_
        refine n_iinc 1 d39_46 (by decide) rfl rfl ?_
        refine q_goto 6 d39_49 (by decide) ?_
        first
        | (refine ih (i + 1) _ (by omega) (by omega) (or_lt (n := 12) hl (pow_lt (by omega))) (fun k => ?_); rw [or_bit_t, hb k]; by_cases e : k = i; (subst e; simp_all); (rw [decide_eq_false e, Bool.or_false, show decide (k < i + 1) = decide (k < i) by simp only [decide_eq_decide]; omega]))
        | (refine ih (i + 1) _ (by omega) (by omega) hl (fun k => ?_); rw [hb k]; by_cases e : k = i; (subst e; simp_all); (rw [show decide (k < i + 1) = decide (k < i) by simp only [decide_eq_decide]; omega]))
      · refine q_aload_n d39_27 rfl ?_
        refine q_getr (c := 1) (f := 4) d39_28 ⟨rfl, rfl⟩ hp.1 (hp.2 4 (by decide)).1 ?_
        refine q_iload_n d39_31 rfl ?_
        refine n_iald d39_32 (hp.2 4 (by decide)).2 (by omega) (by decide) (hr.2.2 _ (by omega)).2.2.2.2 ?_
        refine q_iload_n d39_33 rfl ?_
        refine q_s2 d39_34 (Or.inr rfl) rfl (Nat.le_of_ble_eq_true rfl) (c35 (by omega) (by omega) ?_)
        refine b0_eq 46 d39_37 (by decide) (fun h37 => ?_) (fun h37 => ?_)
        · refine n_iinc 1 d39_46 (by decide) rfl rfl ?_
          refine q_goto 6 d39_49 (by decide) ?_
          first
          | (refine ih (i + 1) _ (by omega) (by omega) (or_lt (n := 12) hl (pow_lt (by omega))) (fun k => ?_); rw [or_bit_t, hb k]; by_cases e : k = i; (subst e; simp_all); (rw [decide_eq_false e, Bool.or_false, show decide (k < i + 1) = decide (k < i) by simp only [decide_eq_decide]; omega]))
          | (refine ih (i + 1) _ (by omega) (by omega) hl (fun k => ?_); rw [hb k]; by_cases e : k = i; (subst e; simp_all); (rw [show decide (k < i + 1) = decide (k < i) by simp only [decide_eq_decide]; omega]))
        · refine q_iload_n d39_40 rfl ?_
          refine q_iconstN (z := 1) d39_41 ?_
          refine q_iload_n d39_42 rfl ?_
          refine n_ishl1 d39_43 (by omega) ?_
          refine n_ior d39_44 ?_
          refine q_istore_n d39_45 (by decide) rfl ?_
          refine n_iinc 1 d39_46 (by decide) rfl rfl ?_
          refine q_goto 6 d39_49 (by decide) ?_
          first
          | (refine ih (i + 1) _ (by omega) (by omega) (or_lt (n := 12) hl (pow_lt (by omega))) (fun k => ?_); rw [or_bit_t, hb k]; by_cases e : k = i; (subst e; simp_all); (rw [decide_eq_false e, Bool.or_false, show decide (k < i + 1) = decide (k < i) by simp only [decide_eq_decide]; omega]))
          | (refine ih (i + 1) _ (by omega) (by omega) hl (fun k => ?_); rw [hb k]; by_cases e : k = i; (subst e; simp_all); (rw [show decide (k < i + 1) = decide (k < i) by simp only [decide_eq_decide]; omega]))
theorem c39 {d : Nat} {M : zM} {Q : Option Value → zM → Prop} {a : Nat} {T : yT} {s : Nat} (hp : SPr M a) (hr : RP M a T) (ho : OKT T) (hs : s < tn T) (k : Q (some (.int (nI (ybd T s)))) M) : qC (d + 2) 39 [.ref a, .int (nI s)] M Q := by
  have hn := ho.n
  refine qC_of (by decide) (Nat.le_of_ble_eq_true rfl) ?_
  refine q_iconstN (z := 1) d39_0 ?_
  refine q_iload_n d39_1 rfl ?_
  refine n_ishl1 d39_2 (by omega) ?_
  refine q_istore_n d39_3 (by decide) rfl ?_
  refine q_iconstN (z := 0) d39_4 ?_
  refine q_istore_n d39_5 (by decide) rfl ?_
  exact l39 hp hr ho hs k (tn T + 1) 0 _ (by omega) (by omega) (Nat.lt_of_lt_of_le (pow_lt (by omega : s < 12)) (by decide)) (fun j => by rw [Nat.testBit_two_pow]; simp [eq_comm])
def yac (x : Int32) : Nat := match zix x 6 with
  | none => 0
  | some k => 2 ^ k
def yao (T : yT) (i : Nat) : Nat := yac (tf T i) ||| yac (ts T i)
theorem yac_lt (x : Int32) : yac x < 64 := by
  unfold yac
  split
  · omega
  · rename_i k h
    exact Nat.lt_of_lt_of_le (pow_lt (zix_some h).1) (by decide)
theorem d41_0 : decode (zB 41) 0 = .ok (.aload_n 0, 1) := (congrArg (fun c => decode c 0) zeq41).trans (by decide +kernel)
theorem d41_1 : decode (zB 41) 1 = .ok (.getfield 15, 3) := (congrArg (fun c => decode c 1) zeq41).trans (by decide +kernel)
theorem d41_4 : decode (zB 41) 4 = .ok (.iload_n 1, 1) := (congrArg (fun c => decode c 4) zeq41).trans (by decide +kernel)
theorem d41_5 : decode (zB 41) 5 = .ok (.iaload, 1) := (congrArg (fun c => decode c 5) zeq41).trans (by decide +kernel)
theorem d41_6 : decode (zB 41) 6 = .ok (.invokestatic 59, 3) := (congrArg (fun c => decode c 6) zeq41).trans (by decide +kernel)
theorem d41_9 : decode (zB 41) 9 = .ok (.ifCond .eq 14, 3) := (congrArg (fun c => decode c 9) zeq41).trans (by decide +kernel)
theorem d41_12 : decode (zB 41) 12 = .ok (.iconst 1, 1) := (congrArg (fun c => decode c 12) zeq41).trans (by decide +kernel)
theorem d41_13 : decode (zB 41) 13 = .ok (.aload_n 0, 1) := (congrArg (fun c => decode c 13) zeq41).trans (by decide +kernel)
theorem d41_14 : decode (zB 41) 14 = .ok (.getfield 15, 3) := (congrArg (fun c => decode c 14) zeq41).trans (by decide +kernel)
theorem d41_17 : decode (zB 41) 17 = .ok (.iload_n 1, 1) := (congrArg (fun c => decode c 17) zeq41).trans (by decide +kernel)
theorem d41_18 : decode (zB 41) 18 = .ok (.iaload, 1) := (congrArg (fun c => decode c 18) zeq41).trans (by decide +kernel)
theorem d41_19 : decode (zB 41) 19 = .ok (.ishl, 1) := (congrArg (fun c => decode c 19) zeq41).trans (by decide +kernel)
theorem d41_20 : decode (zB 41) 20 = .ok (.goto 4, 3) := (congrArg (fun c => decode c 20) zeq41).trans (by decide +kernel)
theorem d41_23 : decode (zB 41) 23 = .ok (.iconst 0, 1) := (congrArg (fun c => decode c 23) zeq41).trans (by decide +kernel)
theorem d41_24 : decode (zB 41) 24 = .ok (.istore_n 2, 1) := (congrArg (fun c => decode c 24) zeq41).trans (by decide +kernel)
theorem d41_25 : decode (zB 41) 25 = .ok (.aload_n 0, 1) := (congrArg (fun c => decode c 25) zeq41).trans (by decide +kernel)
theorem d41_26 : decode (zB 41) 26 = .ok (.getfield 18, 3) := (congrArg (fun c => decode c 26) zeq41).trans (by decide +kernel)
theorem d41_29 : decode (zB 41) 29 = .ok (.iload_n 1, 1) := (congrArg (fun c => decode c 29) zeq41).trans (by decide +kernel)
theorem d41_30 : decode (zB 41) 30 = .ok (.iaload, 1) := (congrArg (fun c => decode c 30) zeq41).trans (by decide +kernel)
theorem d41_31 : decode (zB 41) 31 = .ok (.invokestatic 59, 3) := (congrArg (fun c => decode c 31) zeq41).trans (by decide +kernel)
theorem d41_34 : decode (zB 41) 34 = .ok (.ifCond .eq 14, 3) := (congrArg (fun c => decode c 34) zeq41).trans (by decide +kernel)
theorem d41_37 : decode (zB 41) 37 = .ok (.iconst 1, 1) := (congrArg (fun c => decode c 37) zeq41).trans (by decide +kernel)
theorem d41_38 : decode (zB 41) 38 = .ok (.aload_n 0, 1) := (congrArg (fun c => decode c 38) zeq41).trans (by decide +kernel)
theorem d41_39 : decode (zB 41) 39 = .ok (.getfield 18, 3) := (congrArg (fun c => decode c 39) zeq41).trans (by decide +kernel)
theorem d41_42 : decode (zB 41) 42 = .ok (.iload_n 1, 1) := (congrArg (fun c => decode c 42) zeq41).trans (by decide +kernel)
theorem d41_43 : decode (zB 41) 43 = .ok (.iaload, 1) := (congrArg (fun c => decode c 43) zeq41).trans (by decide +kernel)
theorem d41_44 : decode (zB 41) 44 = .ok (.ishl, 1) := (congrArg (fun c => decode c 44) zeq41).trans (by decide +kernel)
theorem d41_45 : decode (zB 41) 45 = .ok (.goto 4, 3) := (congrArg (fun c => decode c 45) zeq41).trans (by decide +kernel)
theorem d41_48 : decode (zB 41) 48 = .ok (.iconst 0, 1) := (congrArg (fun c => decode c 48) zeq41).trans (by decide +kernel)
theorem d41_49 : decode (zB 41) 49 = .ok (.istore_n 3, 1) := (congrArg (fun c => decode c 49) zeq41).trans (by decide +kernel)
theorem d41_50 : decode (zB 41) 50 = .ok (.iload_n 2, 1) := (congrArg (fun c => decode c 50) zeq41).trans (by decide +kernel)
theorem d41_51 : decode (zB 41) 51 = .ok (.iload_n 3, 1) := (congrArg (fun c => decode c 51) zeq41).trans (by decide +kernel)
theorem d41_52 : decode (zB 41) 52 = .ok (.ior, 1) := (congrArg (fun c => decode c 52) zeq41).trans (by decide +kernel)
theorem d41_53 : decode (zB 41) 53 = .ok (.ireturn, 1) := (congrArg (fun c => decode c 53) zeq41).trans (by decide +kernel)
theorem c41 {d : Nat} {M : zM} {Q : Option Value → zM → Prop} {a : Nat} {T : yT} {s : Nat} (hp : SPr M a) (hr : RP M a T) (hs : s < tn T) (hn : tn T ≤ 12) (k : Q (some (.int (nI (yao T s)))) M) : qC (d + 3) 41 [.ref a, .int (nI s)] M Q := by
  refine qC_of (by decide) (Nat.le_of_ble_eq_true rfl) ?_
  rcases zix_c (tf T s) (n := 6) (by omega) with ⟨j1, h1, e1, z1⟩ | ⟨z1, h1⟩ <;> rcases zix_c (ts T s) (n := 6) (by omega) with ⟨j2, h2, e2, z2⟩ | ⟨z2, h2⟩
  · refine q_aload_n d41_0 rfl ?_
    refine q_getr (c := 1) (f := 1) d41_1 ⟨rfl, rfl⟩ hp.1 (hp.2 1 (by decide)).1 ?_
    refine q_iload_n d41_4 rfl ?_
    refine n_iald d41_5 (hp.2 1 (by decide)).2 (by omega) (by decide) ((hr.2.2 _ hs).2.1.trans e1) ?_
    refine q_s1 d41_6 (Or.inr rfl) rfl (Nat.le_of_ble_eq_true rfl) (c26t h1 ?_)
    refine n0_eq 23 d41_9 (by decide) (by decide) (fun q => absurd q (by decide)) (fun _ => ?_)
    refine q_iconstN (z := 1) d41_12 ?_
    refine q_aload_n d41_13 rfl ?_
    refine q_getr (c := 1) (f := 1) d41_14 ⟨rfl, rfl⟩ hp.1 (hp.2 1 (by decide)).1 ?_
    refine q_iload_n d41_17 rfl ?_
    refine n_iald d41_18 (hp.2 1 (by decide)).2 (by omega) (by decide) ((hr.2.2 _ hs).2.1.trans e1) ?_
    refine n_ishl1 d41_19 (by omega) ?_
    refine q_goto 24 d41_20 (by decide) ?_
    refine q_istore_n d41_24 (by decide) rfl ?_
    refine q_aload_n d41_25 rfl ?_
    refine q_getr (c := 1) (f := 2) d41_26 ⟨rfl, rfl⟩ hp.1 (hp.2 2 (by decide)).1 ?_
    refine q_iload_n d41_29 rfl ?_
    refine n_iald d41_30 (hp.2 2 (by decide)).2 (by omega) (by decide) ((hr.2.2 _ hs).2.2.1.trans e2) ?_
    refine q_s1 d41_31 (Or.inr rfl) rfl (Nat.le_of_ble_eq_true rfl) (c26t h2 ?_)
    refine n0_eq 48 d41_34 (by decide) (by decide) (fun q => absurd q (by decide)) (fun _ => ?_)
    refine q_iconstN (z := 1) d41_37 ?_
    refine q_aload_n d41_38 rfl ?_
    refine q_getr (c := 1) (f := 2) d41_39 ⟨rfl, rfl⟩ hp.1 (hp.2 2 (by decide)).1 ?_
    refine q_iload_n d41_42 rfl ?_
    refine n_iald d41_43 (hp.2 2 (by decide)).2 (by omega) (by decide) ((hr.2.2 _ hs).2.2.1.trans e2) ?_
    refine n_ishl1 d41_44 (by omega) ?_
    refine q_goto 49 d41_45 (by decide) ?_
    refine q_istore_n d41_49 (by decide) rfl ?_
    refine q_iload_n d41_50 rfl ?_
    refine q_iload_n d41_51 rfl ?_
    refine n_ior d41_52 ?_
    refine q_iret d41_53 rfl ?_
    refine nK k (congrArg nI ?_); unfold yao yac; rw [z1, z2]
  · refine q_aload_n d41_0 rfl ?_
    refine q_getr (c := 1) (f := 1) d41_1 ⟨rfl, rfl⟩ hp.1 (hp.2 1 (by decide)).1 ?_
    refine q_iload_n d41_4 rfl ?_
    refine n_iald d41_5 (hp.2 1 (by decide)).2 (by omega) (by decide) ((hr.2.2 _ hs).2.1.trans e1) ?_
    refine q_s1 d41_6 (Or.inr rfl) rfl (Nat.le_of_ble_eq_true rfl) (c26t h1 ?_)
    refine n0_eq 23 d41_9 (by decide) (by decide) (fun q => absurd q (by decide)) (fun _ => ?_)
    refine q_iconstN (z := 1) d41_12 ?_
    refine q_aload_n d41_13 rfl ?_
    refine q_getr (c := 1) (f := 1) d41_14 ⟨rfl, rfl⟩ hp.1 (hp.2 1 (by decide)).1 ?_
    refine q_iload_n d41_17 rfl ?_
    refine n_iald d41_18 (hp.2 1 (by decide)).2 (by omega) (by decide) ((hr.2.2 _ hs).2.1.trans e1) ?_
    refine n_ishl1 d41_19 (by omega) ?_
    refine q_goto 24 d41_20 (by decide) ?_
    refine q_istore_n d41_24 (by decide) rfl ?_
    refine q_aload_n d41_25 rfl ?_
    refine q_getr (c := 1) (f := 2) d41_26 ⟨rfl, rfl⟩ hp.1 (hp.2 2 (by decide)).1 ?_
    refine q_iload_n d41_29 rfl ?_
    refine n_iald d41_30 (hp.2 2 (by decide)).2 (by omega) (by decide) (hr.2.2 _ (by omega)).2.2.1 ?_
    refine q_s1 d41_31 (Or.inr rfl) rfl (Nat.le_of_ble_eq_true rfl) (c26f z2 ?_)
    refine n0_eq 48 d41_34 (by decide) (by decide) (fun _ => ?_) (fun q => absurd q (by decide))
    refine q_iconstN (z := 0) d41_48 ?_
    refine q_istore_n d41_49 (by decide) rfl ?_
    refine q_iload_n d41_50 rfl ?_
    refine q_iload_n d41_51 rfl ?_
    refine n_ior d41_52 ?_
    refine q_iret d41_53 rfl ?_
    refine nK k (congrArg nI ?_); unfold yao yac; rw [z1, z2]
  · refine q_aload_n d41_0 rfl ?_
    refine q_getr (c := 1) (f := 1) d41_1 ⟨rfl, rfl⟩ hp.1 (hp.2 1 (by decide)).1 ?_
    refine q_iload_n d41_4 rfl ?_
    refine n_iald d41_5 (hp.2 1 (by decide)).2 (by omega) (by decide) (hr.2.2 _ (by omega)).2.1 ?_
    refine q_s1 d41_6 (Or.inr rfl) rfl (Nat.le_of_ble_eq_true rfl) (c26f z1 ?_)
    refine n0_eq 23 d41_9 (by decide) (by decide) (fun _ => ?_) (fun q => absurd q (by decide))
    refine q_iconstN (z := 0) d41_23 ?_
    refine q_istore_n d41_24 (by decide) rfl ?_
    refine q_aload_n d41_25 rfl ?_
    refine q_getr (c := 1) (f := 2) d41_26 ⟨rfl, rfl⟩ hp.1 (hp.2 2 (by decide)).1 ?_
    refine q_iload_n d41_29 rfl ?_
    refine n_iald d41_30 (hp.2 2 (by decide)).2 (by omega) (by decide) ((hr.2.2 _ hs).2.2.1.trans e2) ?_
    refine q_s1 d41_31 (Or.inr rfl) rfl (Nat.le_of_ble_eq_true rfl) (c26t h2 ?_)
    refine n0_eq 48 d41_34 (by decide) (by decide) (fun q => absurd q (by decide)) (fun _ => ?_)
    refine q_iconstN (z := 1) d41_37 ?_
    refine q_aload_n d41_38 rfl ?_
    refine q_getr (c := 1) (f := 2) d41_39 ⟨rfl, rfl⟩ hp.1 (hp.2 2 (by decide)).1 ?_
    refine q_iload_n d41_42 rfl ?_
    refine n_iald d41_43 (hp.2 2 (by decide)).2 (by omega) (by decide) ((hr.2.2 _ hs).2.2.1.trans e2) ?_
    refine n_ishl1 d41_44 (by omega) ?_
    refine q_goto 49 d41_45 (by decide) ?_
    refine q_istore_n d41_49 (by decide) rfl ?_
    refine q_iload_n d41_50 rfl ?_
    refine q_iload_n d41_51 rfl ?_
    refine n_ior d41_52 ?_
    refine q_iret d41_53 rfl ?_
    refine nK k (congrArg nI ?_); unfold yao yac; rw [z1, z2]
  · refine q_aload_n d41_0 rfl ?_
    refine q_getr (c := 1) (f := 1) d41_1 ⟨rfl, rfl⟩ hp.1 (hp.2 1 (by decide)).1 ?_
    refine q_iload_n d41_4 rfl ?_
    refine n_iald d41_5 (hp.2 1 (by decide)).2 (by omega) (by decide) (hr.2.2 _ (by omega)).2.1 ?_
    refine q_s1 d41_6 (Or.inr rfl) rfl (Nat.le_of_ble_eq_true rfl) (c26f z1 ?_)
    refine n0_eq 23 d41_9 (by decide) (by decide) (fun _ => ?_) (fun q => absurd q (by decide))
    refine q_iconstN (z := 0) d41_23 ?_
    refine q_istore_n d41_24 (by decide) rfl ?_
    refine q_aload_n d41_25 rfl ?_
    refine q_getr (c := 1) (f := 2) d41_26 ⟨rfl, rfl⟩ hp.1 (hp.2 2 (by decide)).1 ?_
    refine q_iload_n d41_29 rfl ?_
    refine n_iald d41_30 (hp.2 2 (by decide)).2 (by omega) (by decide) (hr.2.2 _ (by omega)).2.2.1 ?_
    refine q_s1 d41_31 (Or.inr rfl) rfl (Nat.le_of_ble_eq_true rfl) (c26f z2 ?_)
    refine n0_eq 48 d41_34 (by decide) (by decide) (fun _ => ?_) (fun q => absurd q (by decide))
    refine q_iconstN (z := 0) d41_48 ?_
    refine q_istore_n d41_49 (by decide) rfl ?_
    refine q_iload_n d41_50 rfl ?_
    refine q_iload_n d41_51 rfl ?_
    refine n_ior d41_52 ?_
    refine q_iret d41_53 rfl ?_
    refine nK k (congrArg nI ?_); unfold yao yac; rw [z1, z2]
theorem d15_0 : decode (zB 15) 0 = .ok (.aload_n 0, 1) := (congrArg (fun c => decode c 0) zeq15).trans (by decide +kernel)
theorem d15_1 : decode (zB 15) 1 = .ok (.iconst 0, 1) := (congrArg (fun c => decode c 1) zeq15).trans (by decide +kernel)
theorem d15_2 : decode (zB 15) 2 = .ok (.putfield 34, 3) := (congrArg (fun c => decode c 2) zeq15).trans (by decide +kernel)
theorem d15_5 : decode (zB 15) 5 = .ok (.aload_n 0, 1) := (congrArg (fun c => decode c 5) zeq15).trans (by decide +kernel)
theorem d15_6 : decode (zB 15) 6 = .ok (.iconst (-1), 1) := (congrArg (fun c => decode c 6) zeq15).trans (by decide +kernel)
theorem d15_7 : decode (zB 15) 7 = .ok (.putfield 30, 3) := (congrArg (fun c => decode c 7) zeq15).trans (by decide +kernel)
theorem d15_10 : decode (zB 15) 10 = .ok (.return_, 1) := (congrArg (fun c => decode c 10) zeq15).trans (by decide +kernel)
theorem c15 {d : Nat} {M : zM} {Q : Option Value → zM → Prop} {a : Nat} (hp : SPr M a) (k : Q none (zwi (zwi M a 6 (nI 0)) a 7 (-1))) : qC (d + 1) 15 [.ref a] M Q := by
  refine qC_of (by decide) (Nat.le_of_ble_eq_true rfl) ?_
  refine q_aload_n d15_0 rfl ?_
  refine q_iconstN (z := 0) d15_1 ?_
  refine q_puti (c := 1) (f := 6) d15_2 ⟨rfl, rfl, by decide⟩ hp.1 ?_
  refine q_aload_n d15_5 rfl ?_
  refine q_iconst (x := (-1)) d15_6 rfl ?_
  refine q_puti (c := 1) (f := 7) d15_7 ⟨rfl, rfl, by decide⟩ hp.1 ?_
  refine q_ret d15_10 rfl ?_
  exact k
/-! ===== contracts: purses ===== -/
/-- only ints of S are written -/
def Fi (S : Nat → Nat → Prop) (M M' : zM) : Prop := (∀ a k, ¬ S a k → zi M' a k = zi M a k) ∧ zr M' = zr M ∧ zl M' = zl M ∧ zk M' = zk M ∧ zn M' = zn M ∧ zs M' = zs M
theorem Fi.refl (S : Nat → Nat → Prop) (M : zM) : Fi S M M := ⟨fun _ _ _ => rfl, rfl, rfl, rfl, rfl, rfl⟩
theorem Fi.mono {S S' : Nat → Nat → Prop} {M M' : zM} (h : Fi S M M') (hs : ∀ a k, S a k → S' a k) : Fi S' M M' := ⟨fun a k q => h.1 a k (fun p => q (hs a k p)), h.2⟩
theorem Fi.trans {S : Nat → Nat → Prop} {M M' M'' : zM} (h : Fi S M M') (g : Fi S M' M'') : Fi S M M'' :=
  ⟨fun a k q => (g.1 a k q).trans (h.1 a k q), g.2.1.trans h.2.1, g.2.2.1.trans h.2.2.1, g.2.2.2.1.trans h.2.2.2.1, g.2.2.2.2.1.trans h.2.2.2.2.1, g.2.2.2.2.2.trans h.2.2.2.2.2⟩
theorem Fi.fr {S : Nat → Nat → Prop} {M M' : zM} (h : Fi S M M') : Fr S M M' := ⟨fun a k q => ⟨h.1 a k q, congrFun (congrFun h.2.1 a) k⟩, h.2.2⟩
theorem Fi.wi {S : Nat → Nat → Prop} {M M' : zM} {a k : Nat} {v : Int32} (h : Fi S M M') (hs : S a k) : Fi S M (zwi M' a k v) := by
  refine ⟨fun b j q => ?_, h.2⟩
  rw [wi_eq, if_neg (by rintro ⟨rfl, rfl⟩; exact q hs)]; exact h.1 b j q
theorem Fi.cp {S : Nat → Nat → Prop} {M M' : zM} {a0 s a d n : Nat} (h : Fi S M M') (hs : ∀ j, d ≤ j → j < d + n → S a j) : Fi S M (zcp M' a0 s a d n) := by
  refine ⟨fun b j q => ?_, h.2⟩
  rw [cp_eq, if_neg (by rintro ⟨rfl, h1, h2⟩; exact q (hs j h1 h2))]; exact h.1 b j q
theorem Fi.k {S : Nat → Nat → Prop} {M M' : zM} (h : Fi S M M') (a : Nat) : zk M' a = zk M a := congrFun h.2.2.2.1 a
theorem Fi.r {S : Nat → Nat → Prop} {M M' : zM} (h : Fi S M M') (a f : Nat) : zr M' a f = zr M a f := congrFun (congrFun h.2.1 a) f
theorem Fi.sc {S : Nat → Nat → Prop} {M M' : zM} (h : Fi S M M') (hS : SC M) (hs : ∀ a k, a < 3 → ¬ S a k) : SC M' := SC_of hS (fun a _ => h.k a) (fun a f _ _ => h.r a f) (fun a j ha => h.1 a j (hs a j ha))
theorem Fi.sx {S : Nat → Nat → Prop} {M M' : zM} (h : Fi S M M') (hS : SX M) : SX M' := SX_of hS (fun a _ => h.k a) (fun a f _ _ => h.r a f)
theorem SPr_fi {S : Nat → Nat → Prop} {M M' : zM} {a : Nat} (h : SPr M a) (f : Fi S M M') : SPr M' a := ⟨(f.k _).trans h.1, fun g hg => ⟨(f.r _ _).trans (h.2 g hg).1, (f.k _).trans (h.2 g hg).2⟩⟩
theorem SPu_fi {S : Nat → Nat → Prop} {M M' : zM} {a : Nat} (h : SPu M a) (f : Fi S M M') : SPu M' a := ⟨(f.k _).trans h.1, (f.r _ _).trans h.2.1, (f.k _).trans h.2.2⟩
theorem SSg_fi {S : Nat → Nat → Prop} {M M' : zM} {a : Nat} (h : SSg M a) (f : Fi S M M') : SSg M' a := ⟨(f.k _).trans h.1, (f.r _ _).trans h.2.1, fun g hg => (f.r _ _).trans (h.2.2.1 g hg), fun g hg => (f.k _).trans (h.2.2.2 g hg)⟩
theorem RPu_b {M : zM} {u k : Nat} {P : yP} {v : Int32} (h : RPu M u P) : RPu (zwi M (u + 1) k v) u (yu P.1 k v, P.2) := by
  refine ⟨fun j hj => ?_, (wi_n (Or.inl (by omega))).trans h.2.1, (wi_n (Or.inl (by omega))).trans h.2.2⟩
  by_cases e : j = k
  · subst e; rw [wi_s]; exact (yu_s _ _ _).symm
  · rw [wi_n (Or.inr e), h.1 j hj]; exact (yu_n e).symm
theorem RPu_h {M : zM} {u : Nat} {P : yP} {v : Int32} (h : RPu M u P) : RPu (zwi M u 1 v) u (P.1, v, P.2.2) :=
  ⟨fun j hj => (wi_n (Or.inl (by omega))).trans (h.1 j hj), wi_s _ _ _ _, (wi_n (Or.inr (by decide))).trans h.2.2⟩
theorem RPu_m {M : zM} {u : Nat} {P : yP} {v : Int32} (h : RPu M u P) : RPu (zwi M u 2 v) u (P.1, P.2.1, v) :=
  ⟨fun j hj => (wi_n (Or.inl (by omega))).trans (h.1 j hj), (wi_n (Or.inr (by decide))).trans h.2.1, wi_s _ _ _ _⟩
def FU (u : Nat) : Nat → Nat → Prop := Fb u (u + 2)
theorem FU_0 (u k : Nat) : FU u u k := ⟨Nat.le_refl _, by omega⟩
theorem FU_1 (u k : Nat) : FU u (u + 1) k := ⟨by omega, by omega⟩
theorem FU_x {u a : Nat} (h : a + 7 ≤ u) : ∀ b j, a ≤ b → b < a + 6 → ¬ FU u b j := fun b j h1 h2 q => by have := q.1; omega
theorem d6_0 : decode (zB 6) 0 = .ok (.iconst 0, 1) := (congrArg (fun c => decode c 0) zeq6).trans (by decide +kernel)
theorem d6_1 : decode (zB 6) 1 = .ok (.istore_n 2, 1) := (congrArg (fun c => decode c 1) zeq6).trans (by decide +kernel)
theorem d6_2 : decode (zB 6) 2 = .ok (.aload_n 0, 1) := (congrArg (fun c => decode c 2) zeq6).trans (by decide +kernel)
theorem d6_3 : decode (zB 6) 3 = .ok (.arraylength, 1) := (congrArg (fun c => decode c 3) zeq6).trans (by decide +kernel)
theorem d6_4 : decode (zB 6) 4 = .ok (.istore_n 3, 1) := (congrArg (fun c => decode c 4) zeq6).trans (by decide +kernel)
theorem d6_5 : decode (zB 6) 5 = .ok (.iload_n 2, 1) := (congrArg (fun c => decode c 5) zeq6).trans (by decide +kernel)
theorem d6_6 : decode (zB 6) 6 = .ok (.iload_n 3, 1) := (congrArg (fun c => decode c 6) zeq6).trans (by decide +kernel)
theorem d6_7 : decode (zB 6) 7 = .ok (.if_icmp .ge 13, 3) := (congrArg (fun c => decode c 7) zeq6).trans (by decide +kernel)
theorem d6_10 : decode (zB 6) 10 = .ok (.aload_n 0, 1) := (congrArg (fun c => decode c 10) zeq6).trans (by decide +kernel)
theorem d6_11 : decode (zB 6) 11 = .ok (.iload_n 2, 1) := (congrArg (fun c => decode c 11) zeq6).trans (by decide +kernel)
theorem d6_12 : decode (zB 6) 12 = .ok (.iload_n 1, 1) := (congrArg (fun c => decode c 12) zeq6).trans (by decide +kernel)
theorem d6_13 : decode (zB 6) 13 = .ok (.iastore, 1) := (congrArg (fun c => decode c 13) zeq6).trans (by decide +kernel)
theorem d6_14 : decode (zB 6) 14 = .ok (.iinc 2 1, 3) := (congrArg (fun c => decode c 14) zeq6).trans (by decide +kernel)
theorem d6_17 : decode (zB 6) 17 = .ok (.goto (-12), 3) := (congrArg (fun c => decode c 17) zeq6).trans (by decide +kernel)
theorem d6_20 : decode (zB 6) 20 = .ok (.return_, 1) := (congrArg (fun c => decode c 20) zeq6).trans (by decide +kernel)
theorem l6 {d : Nat} {Q : Option Value → zM → Prop} {b N : Nat} {v : Int32} {M0 : zM} (hk : zk M0 b = (20, N)) (hN : N < 2147483648) (k : ∀ M', (∀ j, j < N → zi M' b j = v) → Fi (fun a _ => a = b) M0 M' → Q none M') : ∀ (r i : Nat) (M1 : zM), i ≤ N → N < i + r → (∀ j, j < i → zi M1 b j = v) → Fi (fun a _ => a = b) M0 M1 → qW (zEv (d + 0)) 6 Q 5 [(2, .int (nI i)), (3, .int (nI N)), (0, .ref b), (1, .int v)] [] M1 := by
  intro r
  induction r with
  | zero => intros; omega
  | succ r ih =>
    intro i M1 h1 h2 hv f
    refine q_iload_n d6_5 rfl ?_
    refine q_iload_n d6_6 rfl ?_
    refine nc_ge 20 d6_7 (by decide) (by omega) (by omega) (fun h7 => ?_) (fun h7 => ?_)
    · refine q_ret d6_20 rfl ?_
      exact k _ (fun j hj => hv j (by omega)) f
    · refine q_aload_n d6_10 rfl ?_
      refine q_iload_n d6_11 rfl ?_
      refine q_iload_n d6_12 rfl ?_
      refine n_iast d6_13 ((f.k _).trans hk) (by omega) hN ?_
      refine n_iinc 1 d6_14 (by decide) rfl rfl ?_
      refine q_goto 5 d6_17 (by decide) ?_
      exact ih (i + 1) _ (by omega) (by omega) (fun j hj => by by_cases e : j = i; (subst e; exact wi_s _ _ _ _); (rw [wi_n (Or.inr e)]; exact hv j (by omega))) (f.wi rfl)
theorem c6 {d : Nat} {M : zM} {Q : Option Value → zM → Prop} {b N : Nat} {v : Int32} (hk : zk M b = (20, N)) (hN : N < 2147483648) (k : ∀ M', (∀ j, j < N → zi M' b j = v) → Fi (fun a _ => a = b) M M' → Q none M') : qC (d + 1) 6 [.ref b, .int v] M Q := by
  refine qC_of (by decide) (Nat.le_of_ble_eq_true rfl) ?_
  refine q_iconstN (z := 0) d6_0 ?_
  refine q_istore_n d6_1 (by decide) rfl ?_
  refine q_aload_n d6_2 rfl ?_
  refine n_alen d6_3 (Or.inl hk) ?_
  refine q_istore_n d6_4 (by decide) rfl ?_
  refine q_iload_n d6_5 rfl ?_
  refine q_iload_n d6_6 rfl ?_
  refine nc_ge 20 d6_7 (by decide) (by omega) (by omega) (fun h7 => ?_) (fun h7 => ?_)
  · refine q_ret d6_20 rfl ?_
    exact k _ (fun j hj => absurd hj (by omega)) (Fi.refl _ _)
  · refine q_aload_n d6_10 rfl ?_
    refine q_iload_n d6_11 rfl ?_
    refine q_iload_n d6_12 rfl ?_
    refine n_iast d6_13 hk (by omega) hN ?_
    refine n_iinc 1 d6_14 (by decide) rfl rfl ?_
    refine q_goto 5 d6_17 (by decide) ?_
    exact l6 hk hN k (N + 1) 1 _ (by omega) (by omega) (fun j hj => by rw [show j = 0 by omega]; exact wi_s _ _ _ _) ((Fi.refl _ _).wi rfl)
theorem d49_0 : decode (zB 49) 0 = .ok (.iload_n 1, 1) := (congrArg (fun c => decode c 0) zeq49).trans (by decide +kernel)
theorem d49_1 : decode (zB 49) 1 = .ok (.ifCond .lt 9, 3) := (congrArg (fun c => decode c 1) zeq49).trans (by decide +kernel)
theorem d49_4 : decode (zB 49) 4 = .ok (.iload_n 1, 1) := (congrArg (fun c => decode c 4) zeq49).trans (by decide +kernel)
theorem d49_5 : decode (zB 49) 5 = .ok (.bipush 6, 2) := (congrArg (fun c => decode c 5) zeq49).trans (by decide +kernel)
theorem d49_7 : decode (zB 49) 7 = .ok (.if_icmp .lt 5, 3) := (congrArg (fun c => decode c 7) zeq49).trans (by decide +kernel)
theorem d49_10 : decode (zB 49) 10 = .ok (.iconst 0, 1) := (congrArg (fun c => decode c 10) zeq49).trans (by decide +kernel)
theorem d49_11 : decode (zB 49) 11 = .ok (.ireturn, 1) := (congrArg (fun c => decode c 11) zeq49).trans (by decide +kernel)
theorem d49_12 : decode (zB 49) 12 = .ok (.aload_n 0, 1) := (congrArg (fun c => decode c 12) zeq49).trans (by decide +kernel)
theorem d49_13 : decode (zB 49) 13 = .ok (.getfield 9, 3) := (congrArg (fun c => decode c 13) zeq49).trans (by decide +kernel)
theorem d49_16 : decode (zB 49) 16 = .ok (.iload_n 1, 1) := (congrArg (fun c => decode c 16) zeq49).trans (by decide +kernel)
theorem d49_17 : decode (zB 49) 17 = .ok (.iaload, 1) := (congrArg (fun c => decode c 17) zeq49).trans (by decide +kernel)
theorem d49_18 : decode (zB 49) 18 = .ok (.iload_n 2, 1) := (congrArg (fun c => decode c 18) zeq49).trans (by decide +kernel)
theorem d49_19 : decode (zB 49) 19 = .ok (.iadd, 1) := (congrArg (fun c => decode c 19) zeq49).trans (by decide +kernel)
theorem d49_20 : decode (zB 49) 20 = .ok (.istore_n 3, 1) := (congrArg (fun c => decode c 20) zeq49).trans (by decide +kernel)
theorem d49_21 : decode (zB 49) 21 = .ok (.iload_n 3, 1) := (congrArg (fun c => decode c 21) zeq49).trans (by decide +kernel)
theorem d49_22 : decode (zB 49) 22 = .ok (.ifCond .ge 7, 3) := (congrArg (fun c => decode c 22) zeq49).trans (by decide +kernel)
theorem d49_25 : decode (zB 49) 25 = .ok (.iconst 2, 1) := (congrArg (fun c => decode c 25) zeq49).trans (by decide +kernel)
theorem d49_26 : decode (zB 49) 26 = .ok (.goto 15, 3) := (congrArg (fun c => decode c 26) zeq49).trans (by decide +kernel)
theorem d49_29 : decode (zB 49) 29 = .ok (.iload_n 3, 1) := (congrArg (fun c => decode c 29) zeq49).trans (by decide +kernel)
theorem d49_30 : decode (zB 49) 30 = .ok (.sipush 9999, 3) := (congrArg (fun c => decode c 30) zeq49).trans (by decide +kernel)
theorem d49_33 : decode (zB 49) 33 = .ok (.if_icmp .le 7, 3) := (congrArg (fun c => decode c 33) zeq49).trans (by decide +kernel)
theorem d49_36 : decode (zB 49) 36 = .ok (.iconst 3, 1) := (congrArg (fun c => decode c 36) zeq49).trans (by decide +kernel)
theorem d49_37 : decode (zB 49) 37 = .ok (.goto 4, 3) := (congrArg (fun c => decode c 37) zeq49).trans (by decide +kernel)
theorem d49_40 : decode (zB 49) 40 = .ok (.iconst 0, 1) := (congrArg (fun c => decode c 40) zeq49).trans (by decide +kernel)
theorem d49_41 : decode (zB 49) 41 = .ok (.ireturn, 1) := (congrArg (fun c => decode c 41) zeq49).trans (by decide +kernel)
theorem c49 {d : Nat} {M : zM} {Q : Option Value → zM → Prop} {u : Nat} {P : yP} {x m : Int32} (hu : SPu M u) (hP : RPu M u P) (k : Q (some (.int (ybe P x m))) M) : qC (d + 1) 49 [.ref u, .int x, .int m] M Q := by
  refine qC_of (by decide) (Nat.le_of_ble_eq_true rfl) ?_
  rcases zix_c x (n := 6) (by omega) with ⟨j, hj, rfl, e⟩ | ⟨e, hn2⟩
  · refine q_iload_n d49_0 rfl ?_
    refine n0_lt 10 d49_1 (by decide) (by omega) (fun q => absurd q (Nat.not_lt_zero _)) (fun _ => ?_)
    refine q_iload_n d49_4 rfl ?_
    refine q_bipush (x := nI 6) d49_5 rfl ?_
    refine nc_lt 12 d49_7 (by decide) (by omega) (by omega) (fun h7 => ?_) (fun h7 => (False.elim (by omega)))
    refine q_aload_n d49_12 rfl ?_
    refine q_getr (c := 2) (f := 0) d49_13 ⟨rfl, rfl⟩ hu.1 hu.2.1 ?_
    refine q_iload_n d49_16 rfl ?_
    refine n_iald d49_17 hu.2.2 (by omega) (by decide) (hP.1 _ (by omega)) ?_
    refine q_iload_n d49_18 rfl ?_
    refine q_iadd d49_19 ?_
    refine q_istore_n d49_20 (by decide) rfl ?_
    refine q_iload_n d49_21 rfl ?_
    refine i0_ge 29 d49_22 (by decide) (fun h22 => ?_) (fun h22 => ?_)
    · refine q_iload_n d49_29 rfl ?_
      refine q_sipush (x := nI 9999) d49_30 rfl ?_
      refine ic_le 40 d49_33 (by decide) (fun h33 => ?_) (fun h33 => ?_)
      · refine q_iconstN (z := 0) d49_40 ?_
        refine q_iret d49_41 rfl ?_
        refine nK k ?_; unfold ybe; rw [e]; show _ = yck (P.1 j + m); unfold yck; first | exact absurd hj (by omega) | (rw [if_pos h22]; first | (rw [if_pos h33]; rfl) | (rw [if_neg h33]; rfl)) | (rw [if_neg h22]; rfl)
      · refine q_iconstN (z := 3) d49_36 ?_
        refine q_goto 41 d49_37 (by decide) ?_
        refine q_iret d49_41 rfl ?_
        refine nK k ?_; unfold ybe; rw [e]; show _ = yck (P.1 j + m); unfold yck; first | exact absurd hj (by omega) | (rw [if_pos h22]; first | (rw [if_pos h33]; rfl) | (rw [if_neg h33]; rfl)) | (rw [if_neg h22]; rfl)
    · refine q_iconstN (z := 2) d49_25 ?_
      refine q_goto 41 d49_26 (by decide) ?_
      refine q_iret d49_41 rfl ?_
      refine nK k ?_; unfold ybe; rw [e]; show _ = yck (P.1 j + m); unfold yck; first | exact absurd hj (by omega) | (rw [if_pos h22]; first | (rw [if_pos h33]; rfl) | (rw [if_neg h33]; rfl)) | (rw [if_neg h22]; rfl)
  · refine q_iload_n d49_0 rfl ?_
    refine i0_lt 10 d49_1 (by decide) (fun h1 => ?_) (fun h1 => ?_)
    · refine q_iconstN (z := 0) d49_10 ?_
      refine q_iret d49_11 rfl ?_
      first | exact nK k (by unfold ybe; rw [e]; rfl) | exact absurd (zix_of h1 (fun q => Int32.not_le.mpr h7 q) (by decide)) hn2
    · refine q_iload_n d49_4 rfl ?_
      refine q_bipush (x := nI 6) d49_5 rfl ?_
      refine ic_lt 12 d49_7 (by decide) (fun h7 => (False.elim (hn2 (zix_of h1 (fun q => (Int32.not_le.mpr h7) q) (by decide))))) (fun h7 => ?_)
      refine q_iconstN (z := 0) d49_10 ?_
      refine q_iret d49_11 rfl ?_
      first | exact nK k (by unfold ybe; rw [e]; rfl) | exact absurd (zix_of h1 (fun q => Int32.not_le.mpr h7 q) (by decide)) hn2
theorem d52_0 : decode (zB 52) 0 = .ok (.iload_n 1, 1) := (congrArg (fun c => decode c 0) zeq52).trans (by decide +kernel)
theorem d52_1 : decode (zB 52) 1 = .ok (.ifCond .lt 19, 3) := (congrArg (fun c => decode c 1) zeq52).trans (by decide +kernel)
theorem d52_4 : decode (zB 52) 4 = .ok (.iload_n 1, 1) := (congrArg (fun c => decode c 4) zeq52).trans (by decide +kernel)
theorem d52_5 : decode (zB 52) 5 = .ok (.bipush 6, 2) := (congrArg (fun c => decode c 5) zeq52).trans (by decide +kernel)
theorem d52_7 : decode (zB 52) 7 = .ok (.if_icmp .ge 13, 3) := (congrArg (fun c => decode c 7) zeq52).trans (by decide +kernel)
theorem d52_10 : decode (zB 52) 10 = .ok (.aload_n 0, 1) := (congrArg (fun c => decode c 10) zeq52).trans (by decide +kernel)
theorem d52_11 : decode (zB 52) 11 = .ok (.getfield 9, 3) := (congrArg (fun c => decode c 11) zeq52).trans (by decide +kernel)
theorem d52_14 : decode (zB 52) 14 = .ok (.iload_n 1, 1) := (congrArg (fun c => decode c 14) zeq52).trans (by decide +kernel)
theorem d52_15 : decode (zB 52) 15 = .ok (.dup2, 1) := (congrArg (fun c => decode c 15) zeq52).trans (by decide +kernel)
theorem d52_16 : decode (zB 52) 16 = .ok (.iaload, 1) := (congrArg (fun c => decode c 16) zeq52).trans (by decide +kernel)
theorem d52_17 : decode (zB 52) 17 = .ok (.iload_n 2, 1) := (congrArg (fun c => decode c 17) zeq52).trans (by decide +kernel)
theorem d52_18 : decode (zB 52) 18 = .ok (.iadd, 1) := (congrArg (fun c => decode c 18) zeq52).trans (by decide +kernel)
theorem d52_19 : decode (zB 52) 19 = .ok (.iastore, 1) := (congrArg (fun c => decode c 19) zeq52).trans (by decide +kernel)
theorem d52_20 : decode (zB 52) 20 = .ok (.return_, 1) := (congrArg (fun c => decode c 20) zeq52).trans (by decide +kernel)
theorem c52 {d : Nat} {M : zM} {Q : Option Value → zM → Prop} {u : Nat} {P : yP} {x m : Int32} (hu : SPu M u) (hP : RPu M u P) (k : ∀ M', RPu M' u (ypu P x m) → Fi (FU u) M M' → Q none M') : qC (d + 1) 52 [.ref u, .int x, .int m] M Q := by
  refine qC_of (by decide) (Nat.le_of_ble_eq_true rfl) ?_
  rcases zix_c x (n := 6) (by omega) with ⟨j, hj, rfl, e⟩ | ⟨e, hn2⟩
  · refine q_iload_n d52_0 rfl ?_
    refine n0_lt 20 d52_1 (by decide) (by omega) (fun q => absurd q (Nat.not_lt_zero _)) (fun _ => ?_)
    refine q_iload_n d52_4 rfl ?_
    refine q_bipush (x := nI 6) d52_5 rfl ?_
    refine nc_ge 20 d52_7 (by decide) (by omega) (by omega) (fun h7 => (False.elim (by omega))) (fun h7 => ?_)
    refine q_aload_n d52_10 rfl ?_
    refine q_getr (c := 2) (f := 0) d52_11 ⟨rfl, rfl⟩ hu.1 hu.2.1 ?_
    refine q_iload_n d52_14 rfl ?_
    refine q_dup2 d52_15 rfl rfl ?_
    refine n_iald d52_16 hu.2.2 (by omega) (by decide) (hP.1 _ (by omega)) ?_
    refine q_iload_n d52_17 rfl ?_
    refine q_iadd d52_18 ?_
    refine n_iast d52_19 hu.2.2 (by omega) (by decide) ?_
    refine q_ret d52_20 rfl ?_
    exact k _ (by unfold ypu; rw [e]; exact RPu_b hP) ((Fi.refl _ _).wi (FU_1 _ _))
  · refine q_iload_n d52_0 rfl ?_
    refine i0_lt 20 d52_1 (by decide) (fun h1 => ?_) (fun h1 => ?_)
    · refine q_ret d52_20 rfl ?_
      exact k _ (by unfold ypu; rw [e]; exact hP) (Fi.refl _ _)
    · refine q_iload_n d52_4 rfl ?_
      refine q_bipush (x := nI 6) d52_5 rfl ?_
      refine ic_ge 20 d52_7 (by decide) (fun h7 => ?_) (fun h7 => (False.elim (hn2 (zix_of h1 h7 (by decide)))))
      refine q_ret d52_20 rfl ?_
      exact k _ (by unfold ypu; rw [e]; exact hP) (Fi.refl _ _)
theorem d53_0 : decode (zB 53) 0 = .ok (.iload_n 1, 1) := (congrArg (fun c => decode c 0) zeq53).trans (by decide +kernel)
theorem d53_1 : decode (zB 53) 1 = .ok (.ifCond .lt 45, 3) := (congrArg (fun c => decode c 1) zeq53).trans (by decide +kernel)
theorem d53_4 : decode (zB 53) 4 = .ok (.iload_n 1, 1) := (congrArg (fun c => decode c 4) zeq53).trans (by decide +kernel)
theorem d53_5 : decode (zB 53) 5 = .ok (.bipush 6, 2) := (congrArg (fun c => decode c 5) zeq53).trans (by decide +kernel)
theorem d53_7 : decode (zB 53) 7 = .ok (.if_icmp .ge 39, 3) := (congrArg (fun c => decode c 7) zeq53).trans (by decide +kernel)
theorem d53_10 : decode (zB 53) 10 = .ok (.iload_n 2, 1) := (congrArg (fun c => decode c 10) zeq53).trans (by decide +kernel)
theorem d53_11 : decode (zB 53) 11 = .ok (.ifCond .lt 35, 3) := (congrArg (fun c => decode c 11) zeq53).trans (by decide +kernel)
theorem d53_14 : decode (zB 53) 14 = .ok (.iload_n 2, 1) := (congrArg (fun c => decode c 14) zeq53).trans (by decide +kernel)
theorem d53_15 : decode (zB 53) 15 = .ok (.bipush 6, 2) := (congrArg (fun c => decode c 15) zeq53).trans (by decide +kernel)
theorem d53_17 : decode (zB 53) 17 = .ok (.if_icmp .ge 29, 3) := (congrArg (fun c => decode c 17) zeq53).trans (by decide +kernel)
theorem d53_20 : decode (zB 53) 20 = .ok (.aload_n 0, 1) := (congrArg (fun c => decode c 20) zeq53).trans (by decide +kernel)
theorem d53_21 : decode (zB 53) 21 = .ok (.getfield 9, 3) := (congrArg (fun c => decode c 21) zeq53).trans (by decide +kernel)
theorem d53_24 : decode (zB 53) 24 = .ok (.iload_n 1, 1) := (congrArg (fun c => decode c 24) zeq53).trans (by decide +kernel)
theorem d53_25 : decode (zB 53) 25 = .ok (.iaload, 1) := (congrArg (fun c => decode c 25) zeq53).trans (by decide +kernel)
theorem d53_26 : decode (zB 53) 26 = .ok (.istore_n 3, 1) := (congrArg (fun c => decode c 26) zeq53).trans (by decide +kernel)
theorem d53_27 : decode (zB 53) 27 = .ok (.aload_n 0, 1) := (congrArg (fun c => decode c 27) zeq53).trans (by decide +kernel)
theorem d53_28 : decode (zB 53) 28 = .ok (.getfield 9, 3) := (congrArg (fun c => decode c 28) zeq53).trans (by decide +kernel)
theorem d53_31 : decode (zB 53) 31 = .ok (.iload_n 1, 1) := (congrArg (fun c => decode c 31) zeq53).trans (by decide +kernel)
theorem d53_32 : decode (zB 53) 32 = .ok (.aload_n 0, 1) := (congrArg (fun c => decode c 32) zeq53).trans (by decide +kernel)
theorem d53_33 : decode (zB 53) 33 = .ok (.getfield 9, 3) := (congrArg (fun c => decode c 33) zeq53).trans (by decide +kernel)
theorem d53_36 : decode (zB 53) 36 = .ok (.iload_n 2, 1) := (congrArg (fun c => decode c 36) zeq53).trans (by decide +kernel)
theorem d53_37 : decode (zB 53) 37 = .ok (.iaload, 1) := (congrArg (fun c => decode c 37) zeq53).trans (by decide +kernel)
theorem d53_38 : decode (zB 53) 38 = .ok (.iastore, 1) := (congrArg (fun c => decode c 38) zeq53).trans (by decide +kernel)
theorem d53_39 : decode (zB 53) 39 = .ok (.aload_n 0, 1) := (congrArg (fun c => decode c 39) zeq53).trans (by decide +kernel)
theorem d53_40 : decode (zB 53) 40 = .ok (.getfield 9, 3) := (congrArg (fun c => decode c 40) zeq53).trans (by decide +kernel)
theorem d53_43 : decode (zB 53) 43 = .ok (.iload_n 2, 1) := (congrArg (fun c => decode c 43) zeq53).trans (by decide +kernel)
theorem d53_44 : decode (zB 53) 44 = .ok (.iload_n 3, 1) := (congrArg (fun c => decode c 44) zeq53).trans (by decide +kernel)
theorem d53_45 : decode (zB 53) 45 = .ok (.iastore, 1) := (congrArg (fun c => decode c 45) zeq53).trans (by decide +kernel)
theorem d53_46 : decode (zB 53) 46 = .ok (.return_, 1) := (congrArg (fun c => decode c 46) zeq53).trans (by decide +kernel)
theorem c53 {d : Nat} {M : zM} {Q : Option Value → zM → Prop} {u : Nat} {P : yP} {x z : Int32} (hu : SPu M u) (hP : RPu M u P) (k : ∀ M', RPu M' u (yex P x z) → Fi (FU u) M M' → Q none M') : qC (d + 1) 53 [.ref u, .int x, .int z] M Q := by
  refine qC_of (by decide) (Nat.le_of_ble_eq_true rfl) ?_
  rcases zix_c x (n := 6) (by omega) with ⟨j1, k1, rfl, e1⟩ | ⟨e1, n1⟩ <;> rcases zix_c z (n := 6) (by omega) with ⟨j2, k2, rfl, e2⟩ | ⟨e2, n2⟩
  · refine q_iload_n d53_0 rfl ?_
    refine n0_lt 46 d53_1 (by decide) (by omega) (fun q => absurd q (Nat.not_lt_zero _)) (fun _ => ?_)
    refine q_iload_n d53_4 rfl ?_
    refine q_bipush (x := nI 6) d53_5 rfl ?_
    refine nc_ge 46 d53_7 (by decide) (by omega) (by omega) (fun h7 => (False.elim (by omega))) (fun h7 => ?_)
    refine q_iload_n d53_10 rfl ?_
    refine n0_lt 46 d53_11 (by decide) (by omega) (fun q => absurd q (Nat.not_lt_zero _)) (fun _ => ?_)
    refine q_iload_n d53_14 rfl ?_
    refine q_bipush (x := nI 6) d53_15 rfl ?_
    refine nc_ge 46 d53_17 (by decide) (by omega) (by omega) (fun h17 => (False.elim (by omega))) (fun h17 => ?_)
    refine q_aload_n d53_20 rfl ?_
    refine q_getr (c := 2) (f := 0) d53_21 ⟨rfl, rfl⟩ hu.1 hu.2.1 ?_
    refine q_iload_n d53_24 rfl ?_
    refine n_iald d53_25 hu.2.2 (by omega) (by decide) (hP.1 _ (by omega)) ?_
    refine q_istore_n d53_26 (by decide) rfl ?_
    refine q_aload_n d53_27 rfl ?_
    refine q_getr (c := 2) (f := 0) d53_28 ⟨rfl, rfl⟩ hu.1 hu.2.1 ?_
    refine q_iload_n d53_31 rfl ?_
    refine q_aload_n d53_32 rfl ?_
    refine q_getr (c := 2) (f := 0) d53_33 ⟨rfl, rfl⟩ hu.1 hu.2.1 ?_
    refine q_iload_n d53_36 rfl ?_
    refine n_iald d53_37 hu.2.2 (by omega) (by decide) (hP.1 _ (by omega)) ?_
    refine n_iast d53_38 hu.2.2 (by omega) (by decide) ?_
    refine q_aload_n d53_39 rfl ?_
    refine q_getr (c := 2) (f := 0) d53_40 ⟨rfl, rfl⟩ hu.1 hu.2.1 ?_
    refine q_iload_n d53_43 rfl ?_
    refine q_iload_n d53_44 rfl ?_
    refine n_iast d53_45 hu.2.2 (by omega) (by decide) ?_
    refine q_ret d53_46 rfl ?_
    exact k _ (by unfold yex; rw [e1, e2]; exact RPu_b (RPu_b hP)) (((Fi.refl _ _).wi (FU_1 _ _)).wi (FU_1 _ _))
  · refine q_iload_n d53_0 rfl ?_
    refine n0_lt 46 d53_1 (by decide) (by omega) (fun q => absurd q (Nat.not_lt_zero _)) (fun _ => ?_)
    refine q_iload_n d53_4 rfl ?_
    refine q_bipush (x := nI 6) d53_5 rfl ?_
    refine nc_ge 46 d53_7 (by decide) (by omega) (by omega) (fun h7 => (False.elim (by omega))) (fun h7 => ?_)
    refine q_iload_n d53_10 rfl ?_
    refine i0_lt 46 d53_11 (by decide) (fun h11 => ?_) (fun h11 => ?_)
    · refine q_ret d53_46 rfl ?_
      exact k _ (by unfold yex; rw [e1, e2]; exact hP) (Fi.refl _ _)
    · refine q_iload_n d53_14 rfl ?_
      refine q_bipush (x := nI 6) d53_15 rfl ?_
      refine ic_ge 46 d53_17 (by decide) (fun h17 => ?_) (fun h17 => (False.elim (n2 (zix_of h11 h17 (by decide)))))
      refine q_ret d53_46 rfl ?_
      exact k _ (by unfold yex; rw [e1, e2]; exact hP) (Fi.refl _ _)
  · refine q_iload_n d53_0 rfl ?_
    refine i0_lt 46 d53_1 (by decide) (fun h1 => ?_) (fun h1 => ?_)
    · refine q_ret d53_46 rfl ?_
      exact k _ (by unfold yex; rw [e1, e2]; exact hP) (Fi.refl _ _)
    · refine q_iload_n d53_4 rfl ?_
      refine q_bipush (x := nI 6) d53_5 rfl ?_
      refine ic_ge 46 d53_7 (by decide) (fun h7 => ?_) (fun h7 => (False.elim (n1 (zix_of h1 h7 (by decide)))))
      refine q_ret d53_46 rfl ?_
      exact k _ (by unfold yex; rw [e1, e2]; exact hP) (Fi.refl _ _)
  · refine q_iload_n d53_0 rfl ?_
    refine i0_lt 46 d53_1 (by decide) (fun h1 => ?_) (fun h1 => ?_)
    · refine q_ret d53_46 rfl ?_
      exact k _ (by unfold yex; rw [e1, e2]; exact hP) (Fi.refl _ _)
    · refine q_iload_n d53_4 rfl ?_
      refine q_bipush (x := nI 6) d53_5 rfl ?_
      refine ic_ge 46 d53_7 (by decide) (fun h7 => ?_) (fun h7 => (False.elim (n1 (zix_of h1 h7 (by decide)))))
      refine q_ret d53_46 rfl ?_
      exact k _ (by unfold yex; rw [e1, e2]; exact hP) (Fi.refl _ _)
theorem d46_0 : decode (zB 46) 0 = .ok (.aload_n 1, 1) := (congrArg (fun c => decode c 0) zeq46).trans (by decide +kernel)
theorem d46_1 : decode (zB 46) 1 = .ok (.ifnull 11, 3) := (congrArg (fun c => decode c 1) zeq46).trans (by decide +kernel)
theorem d46_4 : decode (zB 46) 4 = .ok (.aload_n 1, 1) := (congrArg (fun c => decode c 4) zeq46).trans (by decide +kernel)
theorem d46_5 : decode (zB 46) 5 = .ok (.iload_n 2, 1) := (congrArg (fun c => decode c 5) zeq46).trans (by decide +kernel)
theorem d46_6 : decode (zB 46) 6 = .ok (.invokevirtual 34, 3) := (congrArg (fun c => decode c 6) zeq46).trans (by decide +kernel)
theorem d46_9 : decode (zB 46) 9 = .ok (.ifCond .ne 5, 3) := (congrArg (fun c => decode c 9) zeq46).trans (by decide +kernel)
theorem d46_12 : decode (zB 46) 12 = .ok (.iconst 0, 1) := (congrArg (fun c => decode c 12) zeq46).trans (by decide +kernel)
theorem d46_13 : decode (zB 46) 13 = .ok (.ireturn, 1) := (congrArg (fun c => decode c 13) zeq46).trans (by decide +kernel)
theorem d46_14 : decode (zB 46) 14 = .ok (.aload_n 1, 1) := (congrArg (fun c => decode c 14) zeq46).trans (by decide +kernel)
theorem d46_15 : decode (zB 46) 15 = .ok (.getfield 40, 3) := (congrArg (fun c => decode c 15) zeq46).trans (by decide +kernel)
theorem d46_18 : decode (zB 46) 18 = .ok (.iload_n 2, 1) := (congrArg (fun c => decode c 18) zeq46).trans (by decide +kernel)
theorem d46_19 : decode (zB 46) 19 = .ok (.iaload, 1) := (congrArg (fun c => decode c 19) zeq46).trans (by decide +kernel)
theorem d46_20 : decode (zB 46) 20 = .ok (.istore 5, 2) := (congrArg (fun c => decode c 20) zeq46).trans (by decide +kernel)
theorem d46_22 : decode (zB 46) 22 = .ok (.aload_n 0, 1) := (congrArg (fun c => decode c 22) zeq46).trans (by decide +kernel)
theorem d46_23 : decode (zB 46) 23 = .ok (.aload_n 1, 1) := (congrArg (fun c => decode c 23) zeq46).trans (by decide +kernel)
theorem d46_24 : decode (zB 46) 24 = .ok (.getfield 43, 3) := (congrArg (fun c => decode c 24) zeq46).trans (by decide +kernel)
theorem d46_27 : decode (zB 46) 27 = .ok (.iload_n 2, 1) := (congrArg (fun c => decode c 27) zeq46).trans (by decide +kernel)
theorem d46_28 : decode (zB 46) 28 = .ok (.iaload, 1) := (congrArg (fun c => decode c 28) zeq46).trans (by decide +kernel)
theorem d46_29 : decode (zB 46) 29 = .ok (.iload 4, 2) := (congrArg (fun c => decode c 29) zeq46).trans (by decide +kernel)
theorem d46_31 : decode (zB 46) 31 = .ok (.iload 5, 2) := (congrArg (fun c => decode c 31) zeq46).trans (by decide +kernel)
theorem d46_33 : decode (zB 46) 33 = .ok (.iload_n 3, 1) := (congrArg (fun c => decode c 33) zeq46).trans (by decide +kernel)
theorem d46_34 : decode (zB 46) 34 = .ok (.invokestatic 46, 3) := (congrArg (fun c => decode c 34) zeq46).trans (by decide +kernel)
theorem d46_37 : decode (zB 46) 37 = .ok (.imul, 1) := (congrArg (fun c => decode c 37) zeq46).trans (by decide +kernel)
theorem d46_38 : decode (zB 46) 38 = .ok (.invokevirtual 50, 3) := (congrArg (fun c => decode c 38) zeq46).trans (by decide +kernel)
theorem d46_41 : decode (zB 46) 41 = .ok (.istore 6, 2) := (congrArg (fun c => decode c 41) zeq46).trans (by decide +kernel)
theorem d46_43 : decode (zB 46) 43 = .ok (.iload 6, 2) := (congrArg (fun c => decode c 43) zeq46).trans (by decide +kernel)
theorem d46_45 : decode (zB 46) 45 = .ok (.ifCond .eq 8, 3) := (congrArg (fun c => decode c 45) zeq46).trans (by decide +kernel)
theorem d46_48 : decode (zB 46) 48 = .ok (.iload 6, 2) := (congrArg (fun c => decode c 48) zeq46).trans (by decide +kernel)
theorem d46_50 : decode (zB 46) 50 = .ok (.goto 22, 3) := (congrArg (fun c => decode c 50) zeq46).trans (by decide +kernel)
theorem d46_53 : decode (zB 46) 53 = .ok (.aload_n 0, 1) := (congrArg (fun c => decode c 53) zeq46).trans (by decide +kernel)
theorem d46_54 : decode (zB 46) 54 = .ok (.aload_n 1, 1) := (congrArg (fun c => decode c 54) zeq46).trans (by decide +kernel)
theorem d46_55 : decode (zB 46) 55 = .ok (.getfield 53, 3) := (congrArg (fun c => decode c 55) zeq46).trans (by decide +kernel)
theorem d46_58 : decode (zB 46) 58 = .ok (.iload_n 2, 1) := (congrArg (fun c => decode c 58) zeq46).trans (by decide +kernel)
theorem d46_59 : decode (zB 46) 59 = .ok (.iaload, 1) := (congrArg (fun c => decode c 59) zeq46).trans (by decide +kernel)
theorem d46_60 : decode (zB 46) 60 = .ok (.iload 4, 2) := (congrArg (fun c => decode c 60) zeq46).trans (by decide +kernel)
theorem d46_62 : decode (zB 46) 62 = .ok (.iload 5, 2) := (congrArg (fun c => decode c 62) zeq46).trans (by decide +kernel)
theorem d46_64 : decode (zB 46) 64 = .ok (.iload_n 3, 1) := (congrArg (fun c => decode c 64) zeq46).trans (by decide +kernel)
theorem d46_65 : decode (zB 46) 65 = .ok (.invokestatic 56, 3) := (congrArg (fun c => decode c 65) zeq46).trans (by decide +kernel)
theorem d46_68 : decode (zB 46) 68 = .ok (.imul, 1) := (congrArg (fun c => decode c 68) zeq46).trans (by decide +kernel)
theorem d46_69 : decode (zB 46) 69 = .ok (.invokevirtual 50, 3) := (congrArg (fun c => decode c 69) zeq46).trans (by decide +kernel)
theorem d46_72 : decode (zB 46) 72 = .ok (.ireturn, 1) := (congrArg (fun c => decode c 72) zeq46).trans (by decide +kernel)
theorem c46 {d : Nat} {M : zM} {Q : Option Value → zM → Prop} {u : Nat} {P : yP} {a : Nat} {T : yT} {i : Nat} {n w : Int32} (hu : SPu M u) (hP : RPu M u P) (hp : SPr M a) (hr : RP M a T) (ho : OKT T) (hi : i < tn T) (k : Q (some (.int (yob T P i n w))) M) : qC (d + 2) 46 [.ref u, .ref a, .int (nI i), .int n, .int w] M Q := by
  have hn := ho.n
  have hk6 := ho.k hi
  refine qC_of (by decide) (Nat.le_of_ble_eq_true rfl) ?_
  refine q_aload_n d46_0 rfl ?_
  refine q_ifnull (r := some _) 12 d46_1 (by decide) (fun q => absurd q (Option.some_ne_none _)) (fun _ => ?_)
  refine q_aload_n d46_4 rfl ?_
  refine q_iload_n d46_5 rfl ?_
  refine q_v1 d46_6 rfl rfl hp.1 (Nat.le_of_ble_eq_true rfl) (c47t hp hr hn hi ?_)
  refine n0_ne 14 d46_9 (by decide) (by decide) (fun _ => ?_) (fun q => absurd q (by decide))
  refine q_aload_n d46_14 rfl ?_
  refine q_getr (c := 1) (f := 0) d46_15 ⟨rfl, rfl⟩ hp.1 (hp.2 0 (by decide)).1 ?_
  refine q_iload_n d46_18 rfl ?_
  refine n_iald d46_19 (hp.2 0 (by decide)).2 (by omega) (by decide) (hr.2.2 _ (by omega)).1 ?_
  refine q_istore d46_20 (by decide) rfl ?_
  refine q_aload_n d46_22 rfl ?_
  refine q_aload_n d46_23 rfl ?_
  refine q_getr (c := 1) (f := 1) d46_24 ⟨rfl, rfl⟩ hp.1 (hp.2 1 (by decide)).1 ?_
  refine q_iload_n d46_27 rfl ?_
  refine n_iald d46_28 (hp.2 1 (by decide)).2 (by omega) (by decide) (hr.2.2 _ (by omega)).2.1 ?_
  refine q_iload d46_29 rfl ?_
  refine q_iload d46_31 rfl ?_
  refine q_iload_n d46_33 rfl ?_
  refine q_s2 d46_34 (Or.inl rfl) rfl (Nat.le_of_ble_eq_true rfl) (c48 (by omega) ?_)
  refine q_imul d46_37 ?_
  refine q_v2 d46_38 rfl rfl hu.1 (Nat.le_of_ble_eq_true rfl) (c49 hu hP ?_)
  refine q_istore d46_41 (by decide) rfl ?_
  refine q_iload d46_43 rfl ?_
  refine i0_eq 53 d46_45 (by decide) (fun h45 => ?_) (fun h45 => ?_)
  · refine q_aload_n d46_53 rfl ?_
    refine q_aload_n d46_54 rfl ?_
    refine q_getr (c := 1) (f := 2) d46_55 ⟨rfl, rfl⟩ hp.1 (hp.2 2 (by decide)).1 ?_
    refine q_iload_n d46_58 rfl ?_
    refine n_iald d46_59 (hp.2 2 (by decide)).2 (by omega) (by decide) (hr.2.2 _ (by omega)).2.2.1 ?_
    refine q_iload d46_60 rfl ?_
    refine q_iload d46_62 rfl ?_
    refine q_iload_n d46_64 rfl ?_
    refine q_s2 d46_65 (Or.inl rfl) rfl (Nat.le_of_ble_eq_true rfl) (c50 (by omega) ?_)
    refine q_imul d46_68 ?_
    refine q_v2 d46_69 rfl rfl hu.1 (Nat.le_of_ble_eq_true rfl) (c49 hu hP ?_)
    refine q_iret d46_72 rfl ?_
    first | exact nK k (by unfold yob; rw [if_pos h45]) | exact nK k (by unfold yob; rw [if_neg (fun q => q h45)])
  · refine q_iload d46_48 rfl ?_
    refine q_goto 72 d46_50 (by decide) ?_
    refine q_iret d46_72 rfl ?_
    first | exact nK k (by unfold yob; rw [if_pos h45]) | exact nK k (by unfold yob; rw [if_neg (fun q => q h45)])
theorem d51_0 : decode (zB 51) 0 = .ok (.aload_n 1, 1) := (congrArg (fun c => decode c 0) zeq51).trans (by decide +kernel)
theorem d51_1 : decode (zB 51) 1 = .ok (.ifnull 11, 3) := (congrArg (fun c => decode c 1) zeq51).trans (by decide +kernel)
theorem d51_4 : decode (zB 51) 4 = .ok (.aload_n 1, 1) := (congrArg (fun c => decode c 4) zeq51).trans (by decide +kernel)
theorem d51_5 : decode (zB 51) 5 = .ok (.iload_n 2, 1) := (congrArg (fun c => decode c 5) zeq51).trans (by decide +kernel)
theorem d51_6 : decode (zB 51) 6 = .ok (.invokevirtual 34, 3) := (congrArg (fun c => decode c 6) zeq51).trans (by decide +kernel)
theorem d51_9 : decode (zB 51) 9 = .ok (.ifCond .ne 4, 3) := (congrArg (fun c => decode c 9) zeq51).trans (by decide +kernel)
theorem d51_12 : decode (zB 51) 12 = .ok (.return_, 1) := (congrArg (fun c => decode c 12) zeq51).trans (by decide +kernel)
theorem d51_13 : decode (zB 51) 13 = .ok (.aload_n 1, 1) := (congrArg (fun c => decode c 13) zeq51).trans (by decide +kernel)
theorem d51_14 : decode (zB 51) 14 = .ok (.getfield 40, 3) := (congrArg (fun c => decode c 14) zeq51).trans (by decide +kernel)
theorem d51_17 : decode (zB 51) 17 = .ok (.iload_n 2, 1) := (congrArg (fun c => decode c 17) zeq51).trans (by decide +kernel)
theorem d51_18 : decode (zB 51) 18 = .ok (.iaload, 1) := (congrArg (fun c => decode c 18) zeq51).trans (by decide +kernel)
theorem d51_19 : decode (zB 51) 19 = .ok (.istore 5, 2) := (congrArg (fun c => decode c 19) zeq51).trans (by decide +kernel)
theorem d51_21 : decode (zB 51) 21 = .ok (.aload_n 0, 1) := (congrArg (fun c => decode c 21) zeq51).trans (by decide +kernel)
theorem d51_22 : decode (zB 51) 22 = .ok (.aload_n 1, 1) := (congrArg (fun c => decode c 22) zeq51).trans (by decide +kernel)
theorem d51_23 : decode (zB 51) 23 = .ok (.getfield 43, 3) := (congrArg (fun c => decode c 23) zeq51).trans (by decide +kernel)
theorem d51_26 : decode (zB 51) 26 = .ok (.iload_n 2, 1) := (congrArg (fun c => decode c 26) zeq51).trans (by decide +kernel)
theorem d51_27 : decode (zB 51) 27 = .ok (.iaload, 1) := (congrArg (fun c => decode c 27) zeq51).trans (by decide +kernel)
theorem d51_28 : decode (zB 51) 28 = .ok (.iload 4, 2) := (congrArg (fun c => decode c 28) zeq51).trans (by decide +kernel)
theorem d51_30 : decode (zB 51) 30 = .ok (.iload 5, 2) := (congrArg (fun c => decode c 30) zeq51).trans (by decide +kernel)
theorem d51_32 : decode (zB 51) 32 = .ok (.iload_n 3, 1) := (congrArg (fun c => decode c 32) zeq51).trans (by decide +kernel)
theorem d51_33 : decode (zB 51) 33 = .ok (.invokestatic 46, 3) := (congrArg (fun c => decode c 33) zeq51).trans (by decide +kernel)
theorem d51_36 : decode (zB 51) 36 = .ok (.imul, 1) := (congrArg (fun c => decode c 36) zeq51).trans (by decide +kernel)
theorem d51_37 : decode (zB 51) 37 = .ok (.invokevirtual 59, 3) := (congrArg (fun c => decode c 37) zeq51).trans (by decide +kernel)
theorem d51_40 : decode (zB 51) 40 = .ok (.aload_n 0, 1) := (congrArg (fun c => decode c 40) zeq51).trans (by decide +kernel)
theorem d51_41 : decode (zB 51) 41 = .ok (.aload_n 1, 1) := (congrArg (fun c => decode c 41) zeq51).trans (by decide +kernel)
theorem d51_42 : decode (zB 51) 42 = .ok (.getfield 53, 3) := (congrArg (fun c => decode c 42) zeq51).trans (by decide +kernel)
theorem d51_45 : decode (zB 51) 45 = .ok (.iload_n 2, 1) := (congrArg (fun c => decode c 45) zeq51).trans (by decide +kernel)
theorem d51_46 : decode (zB 51) 46 = .ok (.iaload, 1) := (congrArg (fun c => decode c 46) zeq51).trans (by decide +kernel)
theorem d51_47 : decode (zB 51) 47 = .ok (.iload 4, 2) := (congrArg (fun c => decode c 47) zeq51).trans (by decide +kernel)
theorem d51_49 : decode (zB 51) 49 = .ok (.iload 5, 2) := (congrArg (fun c => decode c 49) zeq51).trans (by decide +kernel)
theorem d51_51 : decode (zB 51) 51 = .ok (.iload_n 3, 1) := (congrArg (fun c => decode c 51) zeq51).trans (by decide +kernel)
theorem d51_52 : decode (zB 51) 52 = .ok (.invokestatic 56, 3) := (congrArg (fun c => decode c 52) zeq51).trans (by decide +kernel)
theorem d51_55 : decode (zB 51) 55 = .ok (.imul, 1) := (congrArg (fun c => decode c 55) zeq51).trans (by decide +kernel)
theorem d51_56 : decode (zB 51) 56 = .ok (.invokevirtual 59, 3) := (congrArg (fun c => decode c 56) zeq51).trans (by decide +kernel)
theorem d51_59 : decode (zB 51) 59 = .ok (.iload 5, 2) := (congrArg (fun c => decode c 59) zeq51).trans (by decide +kernel)
theorem d51_61 : decode (zB 51) 61 = .ok (.iconst 3, 1) := (congrArg (fun c => decode c 61) zeq51).trans (by decide +kernel)
theorem d51_62 : decode (zB 51) 62 = .ok (.if_icmp .ne 19, 3) := (congrArg (fun c => decode c 62) zeq51).trans (by decide +kernel)
theorem d51_65 : decode (zB 51) 65 = .ok (.aload_n 0, 1) := (congrArg (fun c => decode c 65) zeq51).trans (by decide +kernel)
theorem d51_66 : decode (zB 51) 66 = .ok (.dup, 1) := (congrArg (fun c => decode c 66) zeq51).trans (by decide +kernel)
theorem d51_67 : decode (zB 51) 67 = .ok (.getfield 21, 3) := (congrArg (fun c => decode c 67) zeq51).trans (by decide +kernel)
theorem d51_70 : decode (zB 51) 70 = .ok (.iload 4, 2) := (congrArg (fun c => decode c 70) zeq51).trans (by decide +kernel)
theorem d51_72 : decode (zB 51) 72 = .ok (.iload_n 3, 1) := (congrArg (fun c => decode c 72) zeq51).trans (by decide +kernel)
theorem d51_73 : decode (zB 51) 73 = .ok (.imul, 1) := (congrArg (fun c => decode c 73) zeq51).trans (by decide +kernel)
theorem d51_74 : decode (zB 51) 74 = .ok (.iadd, 1) := (congrArg (fun c => decode c 74) zeq51).trans (by decide +kernel)
theorem d51_75 : decode (zB 51) 75 = .ok (.putfield 21, 3) := (congrArg (fun c => decode c 75) zeq51).trans (by decide +kernel)
theorem d51_78 : decode (zB 51) 78 = .ok (.goto 50, 3) := (congrArg (fun c => decode c 78) zeq51).trans (by decide +kernel)
theorem d51_81 : decode (zB 51) 81 = .ok (.iload 5, 2) := (congrArg (fun c => decode c 81) zeq51).trans (by decide +kernel)
theorem d51_83 : decode (zB 51) 83 = .ok (.iconst 4, 1) := (congrArg (fun c => decode c 83) zeq51).trans (by decide +kernel)
theorem d51_84 : decode (zB 51) 84 = .ok (.if_icmp .ne 22, 3) := (congrArg (fun c => decode c 84) zeq51).trans (by decide +kernel)
theorem d51_87 : decode (zB 51) 87 = .ok (.aload_n 0, 1) := (congrArg (fun c => decode c 87) zeq51).trans (by decide +kernel)
theorem d51_88 : decode (zB 51) 88 = .ok (.aload_n 1, 1) := (congrArg (fun c => decode c 88) zeq51).trans (by decide +kernel)
theorem d51_89 : decode (zB 51) 89 = .ok (.getfield 43, 3) := (congrArg (fun c => decode c 89) zeq51).trans (by decide +kernel)
theorem d51_92 : decode (zB 51) 92 = .ok (.iload_n 2, 1) := (congrArg (fun c => decode c 92) zeq51).trans (by decide +kernel)
theorem d51_93 : decode (zB 51) 93 = .ok (.iaload, 1) := (congrArg (fun c => decode c 93) zeq51).trans (by decide +kernel)
theorem d51_94 : decode (zB 51) 94 = .ok (.aload_n 1, 1) := (congrArg (fun c => decode c 94) zeq51).trans (by decide +kernel)
theorem d51_95 : decode (zB 51) 95 = .ok (.getfield 53, 3) := (congrArg (fun c => decode c 95) zeq51).trans (by decide +kernel)
theorem d51_98 : decode (zB 51) 98 = .ok (.iload_n 2, 1) := (congrArg (fun c => decode c 98) zeq51).trans (by decide +kernel)
theorem d51_99 : decode (zB 51) 99 = .ok (.iaload, 1) := (congrArg (fun c => decode c 99) zeq51).trans (by decide +kernel)
theorem d51_100 : decode (zB 51) 100 = .ok (.invokevirtual 63, 3) := (congrArg (fun c => decode c 100) zeq51).trans (by decide +kernel)
theorem d51_103 : decode (zB 51) 103 = .ok (.goto 25, 3) := (congrArg (fun c => decode c 103) zeq51).trans (by decide +kernel)
theorem d51_106 : decode (zB 51) 106 = .ok (.iload 5, 2) := (congrArg (fun c => decode c 106) zeq51).trans (by decide +kernel)
theorem d51_108 : decode (zB 51) 108 = .ok (.iconst 5, 1) := (congrArg (fun c => decode c 108) zeq51).trans (by decide +kernel)
theorem d51_109 : decode (zB 51) 109 = .ok (.if_icmp .ne 19, 3) := (congrArg (fun c => decode c 109) zeq51).trans (by decide +kernel)
theorem d51_112 : decode (zB 51) 112 = .ok (.iload 4, 2) := (congrArg (fun c => decode c 112) zeq51).trans (by decide +kernel)
theorem d51_114 : decode (zB 51) 114 = .ok (.iconst 1, 1) := (congrArg (fun c => decode c 114) zeq51).trans (by decide +kernel)
theorem d51_115 : decode (zB 51) 115 = .ok (.if_icmp .ne 13, 3) := (congrArg (fun c => decode c 115) zeq51).trans (by decide +kernel)
theorem d51_118 : decode (zB 51) 118 = .ok (.aload_n 0, 1) := (congrArg (fun c => decode c 118) zeq51).trans (by decide +kernel)
theorem d51_119 : decode (zB 51) 119 = .ok (.dup, 1) := (congrArg (fun c => decode c 119) zeq51).trans (by decide +kernel)
theorem d51_120 : decode (zB 51) 120 = .ok (.getfield 25, 3) := (congrArg (fun c => decode c 120) zeq51).trans (by decide +kernel)
theorem d51_123 : decode (zB 51) 123 = .ok (.iconst 1, 1) := (congrArg (fun c => decode c 123) zeq51).trans (by decide +kernel)
theorem d51_124 : decode (zB 51) 124 = .ok (.iadd, 1) := (congrArg (fun c => decode c 124) zeq51).trans (by decide +kernel)
theorem d51_125 : decode (zB 51) 125 = .ok (.putfield 25, 3) := (congrArg (fun c => decode c 125) zeq51).trans (by decide +kernel)
theorem d51_128 : decode (zB 51) 128 = .ok (.return_, 1) := (congrArg (fun c => decode c 128) zeq51).trans (by decide +kernel)
theorem c51 {d : Nat} {M : zM} {Q : Option Value → zM → Prop} {u : Nat} {P : yP} {a : Nat} {T : yT} {i : Nat} {n w : Int32} (hu : SPu M u) (hP : RPu M u P) (hp : SPr M a) (hr : RP M a T) (ho : OKT T) (hi : i < tn T) (hau : a + 7 ≤ u) (k : ∀ M', RPu M' u (ych T P i n w) → Fi (FU u) M M' → Q none M') : qC (d + 2) 51 [.ref u, .ref a, .int (nI i), .int n, .int w] M Q := by
  have hn := ho.n
  have hk6 := ho.k hi
  refine qC_of (by decide) (Nat.le_of_ble_eq_true rfl) ?_
  refine q_aload_n d51_0 rfl ?_
  refine q_ifnull (r := some _) 12 d51_1 (by decide) (fun q => absurd q (Option.some_ne_none _)) (fun _ => ?_)
  refine q_aload_n d51_4 rfl ?_
  refine q_iload_n d51_5 rfl ?_
  refine q_v1 d51_6 rfl rfl hp.1 (Nat.le_of_ble_eq_true rfl) (c47t hp hr hn hi ?_)
  refine n0_ne 13 d51_9 (by decide) (by decide) (fun _ => ?_) (fun q => absurd q (by decide))
  refine q_aload_n d51_13 rfl ?_
  refine q_getr (c := 1) (f := 0) d51_14 ⟨rfl, rfl⟩ hp.1 (hp.2 0 (by decide)).1 ?_
  refine q_iload_n d51_17 rfl ?_
  refine n_iald d51_18 (hp.2 0 (by decide)).2 (by omega) (by decide) (hr.2.2 _ (by omega)).1 ?_
  refine q_istore d51_19 (by decide) rfl ?_
  refine q_aload_n d51_21 rfl ?_
  refine q_aload_n d51_22 rfl ?_
  refine q_getr (c := 1) (f := 1) d51_23 ⟨rfl, rfl⟩ hp.1 (hp.2 1 (by decide)).1 ?_
  refine q_iload_n d51_26 rfl ?_
  refine n_iald d51_27 (hp.2 1 (by decide)).2 (by omega) (by decide) (hr.2.2 _ (by omega)).2.1 ?_
  refine q_iload d51_28 rfl ?_
  refine q_iload d51_30 rfl ?_
  refine q_iload_n d51_32 rfl ?_
  refine q_s2 d51_33 (Or.inl rfl) rfl (Nat.le_of_ble_eq_true rfl) (c48 (by omega) ?_)
  refine q_imul d51_36 ?_
  refine q_v2 d51_37 rfl rfl hu.1 (Nat.le_of_ble_eq_true rfl) (c52 hu hP (fun M1 hP1 f1 => ?_))
  have hu1 := SPu_fi hu f1
  have hp1 := SPr_fi hp f1
  have hr1 := RP_fr hr f1.fr (FU_x hau)
  refine q_aload_n d51_40 rfl ?_
  refine q_aload_n d51_41 rfl ?_
  refine q_getr (c := 1) (f := 2) d51_42 ⟨rfl, rfl⟩ hp1.1 (hp1.2 2 (by decide)).1 ?_
  refine q_iload_n d51_45 rfl ?_
  refine n_iald d51_46 (hp1.2 2 (by decide)).2 (by omega) (by decide) (hr1.2.2 _ (by omega)).2.2.1 ?_
  refine q_iload d51_47 rfl ?_
  refine q_iload d51_49 rfl ?_
  refine q_iload_n d51_51 rfl ?_
  refine q_s2 d51_52 (Or.inl rfl) rfl (Nat.le_of_ble_eq_true rfl) (c50 (by omega) ?_)
  refine q_imul d51_55 ?_
  refine q_v2 d51_56 rfl rfl hu1.1 (Nat.le_of_ble_eq_true rfl) (c52 hu1 hP1 (fun M2 hP2 f2 => ?_))
  have hu2 := SPu_fi hu1 f2
  have hp2 := SPr_fi hp1 f2
  have hr2 := RP_fr hr1 f2.fr (FU_x hau)
  refine q_iload d51_59 rfl ?_
  refine q_iconstN (z := 3) d51_61 ?_
  refine nc_ne 81 d51_62 (by decide) (by omega) (by omega) (fun h62 => ?_) (fun h62 => ?_)
  · refine q_iload d51_81 rfl ?_
    refine q_iconstN (z := 4) d51_83 ?_
    refine nc_ne 106 d51_84 (by decide) (by omega) (by omega) (fun h84 => ?_) (fun h84 => ?_)
    · refine q_iload d51_106 rfl ?_
      refine q_iconstN (z := 5) d51_108 ?_
      refine nc_ne 128 d51_109 (by decide) (by omega) (by omega) (fun h109 => ?_) (fun h109 => ?_)
      · refine q_ret d51_128 rfl ?_
        first
        | exact k _ (by unfold ych; rw [if_neg h62, if_pos h84]; exact hP3) ((f1.trans f2).trans f3)
        | exact k _ (by unfold ych; rw [if_pos h62]; exact RPu_h hP2) ((f1.trans f2).wi (FU_0 _ _))
        | exact k _ (by unfold ych; rw [if_neg h62, if_neg h84, if_pos ⟨h109, h115⟩]; exact RPu_m hP2) ((f1.trans f2).wi (FU_0 _ _))
        | exact k _ (by unfold ych; rw [if_neg h62, if_neg h84, if_neg (fun q => h115 q.2)]; exact hP2) (f1.trans f2)
        | exact k _ (by unfold ych; rw [if_neg h62, if_neg h84, if_neg (fun q => h109 q.1)]; exact hP2) (f1.trans f2)
      · refine q_iload d51_112 rfl ?_
        refine q_iconstN (z := 1) d51_114 ?_
        refine ic_ne 128 d51_115 (by decide) (fun h115 => ?_) (fun h115 => ?_)
        · refine q_ret d51_128 rfl ?_
          first
          | exact k _ (by unfold ych; rw [if_neg h62, if_pos h84]; exact hP3) ((f1.trans f2).trans f3)
          | exact k _ (by unfold ych; rw [if_pos h62]; exact RPu_h hP2) ((f1.trans f2).wi (FU_0 _ _))
          | exact k _ (by unfold ych; rw [if_neg h62, if_neg h84, if_pos ⟨h109, h115⟩]; exact RPu_m hP2) ((f1.trans f2).wi (FU_0 _ _))
          | exact k _ (by unfold ych; rw [if_neg h62, if_neg h84, if_neg (fun q => h115 q.2)]; exact hP2) (f1.trans f2)
          | exact k _ (by unfold ych; rw [if_neg h62, if_neg h84, if_neg (fun q => h109 q.1)]; exact hP2) (f1.trans f2)
        · refine q_aload_n d51_118 rfl ?_
          refine q_dup d51_119 rfl ?_
          refine q_getv (c := 2) (f := 2) d51_120 ⟨rfl, by decide⟩ hu2.1 hP2.2.2 ?_
          refine q_iconstN (z := 1) d51_123 ?_
          refine q_iadd d51_124 ?_
          refine q_puti (c := 2) (f := 2) d51_125 ⟨rfl, rfl, by decide⟩ hu2.1 ?_
          refine q_ret d51_128 rfl ?_
          first
          | exact k _ (by unfold ych; rw [if_neg h62, if_pos h84]; exact hP3) ((f1.trans f2).trans f3)
          | exact k _ (by unfold ych; rw [if_pos h62]; exact RPu_h hP2) ((f1.trans f2).wi (FU_0 _ _))
          | exact k _ (by unfold ych; rw [if_neg h62, if_neg h84, if_pos ⟨h109, h115⟩]; exact RPu_m hP2) ((f1.trans f2).wi (FU_0 _ _))
          | exact k _ (by unfold ych; rw [if_neg h62, if_neg h84, if_neg (fun q => h115 q.2)]; exact hP2) (f1.trans f2)
          | exact k _ (by unfold ych; rw [if_neg h62, if_neg h84, if_neg (fun q => h109 q.1)]; exact hP2) (f1.trans f2)
    · refine q_aload_n d51_87 rfl ?_
      refine q_aload_n d51_88 rfl ?_
      refine q_getr (c := 1) (f := 1) d51_89 ⟨rfl, rfl⟩ hp2.1 (hp2.2 1 (by decide)).1 ?_
      refine q_iload_n d51_92 rfl ?_
      refine n_iald d51_93 (hp2.2 1 (by decide)).2 (by omega) (by decide) (hr2.2.2 _ (by omega)).2.1 ?_
      refine q_aload_n d51_94 rfl ?_
      refine q_getr (c := 1) (f := 2) d51_95 ⟨rfl, rfl⟩ hp2.1 (hp2.2 2 (by decide)).1 ?_
      refine q_iload_n d51_98 rfl ?_
      refine n_iald d51_99 (hp2.2 2 (by decide)).2 (by omega) (by decide) (hr2.2.2 _ (by omega)).2.2.1 ?_
      refine q_v2 d51_100 rfl rfl hu2.1 (Nat.le_of_ble_eq_true rfl) (c53 hu2 hP2 (fun M3 hP3 f3 => ?_))
      refine q_goto 128 d51_103 (by decide) ?_
      refine q_ret d51_128 rfl ?_
      first
      | exact k _ (by unfold ych; rw [if_neg h62, if_pos h84]; exact hP3) ((f1.trans f2).trans f3)
      | exact k _ (by unfold ych; rw [if_pos h62]; exact RPu_h hP2) ((f1.trans f2).wi (FU_0 _ _))
      | exact k _ (by unfold ych; rw [if_neg h62, if_neg h84, if_pos ⟨h109, h115⟩]; exact RPu_m hP2) ((f1.trans f2).wi (FU_0 _ _))
      | exact k _ (by unfold ych; rw [if_neg h62, if_neg h84, if_neg (fun q => h115 q.2)]; exact hP2) (f1.trans f2)
      | exact k _ (by unfold ych; rw [if_neg h62, if_neg h84, if_neg (fun q => h109 q.1)]; exact hP2) (f1.trans f2)
  · refine q_aload_n d51_65 rfl ?_
    refine q_dup d51_66 rfl ?_
    refine q_getv (c := 2) (f := 1) d51_67 ⟨rfl, by decide⟩ hu2.1 hP2.2.1 ?_
    refine q_iload d51_70 rfl ?_
    refine q_iload_n d51_72 rfl ?_
    refine q_imul d51_73 ?_
    refine q_iadd d51_74 ?_
    refine q_puti (c := 2) (f := 1) d51_75 ⟨rfl, rfl, by decide⟩ hu2.1 ?_
    refine q_goto 128 d51_78 (by decide) ?_
    refine q_ret d51_128 rfl ?_
    first
    | exact k _ (by unfold ych; rw [if_neg h62, if_pos h84]; exact hP3) ((f1.trans f2).trans f3)
    | exact k _ (by unfold ych; rw [if_pos h62]; exact RPu_h hP2) ((f1.trans f2).wi (FU_0 _ _))
    | exact k _ (by unfold ych; rw [if_neg h62, if_neg h84, if_pos ⟨h109, h115⟩]; exact RPu_m hP2) ((f1.trans f2).wi (FU_0 _ _))
    | exact k _ (by unfold ych; rw [if_neg h62, if_neg h84, if_neg (fun q => h115 q.2)]; exact hP2) (f1.trans f2)
    | exact k _ (by unfold ych; rw [if_neg h62, if_neg h84, if_neg (fun q => h109 q.1)]; exact hP2) (f1.trans f2)
/-- does one of these steps fail -/
def ybl (T : yT) (P : yP) (set : Nat) : Bool := decide (∃ i, i < tn T ∧ set.testBit i = true ∧ yob T P i (tu T i) 1 ≠ 0)
theorem d45_0 : decode (zB 45) 0 = .ok (.iconst 0, 1) := (congrArg (fun c => decode c 0) zeq45).trans (by decide +kernel)
theorem d45_1 : decode (zB 45) 1 = .ok (.istore_n 3, 1) := (congrArg (fun c => decode c 1) zeq45).trans (by decide +kernel)
theorem d45_2 : decode (zB 45) 2 = .ok (.iload_n 3, 1) := (congrArg (fun c => decode c 2) zeq45).trans (by decide +kernel)
theorem d45_3 : decode (zB 45) 3 = .ok (.aload_n 1, 1) := (congrArg (fun c => decode c 3) zeq45).trans (by decide +kernel)
theorem d45_4 : decode (zB 45) 4 = .ok (.getfield 66, 3) := (congrArg (fun c => decode c 4) zeq45).trans (by decide +kernel)
theorem d45_7 : decode (zB 45) 7 = .ok (.if_icmp .ge 35, 3) := (congrArg (fun c => decode c 7) zeq45).trans (by decide +kernel)
theorem d45_10 : decode (zB 45) 10 = .ok (.iload_n 2, 1) := (congrArg (fun c => decode c 10) zeq45).trans (by decide +kernel)
theorem d45_11 : decode (zB 45) 11 = .ok (.iload_n 3, 1) := (congrArg (fun c => decode c 11) zeq45).trans (by decide +kernel)
theorem d45_12 : decode (zB 45) 12 = .ok (.invokestatic 69, 3) := (congrArg (fun c => decode c 12) zeq45).trans (by decide +kernel)
theorem d45_15 : decode (zB 45) 15 = .ok (.ifCond .eq 21, 3) := (congrArg (fun c => decode c 15) zeq45).trans (by decide +kernel)
theorem d45_18 : decode (zB 45) 18 = .ok (.aload_n 0, 1) := (congrArg (fun c => decode c 18) zeq45).trans (by decide +kernel)
theorem d45_19 : decode (zB 45) 19 = .ok (.aload_n 1, 1) := (congrArg (fun c => decode c 19) zeq45).trans (by decide +kernel)
theorem d45_20 : decode (zB 45) 20 = .ok (.iload_n 3, 1) := (congrArg (fun c => decode c 20) zeq45).trans (by decide +kernel)
theorem d45_21 : decode (zB 45) 21 = .ok (.aload_n 1, 1) := (congrArg (fun c => decode c 21) zeq45).trans (by decide +kernel)
theorem d45_22 : decode (zB 45) 22 = .ok (.getfield 73, 3) := (congrArg (fun c => decode c 22) zeq45).trans (by decide +kernel)
theorem d45_25 : decode (zB 45) 25 = .ok (.iload_n 3, 1) := (congrArg (fun c => decode c 25) zeq45).trans (by decide +kernel)
theorem d45_26 : decode (zB 45) 26 = .ok (.iaload, 1) := (congrArg (fun c => decode c 26) zeq45).trans (by decide +kernel)
theorem d45_27 : decode (zB 45) 27 = .ok (.iconst 1, 1) := (congrArg (fun c => decode c 27) zeq45).trans (by decide +kernel)
theorem d45_28 : decode (zB 45) 28 = .ok (.invokevirtual 76, 3) := (congrArg (fun c => decode c 28) zeq45).trans (by decide +kernel)
theorem d45_31 : decode (zB 45) 31 = .ok (.ifCond .eq 5, 3) := (congrArg (fun c => decode c 31) zeq45).trans (by decide +kernel)
theorem d45_34 : decode (zB 45) 34 = .ok (.iconst 1, 1) := (congrArg (fun c => decode c 34) zeq45).trans (by decide +kernel)
theorem d45_35 : decode (zB 45) 35 = .ok (.ireturn, 1) := (congrArg (fun c => decode c 35) zeq45).trans (by decide +kernel)
theorem d45_36 : decode (zB 45) 36 = .ok (.iinc 3 1, 3) := (congrArg (fun c => decode c 36) zeq45).trans (by decide +kernel)
theorem d45_39 : decode (zB 45) 39 = .ok (.goto (-37), 3) := (congrArg (fun c => decode c 39) zeq45).trans (by decide +kernel)
theorem d45_42 : decode (zB 45) 42 = .ok (.iconst 0, 1) := (congrArg (fun c => decode c 42) zeq45).trans (by decide +kernel)
theorem d45_43 : decode (zB 45) 43 = .ok (.ireturn, 1) := (congrArg (fun c => decode c 43) zeq45).trans (by decide +kernel)
theorem l45 {d : Nat} {M : zM} {Q : Option Value → zM → Prop} {u : Nat} {P : yP} {a : Nat} {T : yT} {set : Nat} (hu : SPu M u) (hP : RPu M u P) (hp : SPr M a) (hr : RP M a T) (ho : OKT T) (hs : set < 4096) (k : Q (some (.int (bI (ybl T P set)))) M) : ∀ (r i : Nat), i ≤ tn T → tn T < i + r → (∀ j, j < i → set.testBit j = true → yob T P j (tu T j) 1 = 0) → qW (zEv (d + 2)) 45 Q 2 [(3, .int (nI i)), (0, .ref u), (1, .ref a), (2, .int (nI set))] [] M := by
  intro r
  induction r with
  | zero => intros; omega
  | succ r ih =>
    intro i  h1 h2 hb
    have hn := ho.n
    refine q_iload_n d45_2 rfl ?_
    refine q_aload_n d45_3 rfl ?_
    refine q_getv (c := 1) (f := 6) d45_4 ⟨rfl, by decide⟩ hp.1 hr.1 ?_
    refine nc_ge 42 d45_7 (by decide) (by omega) (by omega) (fun h7 => ?_) (fun h7 => ?_)
    · refine q_iconstN (z := 0) d45_42 ?_
      refine q_zret d45_43 rfl (by decide) ?_
      exact bK0 k (decide_eq_false (fun ⟨j, h3, h4, h5⟩ => h5 (hb j (by omega) h4)))
    · refine q_iload_n d45_10 rfl ?_
      refine q_iload_n d45_11 rfl ?_
      refine q_s2 d45_12 (Or.inr rfl) rfl (Nat.le_of_ble_eq_true rfl) (c35 (by omega) (by omega) ?_)
      refine b0_eq 36 d45_15 (by decide) (fun h15 => ?_) (fun h15 => ?_)
      · refine n_iinc 1 d45_36 (by decide) rfl rfl ?_
        refine q_goto 2 d45_39 (by decide) ?_
        refine ih (i + 1) (by omega) (by omega) (fun j h3 h4 => ?_)
        by_cases e : j = i
        · subst e; first | exact h31 | (rw [h15] at h4; cases h4)
        · exact hb j (by omega) h4
      · refine q_aload_n d45_18 rfl ?_
        refine q_aload_n d45_19 rfl ?_
        refine q_iload_n d45_20 rfl ?_
        refine q_aload_n d45_21 rfl ?_
        refine q_getr (c := 1) (f := 3) d45_22 ⟨rfl, rfl⟩ hp.1 (hp.2 3 (by decide)).1 ?_
        refine q_iload_n d45_25 rfl ?_
        refine n_iald d45_26 (hp.2 3 (by decide)).2 (by omega) (by decide) (hr.2.2 _ (by omega)).2.2.2.1 ?_
        refine q_iconst (x := (1)) d45_27 rfl ?_
        refine q_v4 d45_28 rfl rfl hu.1 (Nat.le_of_ble_eq_true rfl) (c46 hu hP hp hr ho (by omega) ?_)
        refine i0_eq 36 d45_31 (by decide) (fun h31 => ?_) (fun h31 => ?_)
        · refine n_iinc 1 d45_36 (by decide) rfl rfl ?_
          refine q_goto 2 d45_39 (by decide) ?_
          refine ih (i + 1) (by omega) (by omega) (fun j h3 h4 => ?_)
          by_cases e : j = i
          · subst e; first | exact h31 | (rw [h15] at h4; cases h4)
          · exact hb j (by omega) h4
        · refine q_iconstN (z := 1) d45_34 ?_
          refine q_zret d45_35 rfl (by decide) ?_
          exact bK1 k (decide_eq_true ⟨i, by omega, h15, h31⟩)
theorem c45 {d : Nat} {M : zM} {Q : Option Value → zM → Prop} {u : Nat} {P : yP} {a : Nat} {T : yT} {set : Nat} (hu : SPu M u) (hP : RPu M u P) (hp : SPr M a) (hr : RP M a T) (ho : OKT T) (hs : set < 4096) (k : Q (some (.int (bI (ybl T P set)))) M) : qC (d + 3) 45 [.ref u, .ref a, .int (nI set)] M Q := by
  refine qC_of (by decide) (Nat.le_of_ble_eq_true rfl) ?_
  refine q_iconstN (z := 0) d45_0 ?_
  refine q_istore_n d45_1 (by decide) rfl ?_
  exact l45 hu hP hp hr ho hs k (tn T + 1) 0 (by omega) (by omega) (fun j hj => absurd hj (by omega))
theorem d95_0 : decode (zB 95) 0 = .ok (.aload_n 0, 1) := (congrArg (fun c => decode c 0) zeq95).trans (by decide +kernel)
theorem d95_1 : decode (zB 95) 1 = .ok (.getfield 9, 3) := (congrArg (fun c => decode c 1) zeq95).trans (by decide +kernel)
theorem d95_4 : decode (zB 95) 4 = .ok (.bipush 100, 2) := (congrArg (fun c => decode c 4) zeq95).trans (by decide +kernel)
theorem d95_6 : decode (zB 95) 6 = .ok (.invokestatic 15, 3) := (congrArg (fun c => decode c 6) zeq95).trans (by decide +kernel)
theorem d95_9 : decode (zB 95) 9 = .ok (.aload_n 0, 1) := (congrArg (fun c => decode c 9) zeq95).trans (by decide +kernel)
theorem d95_10 : decode (zB 95) 10 = .ok (.iconst 0, 1) := (congrArg (fun c => decode c 10) zeq95).trans (by decide +kernel)
theorem d95_11 : decode (zB 95) 11 = .ok (.putfield 21, 3) := (congrArg (fun c => decode c 11) zeq95).trans (by decide +kernel)
theorem d95_14 : decode (zB 95) 14 = .ok (.aload_n 0, 1) := (congrArg (fun c => decode c 14) zeq95).trans (by decide +kernel)
theorem d95_15 : decode (zB 95) 15 = .ok (.iconst 0, 1) := (congrArg (fun c => decode c 15) zeq95).trans (by decide +kernel)
theorem d95_16 : decode (zB 95) 16 = .ok (.putfield 25, 3) := (congrArg (fun c => decode c 16) zeq95).trans (by decide +kernel)
theorem d95_19 : decode (zB 95) 19 = .ok (.return_, 1) := (congrArg (fun c => decode c 19) zeq95).trans (by decide +kernel)
theorem c95 {d : Nat} {M : zM} {Q : Option Value → zM → Prop} {u : Nat} (hu : SPu M u) (k : ∀ M', RPu M' u yP0 → Fi (FU u) M M' → Q none M') : qC (d + 2) 95 [.ref u] M Q := by
  refine qC_of (by decide) (Nat.le_of_ble_eq_true rfl) ?_
  refine q_aload_n d95_0 rfl ?_
  refine q_getr (c := 2) (f := 0) d95_1 ⟨rfl, rfl⟩ hu.1 hu.2.1 ?_
  refine q_bipush (x := nI 100) d95_4 rfl ?_
  refine q_s2 d95_6 (Or.inl rfl) rfl (Nat.le_of_ble_eq_true rfl) (c6 hu.2.2 (by decide) (fun M1 hv f => ?_))
  have hu1 := SPu_fi hu f
  refine q_aload_n d95_9 rfl ?_
  refine q_iconstN (z := 0) d95_10 ?_
  refine q_puti (c := 2) (f := 1) d95_11 ⟨rfl, rfl, by decide⟩ hu1.1 ?_
  refine q_aload_n d95_14 rfl ?_
  refine q_iconstN (z := 0) d95_15 ?_
  refine q_puti (c := 2) (f := 2) d95_16 ⟨rfl, rfl, by decide⟩ hu1.1 ?_
  refine q_ret d95_19 rfl ?_
  refine k _ ⟨fun j hj => ?_, ?_, ?_⟩ (((f.mono (fun b j q => q ▸ FU_1 u j)).wi (FU_0 _ _)).wi (FU_0 _ _))
  · rw [wi_n (Or.inl (by omega)), wi_n (Or.inl (by omega))]; exact hv j hj
  · rw [wi_n (Or.inr (by decide)), wi_s]; rfl
  · rw [wi_s]; rfl
theorem d42_0 : decode (zB 42) 0 = .ok (.aload_n 1, 1) := (congrArg (fun c => decode c 0) zeq42).trans (by decide +kernel)
theorem d42_1 : decode (zB 42) 1 = .ok (.getfield 9, 3) := (congrArg (fun c => decode c 1) zeq42).trans (by decide +kernel)
theorem d42_4 : decode (zB 42) 4 = .ok (.iconst 0, 1) := (congrArg (fun c => decode c 4) zeq42).trans (by decide +kernel)
theorem d42_5 : decode (zB 42) 5 = .ok (.aload_n 0, 1) := (congrArg (fun c => decode c 5) zeq42).trans (by decide +kernel)
theorem d42_6 : decode (zB 42) 6 = .ok (.getfield 9, 3) := (congrArg (fun c => decode c 6) zeq42).trans (by decide +kernel)
theorem d42_9 : decode (zB 42) 9 = .ok (.iconst 0, 1) := (congrArg (fun c => decode c 9) zeq42).trans (by decide +kernel)
theorem d42_10 : decode (zB 42) 10 = .ok (.bipush 6, 2) := (congrArg (fun c => decode c 10) zeq42).trans (by decide +kernel)
theorem d42_12 : decode (zB 42) 12 = .ok (.invokestatic 28, 3) := (congrArg (fun c => decode c 12) zeq42).trans (by decide +kernel)
theorem d42_15 : decode (zB 42) 15 = .ok (.aload_n 0, 1) := (congrArg (fun c => decode c 15) zeq42).trans (by decide +kernel)
theorem d42_16 : decode (zB 42) 16 = .ok (.aload_n 1, 1) := (congrArg (fun c => decode c 16) zeq42).trans (by decide +kernel)
theorem d42_17 : decode (zB 42) 17 = .ok (.getfield 21, 3) := (congrArg (fun c => decode c 17) zeq42).trans (by decide +kernel)
theorem d42_20 : decode (zB 42) 20 = .ok (.putfield 21, 3) := (congrArg (fun c => decode c 20) zeq42).trans (by decide +kernel)
theorem d42_23 : decode (zB 42) 23 = .ok (.aload_n 0, 1) := (congrArg (fun c => decode c 23) zeq42).trans (by decide +kernel)
theorem d42_24 : decode (zB 42) 24 = .ok (.aload_n 1, 1) := (congrArg (fun c => decode c 24) zeq42).trans (by decide +kernel)
theorem d42_25 : decode (zB 42) 25 = .ok (.getfield 25, 3) := (congrArg (fun c => decode c 25) zeq42).trans (by decide +kernel)
theorem d42_28 : decode (zB 42) 28 = .ok (.putfield 25, 3) := (congrArg (fun c => decode c 28) zeq42).trans (by decide +kernel)
theorem d42_31 : decode (zB 42) 31 = .ok (.return_, 1) := (congrArg (fun c => decode c 31) zeq42).trans (by decide +kernel)
theorem c42 {d : Nat} {M : zM} {Q : Option Value → zM → Prop} {u v : Nat} {P : yP} (hu : SPu M u) (hv : SPu M v) (hP : RPu M v P) (huv : u + 2 ≤ v ∨ v + 2 ≤ u) (k : ∀ M', RPu M' u P → Fi (FU u) M M' → Q none M') : qC (d + 1) 42 [.ref u, .ref v] M Q := by
  refine qC_of (by decide) (Nat.le_of_ble_eq_true rfl) ?_
  refine q_aload_n d42_0 rfl ?_
  refine q_getr (c := 2) (f := 0) d42_1 ⟨rfl, rfl⟩ hv.1 hv.2.1 ?_
  refine q_iconstN (z := 0) d42_4 ?_
  refine q_aload_n d42_5 rfl ?_
  refine q_getr (c := 2) (f := 0) d42_6 ⟨rfl, rfl⟩ hu.1 hu.2.1 ?_
  refine q_iconstN (z := 0) d42_9 ?_
  refine q_bipush (x := nI 6) d42_10 rfl ?_
  refine n_copy d42_12 rfl hv.2.2 hu.2.2 (by decide) (by decide) (by omega) (by omega) (Nat.le_of_ble_eq_true rfl) ?_
  refine q_aload_n d42_15 rfl ?_
  refine q_aload_n d42_16 rfl ?_
  refine q_getv (c := 2) (f := 1) d42_17 ⟨rfl, by decide⟩ hv.1 ((cp_eq _ _ _ _ _ _ _ _).trans ((if_neg (by omega)).trans hP.2.1)) ?_
  refine q_puti (c := 2) (f := 1) d42_20 ⟨rfl, rfl, by decide⟩ hu.1 ?_
  refine q_aload_n d42_23 rfl ?_
  refine q_aload_n d42_24 rfl ?_
  refine q_getv (c := 2) (f := 2) d42_25 ⟨rfl, by decide⟩ hv.1 ((wi_n (Or.inl (by omega))).trans ((cp_eq _ _ _ _ _ _ _ _).trans ((if_neg (by omega)).trans hP.2.2))) ?_
  refine q_puti (c := 2) (f := 2) d42_28 ⟨rfl, rfl, by decide⟩ hu.1 ?_
  refine q_ret d42_31 rfl ?_
  refine k _ ⟨fun j hj => ?_, ?_, ?_⟩ ((((Fi.refl _ _).cp (fun j _ _ => FU_1 u j)).wi (FU_0 _ _)).wi (FU_0 _ _))
  · rw [wi_n (Or.inl (by omega)), wi_n (Or.inl (by omega)), cp_eq, if_pos ⟨rfl, by omega, by omega⟩, show 0 + (j - 0) = j by omega]; exact hP.1 j hj
  · rw [wi_n (Or.inr (by decide)), wi_s]
  · rw [wi_s]
/-! ===== contracts: sagas ===== -/
def zSa (a : Nat) : Prop := a = 70 ∨ a = 78 ∨ a = 86 ∨ a = 102 ∨ a = 110 ∨ a = 118
def FS (a : Nat) : Nat → Nat → Prop := Fb a (a + 8)
theorem SC.sg {M : zM} (h : SC M) {a : Nat} (ha : zSa a) : SSg M a := by
  obtain ⟨_, _, _, _, _, _, _, _, _, h1, h2, _⟩ := h
  rcases ha with rfl | rfl | rfl | rfl | rfl | rfl
  · exact h1 0 (by omega)
  · exact h1 1 (by omega)
  · exact h1 2 (by omega)
  · exact h2 0 (by omega)
  · exact h2 1 (by omega)
  · exact h2 2 (by omega)
theorem SC.pr {M : zM} (h : SC M) {i : Nat} (hi : i < 6) : SPr M (20 + 7 * i) := h.2.2.1 i hi
theorem SSg_wr {M : zM} {a : Nat} {v : Option Nat} (h : SSg M a) : SSg (zwr M a 2 v) a :=
  ⟨h.1, (by rw [wr_eq, if_neg (by omega)]; exact h.2.1), fun f hf => (by rw [wr_eq, if_neg (by omega)]; exact h.2.2.1 f hf), h.2.2.2⟩
theorem FS_i {a f k : Nat} (h : f < 8) : FS a (a + f) k := ⟨by omega, by omega⟩
theorem FS_x {a b k : Nat} (h1 : a ≤ b) (h2 : b < a + 8) : FS a b k := ⟨h1, h2⟩
theorem FS_0 {a k : Nat} : FS a a k := ⟨by omega, by omega⟩
theorem bit_or (m i k : Nat) : (m ||| 2 ^ i).testBit k = (m.testBit k || decide (k = i)) := by
  rw [Nat.testBit_or, Nat.testBit_two_pow, show decide (i = k) = decide (k = i) by simp only [decide_eq_decide]; omega]
theorem bit_df (m i k : Nat) : (zdf m (2 ^ i)).testBit k = (m.testBit k && !decide (k = i)) := by
  rw [zdf_bit, Nat.testBit_two_pow, show decide (i = k) = decide (k = i) by simp only [decide_eq_decide]; omega]
/-- a step comes to a stand, or leaves it -/
theorem gm_in {S : yS} {i v : Nat} (hi : i < 12) : gm (gdS S (yu (gd S) i v)) v = gm S v ||| 2 ^ i := by
  apply Nat.eq_of_testBit_eq
  intro k
  rw [gm_bit, bit_or, gm_bit]
  show (decide (k < 12) && (yu (gd S) i v k == v)) = _
  by_cases e : k = i
  · subst e; rw [yu_s]; simp [hi]
  · rw [yu_n e]; simp [e]
theorem gm_out {S : yS} {i v w : Nat} (hv : gd S i = v) (hw : w ≠ v) : gm (gdS S (yu (gd S) i w)) v = zdf (gm S v) (2 ^ i) := by
  apply Nat.eq_of_testBit_eq
  intro k
  rw [gm_bit, bit_df, gm_bit]
  show (decide (k < 12) && (yu (gd S) i w k == v)) = _
  by_cases e : k = i
  · subst e; rw [yu_s]; simp [hw]
  · rw [yu_n e]; simp [e]
theorem gm_not {S : yS} {i v w : Nat} (hv : gd S i ≠ v) (hw : w ≠ v) : gm (gdS S (yu (gd S) i w)) v = gm S v := by
  apply Nat.eq_of_testBit_eq
  intro k
  rw [gm_bit, gm_bit]
  show (decide (k < 12) && (yu (gd S) i w k == v)) = _
  by_cases e : k = i
  · subst e; rw [yu_s, show (w == v) = false from beq_false_of_ne hw, show (gd S k == v) = false from beq_false_of_ne hv]
  · rw [yu_n e]
theorem d61_0 : decode (zB 61) 0 = .ok (.aload_n 0, 1) := (congrArg (fun c => decode c 0) zeq61).trans (by decide +kernel)
theorem d61_1 : decode (zB 61) 1 = .ok (.getfield 9, 3) := (congrArg (fun c => decode c 1) zeq61).trans (by decide +kernel)
theorem d61_4 : decode (zB 61) 4 = .ok (.iconst 1, 1) := (congrArg (fun c => decode c 4) zeq61).trans (by decide +kernel)
theorem d61_5 : decode (zB 61) 5 = .ok (.if_icmp .eq 11, 3) := (congrArg (fun c => decode c 5) zeq61).trans (by decide +kernel)
theorem d61_8 : decode (zB 61) 8 = .ok (.aload_n 0, 1) := (congrArg (fun c => decode c 8) zeq61).trans (by decide +kernel)
theorem d61_9 : decode (zB 61) 9 = .ok (.getfield 9, 3) := (congrArg (fun c => decode c 9) zeq61).trans (by decide +kernel)
theorem d61_12 : decode (zB 61) 12 = .ok (.iconst 2, 1) := (congrArg (fun c => decode c 12) zeq61).trans (by decide +kernel)
theorem d61_13 : decode (zB 61) 13 = .ok (.if_icmp .ne 7, 3) := (congrArg (fun c => decode c 13) zeq61).trans (by decide +kernel)
theorem d61_16 : decode (zB 61) 16 = .ok (.iconst 1, 1) := (congrArg (fun c => decode c 16) zeq61).trans (by decide +kernel)
theorem d61_17 : decode (zB 61) 17 = .ok (.goto 4, 3) := (congrArg (fun c => decode c 17) zeq61).trans (by decide +kernel)
theorem d61_20 : decode (zB 61) 20 = .ok (.iconst 0, 1) := (congrArg (fun c => decode c 20) zeq61).trans (by decide +kernel)
theorem d61_21 : decode (zB 61) 21 = .ok (.ireturn, 1) := (congrArg (fun c => decode c 21) zeq61).trans (by decide +kernel)
theorem c61 {d : Nat} {M : zM} {Q : Option Value → zM → Prop} {a g : Nat} (hs : SSg M a) (q0 : zi M a 0 = nI g) (hg : g ≤ 5) (k : Q (some (.int (bI (decide (g = 1 ∨ g = 2))))) M) : qC (d + 1) 61 [.ref a] M Q := by
  refine qC_of (by decide) (Nat.le_of_ble_eq_true rfl) ?_
  refine q_aload_n d61_0 rfl ?_
  refine q_getv (c := 5) (f := 0) d61_1 ⟨rfl, by decide⟩ hs.1 q0 ?_
  refine q_iconstN (z := 1) d61_4 ?_
  refine nc_eq 16 d61_5 (by decide) (by omega) (by omega) (fun h5 => ?_) (fun h5 => ?_)
  · refine q_iconstN (z := 1) d61_16 ?_
    refine q_goto 21 d61_17 (by decide) ?_
    refine q_zret d61_21 rfl (by decide) ?_
    exact bK1 k (decide_eq_true (by omega))
  · refine q_aload_n d61_8 rfl ?_
    refine q_getv (c := 5) (f := 0) d61_9 ⟨rfl, by decide⟩ hs.1 q0 ?_
    refine q_iconstN (z := 2) d61_12 ?_
    refine nc_ne 20 d61_13 (by decide) (by omega) (by omega) (fun h13 => ?_) (fun h13 => ?_)
    · refine q_iconstN (z := 0) d61_20 ?_
      refine q_zret d61_21 rfl (by decide) ?_
      exact bK0 k (decide_eq_false (by omega))
    · refine q_iconstN (z := 1) d61_16 ?_
      refine q_goto 21 d61_17 (by decide) ?_
      refine q_zret d61_21 rfl (by decide) ?_
      exact bK1 k (decide_eq_true (by omega))
theorem d104_0 : decode (zB 104) 0 = .ok (.aload_n 0, 1) := (congrArg (fun c => decode c 0) zeq104).trans (by decide +kernel)
theorem d104_1 : decode (zB 104) 1 = .ok (.getfield 9, 3) := (congrArg (fun c => decode c 1) zeq104).trans (by decide +kernel)
theorem d104_4 : decode (zB 104) 4 = .ok (.iconst 3, 1) := (congrArg (fun c => decode c 4) zeq104).trans (by decide +kernel)
theorem d104_5 : decode (zB 104) 5 = .ok (.if_icmp .eq 19, 3) := (congrArg (fun c => decode c 5) zeq104).trans (by decide +kernel)
theorem d104_8 : decode (zB 104) 8 = .ok (.aload_n 0, 1) := (congrArg (fun c => decode c 8) zeq104).trans (by decide +kernel)
theorem d104_9 : decode (zB 104) 9 = .ok (.getfield 9, 3) := (congrArg (fun c => decode c 9) zeq104).trans (by decide +kernel)
theorem d104_12 : decode (zB 104) 12 = .ok (.iconst 4, 1) := (congrArg (fun c => decode c 12) zeq104).trans (by decide +kernel)
theorem d104_13 : decode (zB 104) 13 = .ok (.if_icmp .eq 11, 3) := (congrArg (fun c => decode c 13) zeq104).trans (by decide +kernel)
theorem d104_16 : decode (zB 104) 16 = .ok (.aload_n 0, 1) := (congrArg (fun c => decode c 16) zeq104).trans (by decide +kernel)
theorem d104_17 : decode (zB 104) 17 = .ok (.getfield 9, 3) := (congrArg (fun c => decode c 17) zeq104).trans (by decide +kernel)
theorem d104_20 : decode (zB 104) 20 = .ok (.iconst 5, 1) := (congrArg (fun c => decode c 20) zeq104).trans (by decide +kernel)
theorem d104_21 : decode (zB 104) 21 = .ok (.if_icmp .ne 7, 3) := (congrArg (fun c => decode c 21) zeq104).trans (by decide +kernel)
theorem d104_24 : decode (zB 104) 24 = .ok (.iconst 1, 1) := (congrArg (fun c => decode c 24) zeq104).trans (by decide +kernel)
theorem d104_25 : decode (zB 104) 25 = .ok (.goto 4, 3) := (congrArg (fun c => decode c 25) zeq104).trans (by decide +kernel)
theorem d104_28 : decode (zB 104) 28 = .ok (.iconst 0, 1) := (congrArg (fun c => decode c 28) zeq104).trans (by decide +kernel)
theorem d104_29 : decode (zB 104) 29 = .ok (.ireturn, 1) := (congrArg (fun c => decode c 29) zeq104).trans (by decide +kernel)
theorem c104 {d : Nat} {M : zM} {Q : Option Value → zM → Prop} {a g : Nat} (hs : SSg M a) (q0 : zi M a 0 = nI g) (hg : g ≤ 5) (k : Q (some (.int (bI (decide (3 ≤ g))))) M) : qC (d + 1) 104 [.ref a] M Q := by
  refine qC_of (by decide) (Nat.le_of_ble_eq_true rfl) ?_
  refine q_aload_n d104_0 rfl ?_
  refine q_getv (c := 5) (f := 0) d104_1 ⟨rfl, by decide⟩ hs.1 q0 ?_
  refine q_iconstN (z := 3) d104_4 ?_
  refine nc_eq 24 d104_5 (by decide) (by omega) (by omega) (fun h5 => ?_) (fun h5 => ?_)
  · refine q_iconstN (z := 1) d104_24 ?_
    refine q_goto 29 d104_25 (by decide) ?_
    refine q_zret d104_29 rfl (by decide) ?_
    exact bK1 k (decide_eq_true (by omega))
  · refine q_aload_n d104_8 rfl ?_
    refine q_getv (c := 5) (f := 0) d104_9 ⟨rfl, by decide⟩ hs.1 q0 ?_
    refine q_iconstN (z := 4) d104_12 ?_
    refine nc_eq 24 d104_13 (by decide) (by omega) (by omega) (fun h13 => ?_) (fun h13 => ?_)
    · refine q_iconstN (z := 1) d104_24 ?_
      refine q_goto 29 d104_25 (by decide) ?_
      refine q_zret d104_29 rfl (by decide) ?_
      exact bK1 k (decide_eq_true (by omega))
    · refine q_aload_n d104_16 rfl ?_
      refine q_getv (c := 5) (f := 0) d104_17 ⟨rfl, by decide⟩ hs.1 q0 ?_
      refine q_iconstN (z := 5) d104_20 ?_
      refine nc_ne 28 d104_21 (by decide) (by omega) (by omega) (fun h21 => ?_) (fun h21 => ?_)
      · refine q_iconstN (z := 0) d104_28 ?_
        refine q_zret d104_29 rfl (by decide) ?_
        exact bK0 k (decide_eq_false (by omega))
      · refine q_iconstN (z := 1) d104_24 ?_
        refine q_goto 29 d104_25 (by decide) ?_
        refine q_zret d104_29 rfl (by decide) ?_
        exact bK1 k (decide_eq_true (by omega))
theorem d80_0 : decode (zB 80) 0 = .ok (.aload_n 0, 1) := (congrArg (fun c => decode c 0) zeq80).trans (by decide +kernel)
theorem d80_1 : decode (zB 80) 1 = .ok (.getfield 40, 3) := (congrArg (fun c => decode c 1) zeq80).trans (by decide +kernel)
theorem d80_4 : decode (zB 80) 4 = .ok (.ifnull 21, 3) := (congrArg (fun c => decode c 4) zeq80).trans (by decide +kernel)
theorem d80_7 : decode (zB 80) 7 = .ok (.aload_n 0, 1) := (congrArg (fun c => decode c 7) zeq80).trans (by decide +kernel)
theorem d80_8 : decode (zB 80) 8 = .ok (.getfield 44, 3) := (congrArg (fun c => decode c 8) zeq80).trans (by decide +kernel)
theorem d80_11 : decode (zB 80) 11 = .ok (.aload_n 0, 1) := (congrArg (fun c => decode c 11) zeq80).trans (by decide +kernel)
theorem d80_12 : decode (zB 80) 12 = .ok (.getfield 40, 3) := (congrArg (fun c => decode c 12) zeq80).trans (by decide +kernel)
theorem d80_15 : decode (zB 80) 15 = .ok (.invokevirtual 88, 3) := (congrArg (fun c => decode c 15) zeq80).trans (by decide +kernel)
theorem d80_18 : decode (zB 80) 18 = .ok (.if_icmp .ne 7, 3) := (congrArg (fun c => decode c 18) zeq80).trans (by decide +kernel)
theorem d80_21 : decode (zB 80) 21 = .ok (.iconst 1, 1) := (congrArg (fun c => decode c 21) zeq80).trans (by decide +kernel)
theorem d80_22 : decode (zB 80) 22 = .ok (.goto 4, 3) := (congrArg (fun c => decode c 22) zeq80).trans (by decide +kernel)
theorem d80_25 : decode (zB 80) 25 = .ok (.iconst 0, 1) := (congrArg (fun c => decode c 25) zeq80).trans (by decide +kernel)
theorem d80_26 : decode (zB 80) 26 = .ok (.ireturn, 1) := (congrArg (fun c => decode c 26) zeq80).trans (by decide +kernel)
theorem c80 {d : Nat} {M : zM} {Q : Option Value → zM → Prop} {a b dm : Nat} {T : yT} (hs : SSg M a) (q2 : zr M a 2 = some b) (hp : SPr M b) (hr : RP M b T) (hn : tn T ≤ 12) (q3 : zi M a 3 = nI dm) (hd : dm < 4096) (k : Q (some (.int (bI (decide (dm = 2 ^ tn T - 1))))) M) : qC (d + 2) 80 [.ref a] M Q := by
  refine qC_of (by decide) (Nat.le_of_ble_eq_true rfl) ?_
  refine q_aload_n d80_0 rfl ?_
  refine q_getr (c := 5) (f := 2) d80_1 ⟨rfl, rfl⟩ hs.1 q2 ?_
  refine q_ifnull (r := some _) 25 d80_4 (by decide) (fun q => absurd q (Option.some_ne_none _)) (fun _ => ?_)
  have hz : 2 ^ tn T ≤ 4096 := pow_12 hn
  refine q_aload_n d80_7 rfl ?_
  refine q_getv (c := 5) (f := 3) d80_8 ⟨rfl, by decide⟩ hs.1 q3 ?_
  refine q_aload_n d80_11 rfl ?_
  refine q_getr (c := 5) (f := 2) d80_12 ⟨rfl, rfl⟩ hs.1 q2 ?_
  refine q_v0 d80_15 rfl rfl hp.1 (Nat.le_of_ble_eq_true rfl) (c37 hp hr hn ?_)
  refine nc_ne 25 d80_18 (by decide) (by omega) (by omega) (fun h18 => ?_) (fun h18 => ?_)
  · refine q_iconstN (z := 0) d80_25 ?_
    refine q_zret d80_26 rfl (by decide) ?_
    exact bK0 k (decide_eq_false h18)
  · refine q_iconstN (z := 1) d80_21 ?_
    refine q_goto 26 d80_22 (by decide) ?_
    refine q_zret d80_26 rfl (by decide) ?_
    exact bK1 k (decide_eq_true h18)
theorem d88_0 : decode (zB 88) 0 = .ok (.aload_n 0, 1) := (congrArg (fun c => decode c 0) zeq88).trans (by decide +kernel)
theorem d88_1 : decode (zB 88) 1 = .ok (.getfield 40, 3) := (congrArg (fun c => decode c 1) zeq88).trans (by decide +kernel)
theorem d88_4 : decode (zB 88) 4 = .ok (.ifnull 21, 3) := (congrArg (fun c => decode c 4) zeq88).trans (by decide +kernel)
theorem d88_7 : decode (zB 88) 7 = .ok (.aload_n 0, 1) := (congrArg (fun c => decode c 7) zeq88).trans (by decide +kernel)
theorem d88_8 : decode (zB 88) 8 = .ok (.getfield 40, 3) := (congrArg (fun c => decode c 8) zeq88).trans (by decide +kernel)
theorem d88_11 : decode (zB 88) 11 = .ok (.aload_n 0, 1) := (congrArg (fun c => decode c 11) zeq88).trans (by decide +kernel)
theorem d88_12 : decode (zB 88) 12 = .ok (.getfield 44, 3) := (congrArg (fun c => decode c 12) zeq88).trans (by decide +kernel)
theorem d88_15 : decode (zB 88) 15 = .ok (.invokevirtual 92, 3) := (congrArg (fun c => decode c 15) zeq88).trans (by decide +kernel)
theorem d88_18 : decode (zB 88) 18 = .ok (.ifCond .eq 7, 3) := (congrArg (fun c => decode c 18) zeq88).trans (by decide +kernel)
theorem d88_21 : decode (zB 88) 21 = .ok (.iconst 1, 1) := (congrArg (fun c => decode c 21) zeq88).trans (by decide +kernel)
theorem d88_22 : decode (zB 88) 22 = .ok (.goto 4, 3) := (congrArg (fun c => decode c 22) zeq88).trans (by decide +kernel)
theorem d88_25 : decode (zB 88) 25 = .ok (.iconst 0, 1) := (congrArg (fun c => decode c 25) zeq88).trans (by decide +kernel)
theorem d88_26 : decode (zB 88) 26 = .ok (.ireturn, 1) := (congrArg (fun c => decode c 26) zeq88).trans (by decide +kernel)
theorem c88 {d : Nat} {M : zM} {Q : Option Value → zM → Prop} {a b dm : Nat} {T : yT} (hs : SSg M a) (q2 : zr M a 2 = some b) (hp : SPr M b) (hr : RP M b T) (q3 : zi M a 3 = nI dm) (k : Q (some (.int (bI (ypa T dm)))) M) : qC (d + 2) 88 [.ref a] M Q := by
  refine qC_of (by decide) (Nat.le_of_ble_eq_true rfl) ?_
  refine q_aload_n d88_0 rfl ?_
  refine q_getr (c := 5) (f := 2) d88_1 ⟨rfl, rfl⟩ hs.1 q2 ?_
  refine q_ifnull (r := some _) 25 d88_4 (by decide) (fun q => absurd q (Option.some_ne_none _)) (fun _ => ?_)
  refine q_aload_n d88_7 rfl ?_
  refine q_getr (c := 5) (f := 2) d88_8 ⟨rfl, rfl⟩ hs.1 q2 ?_
  refine q_aload_n d88_11 rfl ?_
  refine q_getv (c := 5) (f := 3) d88_12 ⟨rfl, by decide⟩ hs.1 q3 ?_
  refine q_v1 d88_15 rfl rfl hp.1 (Nat.le_of_ble_eq_true rfl) (c77 hp hr ?_)
  refine b0_eq 25 d88_18 (by decide) (fun h18 => ?_) (fun h18 => ?_)
  · refine q_iconstN (z := 0) d88_25 ?_
    refine q_zret d88_26 rfl (by decide) ?_
    exact bK0 k h18
  · refine q_iconstN (z := 1) d88_21 ?_
    refine q_goto 26 d88_22 (by decide) ?_
    refine q_zret d88_26 rfl (by decide) ?_
    exact bK1 k h18
theorem c88n {d : Nat} {M : zM} {Q : Option Value → zM → Prop} {a : Nat} (hs : SSg M a) (q2 : zr M a 2 = none) (k : Q (some (.int (nI 0))) M) : qC (d + 2) 88 [.ref a] M Q := by
  refine qC_of (by decide) (Nat.le_of_ble_eq_true rfl) ?_
  refine q_aload_n d88_0 rfl ?_
  refine q_getr (c := 5) (f := 2) d88_1 ⟨rfl, rfl⟩ hs.1 q2 ?_
  refine q_ifnull (r := none) 25 d88_4 (by decide) (fun _ => ?_) (fun q => absurd rfl q)
  refine q_iconstN (z := 0) d88_25 ?_
  refine q_zret d88_26 rfl (by decide) ?_
  exact k
theorem d109_0 : decode (zB 109) 0 = .ok (.aload_n 0, 1) := (congrArg (fun c => decode c 0) zeq109).trans (by decide +kernel)
theorem d109_1 : decode (zB 109) 1 = .ok (.getfield 40, 3) := (congrArg (fun c => decode c 1) zeq109).trans (by decide +kernel)
theorem d109_4 : decode (zB 109) 4 = .ok (.ifnonnull 7, 3) := (congrArg (fun c => decode c 4) zeq109).trans (by decide +kernel)
theorem d109_7 : decode (zB 109) 7 = .ok (.iconst 0, 1) := (congrArg (fun c => decode c 7) zeq109).trans (by decide +kernel)
theorem d109_8 : decode (zB 109) 8 = .ok (.goto 10, 3) := (congrArg (fun c => decode c 8) zeq109).trans (by decide +kernel)
theorem d109_11 : decode (zB 109) 11 = .ok (.aload_n 0, 1) := (congrArg (fun c => decode c 11) zeq109).trans (by decide +kernel)
theorem d109_12 : decode (zB 109) 12 = .ok (.getfield 40, 3) := (congrArg (fun c => decode c 12) zeq109).trans (by decide +kernel)
theorem d109_15 : decode (zB 109) 15 = .ok (.getfield 77, 3) := (congrArg (fun c => decode c 15) zeq109).trans (by decide +kernel)
theorem d109_18 : decode (zB 109) 18 = .ok (.ireturn, 1) := (congrArg (fun c => decode c 18) zeq109).trans (by decide +kernel)
theorem c109 {d : Nat} {M : zM} {Q : Option Value → zM → Prop} {a b : Nat} {T : yT} (hs : SSg M a) (q2 : zr M a 2 = some b) (hp : SPr M b) (hr : RP M b T) (k : Q (some (.int (nI (tn T)))) M) : qC (d + 1) 109 [.ref a] M Q := by
  refine qC_of (by decide) (Nat.le_of_ble_eq_true rfl) ?_
  refine q_aload_n d109_0 rfl ?_
  refine q_getr (c := 5) (f := 2) d109_1 ⟨rfl, rfl⟩ hs.1 q2 ?_
  refine q_ifnonnull (r := some _) 11 d109_4 (by decide) (fun _ => ?_) (fun q => absurd q (Option.some_ne_none _))
  refine q_aload_n d109_11 rfl ?_
  refine q_getr (c := 5) (f := 2) d109_12 ⟨rfl, rfl⟩ hs.1 q2 ?_
  refine q_getv (c := 1) (f := 6) d109_15 ⟨rfl, by decide⟩ hp.1 hr.1 ?_
  refine q_iret d109_18 rfl ?_
  exact k
theorem c109n {d : Nat} {M : zM} {Q : Option Value → zM → Prop} {a : Nat} (hs : SSg M a) (q2 : zr M a 2 = none) (k : Q (some (.int (nI 0))) M) : qC (d + 1) 109 [.ref a] M Q := by
  refine qC_of (by decide) (Nat.le_of_ble_eq_true rfl) ?_
  refine q_aload_n d109_0 rfl ?_
  refine q_getr (c := 5) (f := 2) d109_1 ⟨rfl, rfl⟩ hs.1 q2 ?_
  refine q_ifnonnull (r := none) 11 d109_4 (by decide) (fun q => absurd rfl q) (fun _ => ?_)
  refine q_iconstN (z := 0) d109_7 ?_
  refine q_goto 18 d109_8 (by decide) ?_
  refine q_iret d109_18 rfl ?_
  exact k
theorem d67_0 : decode (zB 67) 0 = .ok (.aload_n 0, 1) := (congrArg (fun c => decode c 0) zeq67).trans (by decide +kernel)
theorem d67_1 : decode (zB 67) 1 = .ok (.getfield 40, 3) := (congrArg (fun c => decode c 1) zeq67).trans (by decide +kernel)
theorem d67_4 : decode (zB 67) 4 = .ok (.ifnonnull 13, 3) := (congrArg (fun c => decode c 4) zeq67).trans (by decide +kernel)
theorem d67_7 : decode (zB 67) 7 = .ok (.iload_n 1, 1) := (congrArg (fun c => decode c 7) zeq67).trans (by decide +kernel)
theorem d67_8 : decode (zB 67) 8 = .ok (.iconst 0, 1) := (congrArg (fun c => decode c 8) zeq67).trans (by decide +kernel)
theorem d67_9 : decode (zB 67) 9 = .ok (.bipush 11, 2) := (congrArg (fun c => decode c 9) zeq67).trans (by decide +kernel)
theorem d67_11 : decode (zB 67) 11 = .ok (.invokestatic 84, 3) := (congrArg (fun c => decode c 11) zeq67).trans (by decide +kernel)
theorem d67_14 : decode (zB 67) 14 = .ok (.goto 11, 3) := (congrArg (fun c => decode c 14) zeq67).trans (by decide +kernel)
theorem d67_17 : decode (zB 67) 17 = .ok (.aload_n 0, 1) := (congrArg (fun c => decode c 17) zeq67).trans (by decide +kernel)
theorem d67_18 : decode (zB 67) 18 = .ok (.getfield 40, 3) := (congrArg (fun c => decode c 18) zeq67).trans (by decide +kernel)
theorem d67_21 : decode (zB 67) 21 = .ok (.iload_n 1, 1) := (congrArg (fun c => decode c 21) zeq67).trans (by decide +kernel)
theorem d67_22 : decode (zB 67) 22 = .ok (.invokevirtual 80, 3) := (congrArg (fun c => decode c 22) zeq67).trans (by decide +kernel)
theorem d67_25 : decode (zB 67) 25 = .ok (.ireturn, 1) := (congrArg (fun c => decode c 25) zeq67).trans (by decide +kernel)
theorem c67 {d : Nat} {M : zM} {Q : Option Value → zM → Prop} {a b : Nat} {T : yT} {x : Int32} (hs : SSg M a) (q2 : zr M a 2 = some b) (hp : SPr M b) (hr : RP M b T) (hn : tn T ≤ 12) (k : Q (some (.int (bI (zix x (tn T)).isSome))) M) : qC (d + 2) 67 [.ref a, .int x] M Q := by
  refine qC_of (by decide) (Nat.le_of_ble_eq_true rfl) ?_
  refine q_aload_n d67_0 rfl ?_
  refine q_getr (c := 5) (f := 2) d67_1 ⟨rfl, rfl⟩ hs.1 q2 ?_
  refine q_ifnonnull (r := some _) 17 d67_4 (by decide) (fun _ => ?_) (fun q => absurd q (Option.some_ne_none _))
  refine q_aload_n d67_17 rfl ?_
  refine q_getr (c := 5) (f := 2) d67_18 ⟨rfl, rfl⟩ hs.1 q2 ?_
  refine q_iload_n d67_21 rfl ?_
  refine q_v1 d67_22 rfl rfl hp.1 (Nat.le_of_ble_eq_true rfl) (c47 hp hr hn ?_)
  refine b_ret d67_25 rfl ?_
  exact k
theorem c67n {d : Nat} {M : zM} {Q : Option Value → zM → Prop} {a : Nat} {x : Int32} (hs : SSg M a) (q2 : zr M a 2 = none) (k : Q (some (.int (bI (zix x 12).isSome))) M) : qC (d + 2) 67 [.ref a, .int x] M Q := by
  refine qC_of (by decide) (Nat.le_of_ble_eq_true rfl) ?_
  refine q_aload_n d67_0 rfl ?_
  refine q_getr (c := 5) (f := 2) d67_1 ⟨rfl, rfl⟩ hs.1 q2 ?_
  refine q_ifnonnull (r := none) 17 d67_4 (by decide) (fun q => absurd rfl q) (fun _ => ?_)
  refine q_iload_n d67_7 rfl ?_
  refine q_iconstN (z := 0) d67_8 ?_
  refine q_bipush (x := nI 11) d67_9 rfl ?_
  refine q_s3 d67_11 (Or.inr rfl) rfl (Nat.le_of_ble_eq_true rfl) (c10z (by omega) ?_)
  refine q_goto 25 d67_14 (by decide) ?_
  refine b_ret d67_25 rfl ?_
  exact k
theorem d115_0 : decode (zB 115) 0 = .ok (.aload_n 0, 1) := (congrArg (fun c => decode c 0) zeq115).trans (by decide +kernel)
theorem d115_1 : decode (zB 115) 1 = .ok (.getfield 40, 3) := (congrArg (fun c => decode c 1) zeq115).trans (by decide +kernel)
theorem d115_4 : decode (zB 115) 4 = .ok (.ifnull 18, 3) := (congrArg (fun c => decode c 4) zeq115).trans (by decide +kernel)
theorem d115_7 : decode (zB 115) 7 = .ok (.aload_n 0, 1) := (congrArg (fun c => decode c 7) zeq115).trans (by decide +kernel)
theorem d115_8 : decode (zB 115) 8 = .ok (.getfield 40, 3) := (congrArg (fun c => decode c 8) zeq115).trans (by decide +kernel)
theorem d115_11 : decode (zB 115) 11 = .ok (.iload_n 1, 1) := (congrArg (fun c => decode c 11) zeq115).trans (by decide +kernel)
theorem d115_12 : decode (zB 115) 12 = .ok (.invokevirtual 80, 3) := (congrArg (fun c => decode c 12) zeq115).trans (by decide +kernel)
theorem d115_15 : decode (zB 115) 15 = .ok (.ifCond .eq 7, 3) := (congrArg (fun c => decode c 15) zeq115).trans (by decide +kernel)
theorem d115_18 : decode (zB 115) 18 = .ok (.iconst 1, 1) := (congrArg (fun c => decode c 18) zeq115).trans (by decide +kernel)
theorem d115_19 : decode (zB 115) 19 = .ok (.goto 4, 3) := (congrArg (fun c => decode c 19) zeq115).trans (by decide +kernel)
theorem d115_22 : decode (zB 115) 22 = .ok (.iconst 0, 1) := (congrArg (fun c => decode c 22) zeq115).trans (by decide +kernel)
theorem d115_23 : decode (zB 115) 23 = .ok (.ireturn, 1) := (congrArg (fun c => decode c 23) zeq115).trans (by decide +kernel)
theorem c115 {d : Nat} {M : zM} {Q : Option Value → zM → Prop} {a b : Nat} {T : yT} {x : Int32} (hs : SSg M a) (q2 : zr M a 2 = some b) (hp : SPr M b) (hr : RP M b T) (hn : tn T ≤ 12) (k : Q (some (.int (bI (zix x (tn T)).isSome))) M) : qC (d + 2) 115 [.ref a, .int x] M Q := by
  refine qC_of (by decide) (Nat.le_of_ble_eq_true rfl) ?_
  refine q_aload_n d115_0 rfl ?_
  refine q_getr (c := 5) (f := 2) d115_1 ⟨rfl, rfl⟩ hs.1 q2 ?_
  refine q_ifnull (r := some _) 22 d115_4 (by decide) (fun q => absurd q (Option.some_ne_none _)) (fun _ => ?_)
  refine q_aload_n d115_7 rfl ?_
  refine q_getr (c := 5) (f := 2) d115_8 ⟨rfl, rfl⟩ hs.1 q2 ?_
  refine q_iload_n d115_11 rfl ?_
  refine q_v1 d115_12 rfl rfl hp.1 (Nat.le_of_ble_eq_true rfl) (c47 hp hr hn ?_)
  refine b0_eq 22 d115_15 (by decide) (fun h15 => ?_) (fun h15 => ?_)
  · refine q_iconstN (z := 0) d115_22 ?_
    refine q_zret d115_23 rfl (by decide) ?_
    exact bK0 k h15
  · refine q_iconstN (z := 1) d115_18 ?_
    refine q_goto 23 d115_19 (by decide) ?_
    refine q_zret d115_23 rfl (by decide) ?_
    exact bK1 k h15
theorem front_eq {T : yT} {S : yS} (h3 : ∀ i, gd S i ≤ 3) (hn : tn T ≤ 12) : zdf (zdf (ynx T (gm S 1)) (gm S 2)) (gm S 3) = yfr T S := by
  apply ymk_is
  intro i
  rw [zdf_bit, zdf_bit, gm_bit, gm_bit]
  unfold ynx
  rw [ymk_bit, gm_bit]
  have h := h3 i
  by_cases hi : i < tn T
  · have : i < 12 := by omega
    rw [decide_eq_true hi, decide_eq_true this]
    rcases (show gd S i = 0 ∨ gd S i = 1 ∨ gd S i = 2 ∨ gd S i = 3 by omega) with e | e | e | e <;> rw [e] <;> cases (zdf (ta T i) (gm S 1) == 0) <;> rfl
  · rw [decide_eq_false hi]; rfl
theorem d71_0 : decode (zB 71) 0 = .ok (.aload_n 0, 1) := (congrArg (fun c => decode c 0) zeq71).trans (by decide +kernel)
theorem d71_1 : decode (zB 71) 1 = .ok (.getfield 40, 3) := (congrArg (fun c => decode c 1) zeq71).trans (by decide +kernel)
theorem d71_4 : decode (zB 71) 4 = .ok (.ifnull 11, 3) := (congrArg (fun c => decode c 4) zeq71).trans (by decide +kernel)
theorem d71_7 : decode (zB 71) 7 = .ok (.aload_n 0, 1) := (congrArg (fun c => decode c 7) zeq71).trans (by decide +kernel)
theorem d71_8 : decode (zB 71) 8 = .ok (.getfield 9, 3) := (congrArg (fun c => decode c 8) zeq71).trans (by decide +kernel)
theorem d71_11 : decode (zB 71) 11 = .ok (.iconst 1, 1) := (congrArg (fun c => decode c 11) zeq71).trans (by decide +kernel)
theorem d71_12 : decode (zB 71) 12 = .ok (.if_icmp .eq 5, 3) := (congrArg (fun c => decode c 12) zeq71).trans (by decide +kernel)
theorem d71_15 : decode (zB 71) 15 = .ok (.iconst 0, 1) := (congrArg (fun c => decode c 15) zeq71).trans (by decide +kernel)
theorem d71_16 : decode (zB 71) 16 = .ok (.ireturn, 1) := (congrArg (fun c => decode c 16) zeq71).trans (by decide +kernel)
theorem d71_17 : decode (zB 71) 17 = .ok (.aload_n 0, 1) := (congrArg (fun c => decode c 17) zeq71).trans (by decide +kernel)
theorem d71_18 : decode (zB 71) 18 = .ok (.getfield 40, 3) := (congrArg (fun c => decode c 18) zeq71).trans (by decide +kernel)
theorem d71_21 : decode (zB 71) 21 = .ok (.aload_n 0, 1) := (congrArg (fun c => decode c 21) zeq71).trans (by decide +kernel)
theorem d71_22 : decode (zB 71) 22 = .ok (.getfield 44, 3) := (congrArg (fun c => decode c 22) zeq71).trans (by decide +kernel)
theorem d71_25 : decode (zB 71) 25 = .ok (.invokevirtual 95, 3) := (congrArg (fun c => decode c 25) zeq71).trans (by decide +kernel)
theorem d71_28 : decode (zB 71) 28 = .ok (.aload_n 0, 1) := (congrArg (fun c => decode c 28) zeq71).trans (by decide +kernel)
theorem d71_29 : decode (zB 71) 29 = .ok (.getfield 47, 3) := (congrArg (fun c => decode c 29) zeq71).trans (by decide +kernel)
theorem d71_32 : decode (zB 71) 32 = .ok (.iconst (-1), 1) := (congrArg (fun c => decode c 32) zeq71).trans (by decide +kernel)
theorem d71_33 : decode (zB 71) 33 = .ok (.ixor, 1) := (congrArg (fun c => decode c 33) zeq71).trans (by decide +kernel)
theorem d71_34 : decode (zB 71) 34 = .ok (.iand, 1) := (congrArg (fun c => decode c 34) zeq71).trans (by decide +kernel)
theorem d71_35 : decode (zB 71) 35 = .ok (.aload_n 0, 1) := (congrArg (fun c => decode c 35) zeq71).trans (by decide +kernel)
theorem d71_36 : decode (zB 71) 36 = .ok (.getfield 50, 3) := (congrArg (fun c => decode c 36) zeq71).trans (by decide +kernel)
theorem d71_39 : decode (zB 71) 39 = .ok (.iconst (-1), 1) := (congrArg (fun c => decode c 39) zeq71).trans (by decide +kernel)
theorem d71_40 : decode (zB 71) 40 = .ok (.ixor, 1) := (congrArg (fun c => decode c 40) zeq71).trans (by decide +kernel)
theorem d71_41 : decode (zB 71) 41 = .ok (.iand, 1) := (congrArg (fun c => decode c 41) zeq71).trans (by decide +kernel)
theorem d71_42 : decode (zB 71) 42 = .ok (.ireturn, 1) := (congrArg (fun c => decode c 42) zeq71).trans (by decide +kernel)
theorem c71 {d : Nat} {M : zM} {Q : Option Value → zM → Prop} {a b : Nat} {T : yT} {S : yS} (hs : SSg M a) (q2 : zr M a 2 = some b) (hp : SPr M b) (hr : RP M b T) (ho : OKT T) (h3 : ∀ i, gd S i ≤ 3) (q0 : zi M a 0 = nI (gt S)) (hg : gt S ≤ 5) (q3 : zi M a 3 = nI (gm S 1)) (q4 : zi M a 4 = nI (gm S 2)) (q5 : zi M a 5 = nI (gm S 3)) (k : Q (some (.int (nI (if gt S = 1 then yfr T S else 0)))) M) : qC (d + 3) 71 [.ref a] M Q := by
  refine qC_of (by decide) (Nat.le_of_ble_eq_true rfl) ?_
  refine q_aload_n d71_0 rfl ?_
  refine q_getr (c := 5) (f := 2) d71_1 ⟨rfl, rfl⟩ hs.1 q2 ?_
  refine q_ifnull (r := some _) 15 d71_4 (by decide) (fun q => absurd q (Option.some_ne_none _)) (fun _ => ?_)
  refine q_aload_n d71_7 rfl ?_
  refine q_getv (c := 5) (f := 0) d71_8 ⟨rfl, by decide⟩ hs.1 q0 ?_
  refine q_iconstN (z := 1) d71_11 ?_
  refine nc_eq 17 d71_12 (by decide) (by omega) (by omega) (fun h12 => ?_) (fun h12 => ?_)
  · refine q_aload_n d71_17 rfl ?_
    refine q_getr (c := 5) (f := 2) d71_18 ⟨rfl, rfl⟩ hs.1 q2 ?_
    refine q_aload_n d71_21 rfl ?_
    refine q_getv (c := 5) (f := 3) d71_22 ⟨rfl, by decide⟩ hs.1 q3 ?_
    refine q_v1 d71_25 rfl rfl hp.1 (Nat.le_of_ble_eq_true rfl) (c44 hp hr ho (gm_lt S 1) ?_)
    refine q_aload_n d71_28 rfl ?_
    refine q_getv (c := 5) (f := 4) d71_29 ⟨rfl, by decide⟩ hs.1 q4 ?_
    refine q_iconst (x := (-1)) d71_32 rfl ?_
    refine q_ixor d71_33 ?_
    refine n_iandn d71_34 ?_
    refine q_aload_n d71_35 rfl ?_
    refine q_getv (c := 5) (f := 5) d71_36 ⟨rfl, by decide⟩ hs.1 q5 ?_
    refine q_iconst (x := (-1)) d71_39 rfl ?_
    refine q_ixor d71_40 ?_
    refine n_iandn d71_41 ?_
    refine q_iret d71_42 rfl ?_
    refine nK k ?_; rw [if_pos h12, front_eq h3 ho.n]
  · refine q_iconstN (z := 0) d71_15 ?_
    refine q_iret d71_16 rfl ?_
    refine nK k ?_; rw [if_neg h12]
theorem c71n {d : Nat} {M : zM} {Q : Option Value → zM → Prop} {a : Nat} (hs : SSg M a) (q2 : zr M a 2 = none) (k : Q (some (.int (nI 0))) M) : qC (d + 3) 71 [.ref a] M Q := by
  refine qC_of (by decide) (Nat.le_of_ble_eq_true rfl) ?_
  refine q_aload_n d71_0 rfl ?_
  refine q_getr (c := 5) (f := 2) d71_1 ⟨rfl, rfl⟩ hs.1 q2 ?_
  refine q_ifnull (r := none) 15 d71_4 (by decide) (fun _ => ?_) (fun q => absurd rfl q)
  refine q_iconstN (z := 0) d71_15 ?_
  refine q_iret d71_16 rfl ?_
  exact k
def ylast (l : List Nat) : Int32 := match l with
  | [] => -1
  | i :: _ => nI i
theorem d82_0 : decode (zB 82) 0 = .ok (.aload_n 0, 1) := (congrArg (fun c => decode c 0) zeq82).trans (by decide +kernel)
theorem d82_1 : decode (zB 82) 1 = .ok (.getfield 53, 3) := (congrArg (fun c => decode c 1) zeq82).trans (by decide +kernel)
theorem d82_4 : decode (zB 82) 4 = .ok (.ifCond .le 26, 3) := (congrArg (fun c => decode c 4) zeq82).trans (by decide +kernel)
theorem d82_7 : decode (zB 82) 7 = .ok (.aload_n 0, 1) := (congrArg (fun c => decode c 7) zeq82).trans (by decide +kernel)
theorem d82_8 : decode (zB 82) 8 = .ok (.getfield 53, 3) := (congrArg (fun c => decode c 8) zeq82).trans (by decide +kernel)
theorem d82_11 : decode (zB 82) 11 = .ok (.bipush 12, 2) := (congrArg (fun c => decode c 11) zeq82).trans (by decide +kernel)
theorem d82_13 : decode (zB 82) 13 = .ok (.if_icmp .gt 17, 3) := (congrArg (fun c => decode c 13) zeq82).trans (by decide +kernel)
theorem d82_16 : decode (zB 82) 16 = .ok (.aload_n 0, 1) := (congrArg (fun c => decode c 16) zeq82).trans (by decide +kernel)
theorem d82_17 : decode (zB 82) 17 = .ok (.getfield 18, 3) := (congrArg (fun c => decode c 17) zeq82).trans (by decide +kernel)
theorem d82_20 : decode (zB 82) 20 = .ok (.aload_n 0, 1) := (congrArg (fun c => decode c 20) zeq82).trans (by decide +kernel)
theorem d82_21 : decode (zB 82) 21 = .ok (.getfield 53, 3) := (congrArg (fun c => decode c 21) zeq82).trans (by decide +kernel)
theorem d82_24 : decode (zB 82) 24 = .ok (.iconst 1, 1) := (congrArg (fun c => decode c 24) zeq82).trans (by decide +kernel)
theorem d82_25 : decode (zB 82) 25 = .ok (.isub, 1) := (congrArg (fun c => decode c 25) zeq82).trans (by decide +kernel)
theorem d82_26 : decode (zB 82) 26 = .ok (.iaload, 1) := (congrArg (fun c => decode c 26) zeq82).trans (by decide +kernel)
theorem d82_27 : decode (zB 82) 27 = .ok (.goto 4, 3) := (congrArg (fun c => decode c 27) zeq82).trans (by decide +kernel)
theorem d82_30 : decode (zB 82) 30 = .ok (.iconst (-1), 1) := (congrArg (fun c => decode c 30) zeq82).trans (by decide +kernel)
theorem d82_31 : decode (zB 82) 31 = .ok (.ireturn, 1) := (congrArg (fun c => decode c 31) zeq82).trans (by decide +kernel)
theorem c82 {d : Nat} {M : zM} {Q : Option Value → zM → Prop} {a : Nat} {l : List Nat} (hs : SSg M a) (q7 : zi M a 7 = nI l.length) (hl : l.length ≤ 12) (q8 : ∀ k, k < l.length → zi M (a + 1) k = nI (l.getD (l.length - 1 - k) 0)) (k : Q (some (.int (ylast l))) M) : qC (d + 1) 82 [.ref a] M Q := by
  refine qC_of (by decide) (Nat.le_of_ble_eq_true rfl) ?_
  refine q_aload_n d82_0 rfl ?_
  refine q_getv (c := 5) (f := 7) d82_1 ⟨rfl, by decide⟩ hs.1 q7 ?_
  refine n0_le 30 d82_4 (by decide) (by omega) (fun h4 => ?_) (fun h4 => ?_)
  · refine q_iconst (x := (-1)) d82_30 rfl ?_
    refine q_iret d82_31 rfl ?_
    cases l with
    | nil => first | exact k | (exact absurd h4 (by simp))
    | cons i t => first | (refine nK k ?_; show nI _ = nI i; rw [show (i :: t).length - 1 - ((i :: t).length - 1) = 0 by omega]; rfl) | exact absurd h4 (by simp)
  · refine q_aload_n d82_7 rfl ?_
    refine q_getv (c := 5) (f := 7) d82_8 ⟨rfl, by decide⟩ hs.1 q7 ?_
    refine q_bipush (x := nI 12) d82_11 rfl ?_
    refine nc_gt 30 d82_13 (by decide) (by omega) (by omega) (fun h13 => (False.elim (by omega))) (fun h13 => ?_)
    refine q_aload_n d82_16 rfl ?_
    refine q_getr (c := 5) (f := 6) d82_17 ⟨rfl, rfl⟩ hs.1 hs.2.1 ?_
    refine q_aload_n d82_20 rfl ?_
    refine q_getv (c := 5) (f := 7) d82_21 ⟨rfl, by decide⟩ hs.1 q7 ?_
    refine q_iconstN (z := 1) d82_24 ?_
    refine n_isub d82_25 (by omega) ?_
    refine n_iald d82_26 (hs.2.2.2 0 (by decide)) (by omega) (by decide) (q8 _ (by omega)) ?_
    refine q_goto 31 d82_27 (by decide) ?_
    refine q_iret d82_31 rfl ?_
    cases l with
    | nil => first | exact k | (exact absurd h4 (by simp))
    | cons i t => first | (refine nK k ?_; show nI _ = nI i; rw [show (i :: t).length - 1 - ((i :: t).length - 1) = 0 by omega]; rfl) | exact absurd h4 (by simp)
theorem d73_0 : decode (zB 73) 0 = .ok (.iload_n 1, 1) := (congrArg (fun c => decode c 0) zeq73).trans (by decide +kernel)
theorem d73_1 : decode (zB 73) 1 = .ok (.ifCond .lt 9, 3) := (congrArg (fun c => decode c 1) zeq73).trans (by decide +kernel)
theorem d73_4 : decode (zB 73) 4 = .ok (.iload_n 1, 1) := (congrArg (fun c => decode c 4) zeq73).trans (by decide +kernel)
theorem d73_5 : decode (zB 73) 5 = .ok (.bipush 12, 2) := (congrArg (fun c => decode c 5) zeq73).trans (by decide +kernel)
theorem d73_7 : decode (zB 73) 7 = .ok (.if_icmp .lt 5, 3) := (congrArg (fun c => decode c 7) zeq73).trans (by decide +kernel)
theorem d73_10 : decode (zB 73) 10 = .ok (.iconst 0, 1) := (congrArg (fun c => decode c 10) zeq73).trans (by decide +kernel)
theorem d73_11 : decode (zB 73) 11 = .ok (.ireturn, 1) := (congrArg (fun c => decode c 11) zeq73).trans (by decide +kernel)
theorem d73_12 : decode (zB 73) 12 = .ok (.iload_n 2, 1) := (congrArg (fun c => decode c 12) zeq73).trans (by decide +kernel)
theorem d73_13 : decode (zB 73) 13 = .ok (.iconst 1, 1) := (congrArg (fun c => decode c 13) zeq73).trans (by decide +kernel)
theorem d73_14 : decode (zB 73) 14 = .ok (.if_icmp .ne 12, 3) := (congrArg (fun c => decode c 14) zeq73).trans (by decide +kernel)
theorem d73_17 : decode (zB 73) 17 = .ok (.aload_n 0, 1) := (congrArg (fun c => decode c 17) zeq73).trans (by decide +kernel)
theorem d73_18 : decode (zB 73) 18 = .ok (.getfield 22, 3) := (congrArg (fun c => decode c 18) zeq73).trans (by decide +kernel)
theorem d73_21 : decode (zB 73) 21 = .ok (.iload_n 1, 1) := (congrArg (fun c => decode c 21) zeq73).trans (by decide +kernel)
theorem d73_22 : decode (zB 73) 22 = .ok (.iaload, 1) := (congrArg (fun c => decode c 22) zeq73).trans (by decide +kernel)
theorem d73_23 : decode (zB 73) 23 = .ok (.goto 9, 3) := (congrArg (fun c => decode c 23) zeq73).trans (by decide +kernel)
theorem d73_26 : decode (zB 73) 26 = .ok (.aload_n 0, 1) := (congrArg (fun c => decode c 26) zeq73).trans (by decide +kernel)
theorem d73_27 : decode (zB 73) 27 = .ok (.getfield 25, 3) := (congrArg (fun c => decode c 27) zeq73).trans (by decide +kernel)
theorem d73_30 : decode (zB 73) 30 = .ok (.iload_n 1, 1) := (congrArg (fun c => decode c 30) zeq73).trans (by decide +kernel)
theorem d73_31 : decode (zB 73) 31 = .ok (.iaload, 1) := (congrArg (fun c => decode c 31) zeq73).trans (by decide +kernel)
theorem d73_32 : decode (zB 73) 32 = .ok (.ireturn, 1) := (congrArg (fun c => decode c 32) zeq73).trans (by decide +kernel)
theorem c73 {d : Nat} {M : zM} {Q : Option Value → zM → Prop} {a i : Nat} {n : Int32} (hs : SSg M a) (hi : i < 12) (q9 : zi M (a + 2) i = n) (k : Q (some (.int n)) M) : qC (d + 1) 73 [.ref a, .int (nI i), .int (nI 1)] M Q := by
  refine qC_of (by decide) (Nat.le_of_ble_eq_true rfl) ?_
  refine q_iload_n d73_0 rfl ?_
  refine n0_lt 10 d73_1 (by decide) (by omega) (fun q => absurd q (Nat.not_lt_zero _)) (fun _ => ?_)
  refine q_iload_n d73_4 rfl ?_
  refine q_bipush (x := nI 12) d73_5 rfl ?_
  refine nc_lt 12 d73_7 (by decide) (by omega) (by omega) (fun h7 => ?_) (fun h7 => (False.elim (by omega)))
  refine q_iload_n d73_12 rfl ?_
  refine q_iconstN (z := 1) d73_13 ?_
  refine nc_ne 26 d73_14 (by decide) (by omega) (by omega) (fun h14 => (False.elim (by omega))) (fun h14 => ?_)
  refine q_aload_n d73_17 rfl ?_
  refine q_getr (c := 5) (f := 8) d73_18 ⟨rfl, rfl⟩ hs.1 (hs.2.2.1 0 (by decide)) ?_
  refine q_iload_n d73_21 rfl ?_
  refine n_iald d73_22 (hs.2.2.2 1 (by decide)) (by omega) (by decide) q9 ?_
  refine q_goto 32 d73_23 (by decide) ?_
  refine q_iret d73_32 rfl ?_
  exact k
theorem c73b {d : Nat} {M : zM} {Q : Option Value → zM → Prop} {a i : Nat} {n : Int32} (hs : SSg M a) (hi : i < 12) (qa : zi M (a + 3) i = n) (k : Q (some (.int n)) M) : qC (d + 1) 73 [.ref a, .int (nI i), .int (-1)] M Q := by
  refine qC_of (by decide) (Nat.le_of_ble_eq_true rfl) ?_
  refine q_iload_n d73_0 rfl ?_
  refine n0_lt 10 d73_1 (by decide) (by omega) (fun q => absurd q (Nat.not_lt_zero _)) (fun _ => ?_)
  refine q_iload_n d73_4 rfl ?_
  refine q_bipush (x := nI 12) d73_5 rfl ?_
  refine nc_lt 12 d73_7 (by decide) (by omega) (by omega) (fun h7 => ?_) (fun h7 => (False.elim (by omega)))
  refine q_iload_n d73_12 rfl ?_
  refine q_iconstN (z := 1) d73_13 ?_
  refine ic_ne 26 d73_14 (by decide) (fun h14 => ?_) (fun h14 => (False.elim (absurd h14 (by decide))))
  refine q_aload_n d73_26 rfl ?_
  refine q_getr (c := 5) (f := 9) d73_27 ⟨rfl, rfl⟩ hs.1 (hs.2.2.1 1 (by decide)) ?_
  refine q_iload_n d73_30 rfl ?_
  refine n_iald d73_31 (hs.2.2.2 2 (by decide)) (by omega) (by decide) qa ?_
  refine q_iret d73_32 rfl ?_
  exact k
theorem ysd_t {p : Nat → Int32} {i : Nat} (h : 0 < p i) : ysd p i = yu p i (p i - 1) := if_pos (decide_eq_true h)
theorem ysd_f {p : Nat → Int32} {i : Nat} (h : ¬ 0 < p i) : ysd p i = p := if_neg (by unfold ypl; simp [h])
theorem d74_0 : decode (zB 74) 0 = .ok (.iload_n 1, 1) := (congrArg (fun c => decode c 0) zeq74).trans (by decide +kernel)
theorem d74_1 : decode (zB 74) 1 = .ok (.ifCond .lt 15, 3) := (congrArg (fun c => decode c 1) zeq74).trans (by decide +kernel)
theorem d74_4 : decode (zB 74) 4 = .ok (.iload_n 1, 1) := (congrArg (fun c => decode c 4) zeq74).trans (by decide +kernel)
theorem d74_5 : decode (zB 74) 5 = .ok (.aload_n 0, 1) := (congrArg (fun c => decode c 5) zeq74).trans (by decide +kernel)
theorem d74_6 : decode (zB 74) 6 = .ok (.arraylength, 1) := (congrArg (fun c => decode c 6) zeq74).trans (by decide +kernel)
theorem d74_7 : decode (zB 74) 7 = .ok (.if_icmp .ge 9, 3) := (congrArg (fun c => decode c 7) zeq74).trans (by decide +kernel)
theorem d74_10 : decode (zB 74) 10 = .ok (.aload_n 0, 1) := (congrArg (fun c => decode c 10) zeq74).trans (by decide +kernel)
theorem d74_11 : decode (zB 74) 11 = .ok (.iload_n 1, 1) := (congrArg (fun c => decode c 11) zeq74).trans (by decide +kernel)
theorem d74_12 : decode (zB 74) 12 = .ok (.iaload, 1) := (congrArg (fun c => decode c 12) zeq74).trans (by decide +kernel)
theorem d74_13 : decode (zB 74) 13 = .ok (.ifCond .gt 5, 3) := (congrArg (fun c => decode c 13) zeq74).trans (by decide +kernel)
theorem d74_16 : decode (zB 74) 16 = .ok (.iconst 0, 1) := (congrArg (fun c => decode c 16) zeq74).trans (by decide +kernel)
theorem d74_17 : decode (zB 74) 17 = .ok (.ireturn, 1) := (congrArg (fun c => decode c 17) zeq74).trans (by decide +kernel)
theorem d74_18 : decode (zB 74) 18 = .ok (.aload_n 0, 1) := (congrArg (fun c => decode c 18) zeq74).trans (by decide +kernel)
theorem d74_19 : decode (zB 74) 19 = .ok (.iload_n 1, 1) := (congrArg (fun c => decode c 19) zeq74).trans (by decide +kernel)
theorem d74_20 : decode (zB 74) 20 = .ok (.dup2, 1) := (congrArg (fun c => decode c 20) zeq74).trans (by decide +kernel)
theorem d74_21 : decode (zB 74) 21 = .ok (.iaload, 1) := (congrArg (fun c => decode c 21) zeq74).trans (by decide +kernel)
theorem d74_22 : decode (zB 74) 22 = .ok (.iconst 1, 1) := (congrArg (fun c => decode c 22) zeq74).trans (by decide +kernel)
theorem d74_23 : decode (zB 74) 23 = .ok (.isub, 1) := (congrArg (fun c => decode c 23) zeq74).trans (by decide +kernel)
theorem d74_24 : decode (zB 74) 24 = .ok (.iastore, 1) := (congrArg (fun c => decode c 24) zeq74).trans (by decide +kernel)
theorem d74_25 : decode (zB 74) 25 = .ok (.iconst 1, 1) := (congrArg (fun c => decode c 25) zeq74).trans (by decide +kernel)
theorem d74_26 : decode (zB 74) 26 = .ok (.ireturn, 1) := (congrArg (fun c => decode c 26) zeq74).trans (by decide +kernel)
theorem c74 {d : Nat} {M : zM} {Q : Option Value → zM → Prop} {b i : Nat} {p : Nat → Int32} (hk : zk M b = (20, 12)) (hi : i < 12) (hp : ∀ j, j < 12 → zi M b j = p j) (k : ∀ M', (∀ j, j < 12 → zi M' b j = ysd p i j) → Fi (fun a _ => a = b) M M' → Q (some (.int (bI (ypl p i)))) M') : qC (d + 1) 74 [.ref b, .int (nI i)] M Q := by
  refine qC_of (by decide) (Nat.le_of_ble_eq_true rfl) ?_
  refine q_iload_n d74_0 rfl ?_
  refine n0_lt 16 d74_1 (by decide) (by omega) (fun q => absurd q (Nat.not_lt_zero _)) (fun _ => ?_)
  refine q_iload_n d74_4 rfl ?_
  refine q_aload_n d74_5 rfl ?_
  refine n_alen d74_6 (Or.inl hk) ?_
  refine nc_ge 16 d74_7 (by decide) (by omega) (by omega) (fun h7 => (False.elim (by omega))) (fun h7 => ?_)
  refine q_aload_n d74_10 rfl ?_
  refine q_iload_n d74_11 rfl ?_
  refine n_iald d74_12 hk (by omega) (by decide) (hp _ hi) ?_
  refine i0_gt 18 d74_13 (by decide) (fun h13 => ?_) (fun h13 => ?_)
  · refine q_aload_n d74_18 rfl ?_
    refine q_iload_n d74_19 rfl ?_
    refine q_dup2 d74_20 rfl rfl ?_
    refine n_iald d74_21 hk (by omega) (by decide) (hp _ hi) ?_
    refine q_iconst (x := (1)) d74_22 rfl ?_
    refine q_isub d74_23 ?_
    refine n_iast d74_24 hk (by omega) (by decide) ?_
    refine q_iconstN (z := 1) d74_25 ?_
    refine q_iret d74_26 rfl ?_
    refine bK1 (k _ (fun j hj => ?_) ((Fi.refl _ _).wi rfl)) (decide_eq_true h13)
    rw [ysd_t h13]
    by_cases e : j = i
    · subst e; rw [wi_s, yu_s]
    · rw [wi_n (Or.inr e), yu_n e]; exact hp j hj
  · refine q_iconstN (z := 0) d74_16 ?_
    refine q_iret d74_17 rfl ?_
    exact bK0 (k _ (fun j hj => by rw [ysd_f h13]; exact hp j hj) (Fi.refl _ _)) (decide_eq_false h13)
theorem d78_0 : decode (zB 78) 0 = .ok (.iload_n 1, 1) := (congrArg (fun c => decode c 0) zeq78).trans (by decide +kernel)
theorem d78_1 : decode (zB 78) 1 = .ok (.ifCond .lt 23, 3) := (congrArg (fun c => decode c 1) zeq78).trans (by decide +kernel)
theorem d78_4 : decode (zB 78) 4 = .ok (.iload_n 1, 1) := (congrArg (fun c => decode c 4) zeq78).trans (by decide +kernel)
theorem d78_5 : decode (zB 78) 5 = .ok (.bipush 12, 2) := (congrArg (fun c => decode c 5) zeq78).trans (by decide +kernel)
theorem d78_7 : decode (zB 78) 7 = .ok (.if_icmp .ge 17, 3) := (congrArg (fun c => decode c 7) zeq78).trans (by decide +kernel)
theorem d78_10 : decode (zB 78) 10 = .ok (.aload_n 0, 1) := (congrArg (fun c => decode c 10) zeq78).trans (by decide +kernel)
theorem d78_11 : decode (zB 78) 11 = .ok (.getfield 34, 3) := (congrArg (fun c => decode c 11) zeq78).trans (by decide +kernel)
theorem d78_14 : decode (zB 78) 14 = .ok (.iload_n 1, 1) := (congrArg (fun c => decode c 14) zeq78).trans (by decide +kernel)
theorem d78_15 : decode (zB 78) 15 = .ok (.iaload, 1) := (congrArg (fun c => decode c 15) zeq78).trans (by decide +kernel)
theorem d78_16 : decode (zB 78) 16 = .ok (.iconst 3, 1) := (congrArg (fun c => decode c 16) zeq78).trans (by decide +kernel)
theorem d78_17 : decode (zB 78) 17 = .ok (.if_icmp .lt 7, 3) := (congrArg (fun c => decode c 17) zeq78).trans (by decide +kernel)
theorem d78_20 : decode (zB 78) 20 = .ok (.iconst 1, 1) := (congrArg (fun c => decode c 20) zeq78).trans (by decide +kernel)
theorem d78_21 : decode (zB 78) 21 = .ok (.goto 4, 3) := (congrArg (fun c => decode c 21) zeq78).trans (by decide +kernel)
theorem d78_24 : decode (zB 78) 24 = .ok (.iconst 0, 1) := (congrArg (fun c => decode c 24) zeq78).trans (by decide +kernel)
theorem d78_25 : decode (zB 78) 25 = .ok (.ireturn, 1) := (congrArg (fun c => decode c 25) zeq78).trans (by decide +kernel)
theorem c78 {d : Nat} {M : zM} {Q : Option Value → zM → Prop} {a i : Nat} {x : Int32} (hs : SSg M a) (hi : i < 12) (qf : zi M (a + 6) i = x) (k : Q (some (.int (bI (decide (¬ x < nI 3))))) M) : qC (d + 1) 78 [.ref a, .int (nI i)] M Q := by
  refine qC_of (by decide) (Nat.le_of_ble_eq_true rfl) ?_
  refine q_iload_n d78_0 rfl ?_
  refine n0_lt 24 d78_1 (by decide) (by omega) (fun q => absurd q (Nat.not_lt_zero _)) (fun _ => ?_)
  refine q_iload_n d78_4 rfl ?_
  refine q_bipush (x := nI 12) d78_5 rfl ?_
  refine nc_ge 24 d78_7 (by decide) (by omega) (by omega) (fun h7 => (False.elim (by omega))) (fun h7 => ?_)
  refine q_aload_n d78_10 rfl ?_
  refine q_getr (c := 5) (f := 12) d78_11 ⟨rfl, rfl⟩ hs.1 (hs.2.2.1 4 (by decide)) ?_
  refine q_iload_n d78_14 rfl ?_
  refine n_iald d78_15 (hs.2.2.2 5 (by decide)) (by omega) (by decide) qf ?_
  refine q_iconstN (z := 3) d78_16 ?_
  refine ic_lt 24 d78_17 (by decide) (fun h17 => ?_) (fun h17 => ?_)
  · refine q_iconstN (z := 0) d78_24 ?_
    refine q_zret d78_25 rfl (by decide) ?_
    exact bK0 k (decide_eq_false (fun q => q h17))
  · refine q_iconstN (z := 1) d78_20 ?_
    refine q_goto 25 d78_21 (by decide) ?_
    refine q_zret d78_25 rfl (by decide) ?_
    exact bK1 k (decide_eq_true h17)
theorem RS_done {M M' : zM} {a i : Nat} {T : Nat → yT} {nm : Nat → Int32} {S : yS} (hR : RS M a T nm S) (h0 : gd S i = 0) (hi : i < 12)
    (g : ∀ b k, a ≤ b → b < a + 8 → (b = a + 3 → k ≠ i) → (b = a → k ≠ 3 ∧ k ≠ 7) → (b = a + 1 → k ≠ (go S).length) → zi M' b k = zi M b k) (g2 : zr M' a 2 = zr M a 2) (hq : zi M' (a + 3) i = nm i) (h3 : zi M' a 3 = nI (gm S 1 ||| 2 ^ i)) (h7 : zi M' a 7 = nI ((go S).length + 1)) (h1 : zi M' (a + 1) (go S).length = nI i) : RS M' a T nm (yDn S i (nm i)) := by
  obtain ⟨⟨q0, q1, q2⟩, ⟨q3, q4, q5⟩, ⟨q7, q8⟩, q9, qa, qb⟩ := hR
  refine ⟨⟨(g _ _ (by omega) (by omega) (by omega) (by omega) (by omega)).trans q0, (g _ _ (by omega) (by omega) (by omega) (by omega) (by omega)).trans q1, g2.trans q2⟩, ⟨?_, ?_, ?_⟩, ⟨h7, fun j hj => ?_⟩, fun j hj => (g _ _ (by omega) (by omega) (by omega) (by omega) (by omega)).trans (q9 j hj), fun j hj he => ?_, fun j hj => ?_⟩
  · rw [h3]; exact congrArg nI (gm_in (S := S) hi).symm
  · rw [g _ _ (by omega) (by omega) (by omega) (by omega) (by omega), q4]; exact congrArg nI (gm_not (S := S) (w := 1) (by omega) (by omega)).symm
  · rw [g _ _ (by omega) (by omega) (by omega) (by omega) (by omega), q5]; exact congrArg nI (gm_not (S := S) (w := 1) (by omega) (by omega)).symm
  · show _ = nI ((i :: go S).getD ((i :: go S).length - 1 - j) 0)
    have hj : j < (go S).length + 1 := hj
    rw [List.length_cons]
    by_cases e : j = (go S).length
    · subst e; rw [h1, show (go S).length + 1 - 1 - (go S).length = 0 by omega]; rfl
    · rw [g _ _ (by omega) (by omega) (by omega) (by omega) (by omega), q8 j (by omega), show (go S).length + 1 - 1 - j = ((go S).length - 1 - j) + 1 by omega]; rfl
  · show _ = yu (gb S) i (nm i) j
    have he : yu (gd S) i 1 j = 1 := he
    by_cases e : j = i
    · subst e; rw [hq, yu_s]
    · rw [yu_n e] at he; rw [yu_n e, g _ _ (by omega) (by omega) (by omega) (by omega) (by omega)]; exact qa j hj he
  · rw [g _ _ (by omega) (by omega) (by omega) (by omega) (by omega), g _ _ (by omega) (by omega) (by omega) (by omega) (by omega), g _ _ (by omega) (by omega) (by omega) (by omega) (by omega), g _ _ (by omega) (by omega) (by omega) (by omega) (by omega)]
    exact qb j hj
/-- the last of those done leaves them -/
theorem RS_undo {M M' : zM} {a i v : Nat} {t : List Nat} {T : Nat → yT} {nm : Nat → Int32} {S : yS} (hR : RS M a T nm S) (hg : go S = i :: t) (h0 : gd S i = 1) (hi : i < 12) (hv : v = 2 ∨ v = 3) (w : Nat → Int32)
    (g : ∀ b k, a ≤ b → b < a + 8 → (b = a → k ≠ 3 ∧ k ≠ 7 ∧ k ≠ v + 2) → b ≠ a + 7 → zi M' b k = zi M b k) (g2 : zr M' a 2 = zr M a 2) (h3 : zi M' a 3 = nI (zdf (gm S 1) (2 ^ i))) (h7 : zi M' a 7 = nI t.length) (hv1 : zi M' a (v + 2) = nI (gm S v ||| 2 ^ i)) (hw : ∀ k, k < 12 → zi M' (a + 7) k = w k) : RS M' a T nm (gwS (goS (gdS S (yu (gd S) i v)) t) w) := by
  obtain ⟨⟨q0, q1, q2⟩, ⟨q3, q4, q5⟩, ⟨q7, q8⟩, q9, qa, qb⟩ := hR
  refine ⟨⟨(g _ _ (by omega) (by omega) (by omega) (by omega)).trans q0, (g _ _ (by omega) (by omega) (by omega) (by omega)).trans q1, g2.trans q2⟩, ⟨?_, ?_, ?_⟩, ⟨h7, fun j hj => ?_⟩, fun j hj => (g _ _ (by omega) (by omega) (by omega) (by omega)).trans (q9 j hj), fun j hj he => ?_, fun j hj => ?_⟩
  · rw [h3]; exact congrArg nI (gm_out (S := S) h0 (by omega)).symm
  · rcases hv with rfl | rfl
    · rw [hv1]; exact congrArg nI (gm_in (S := S) hi).symm
    · rw [g _ _ (by omega) (by omega) (by omega) (by omega), q4]; exact congrArg nI (gm_not (S := S) (w := 3) (by omega) (by omega)).symm
  · rcases hv with rfl | rfl
    · rw [g _ _ (by omega) (by omega) (by omega) (by omega), q5]; exact congrArg nI (gm_not (S := S) (w := 2) (by omega) (by omega)).symm
    · rw [hv1]; exact congrArg nI (gm_in (S := S) hi).symm
  · show _ = nI (t.getD (t.length - 1 - j) 0)
    have hj : j < t.length := hj
    rw [hg] at q8
    have := q8 j (by rw [List.length_cons]; omega)
    rw [g _ _ (by omega) (by omega) (by omega) (by omega), this, List.length_cons, show t.length + 1 - 1 - j = (t.length - 1 - j) + 1 by omega]; rfl
  · show _ = gb S j
    have he : yu (gd S) i v j = 1 := he
    by_cases e : j = i
    · subst e; rw [yu_s] at he; omega
    · rw [yu_n e] at he; rw [g _ _ (by omega) (by omega) (by omega) (by omega)]; exact qa j hj he
  · rw [g _ _ (by omega) (by omega) (by omega) (by omega), g _ _ (by omega) (by omega) (by omega) (by omega), g _ _ (by omega) (by omega) (by omega) (by omega), hw j hj]
    exact ⟨(qb j hj).1, (qb j hj).2.1, (qb j hj).2.2.1, rfl⟩
theorem d75_0 : decode (zB 75) 0 = .ok (.iload_n 1, 1) := (congrArg (fun c => decode c 0) zeq75).trans (by decide +kernel)
theorem d75_1 : decode (zB 75) 1 = .ok (.ifCond .lt 25, 3) := (congrArg (fun c => decode c 1) zeq75).trans (by decide +kernel)
theorem d75_4 : decode (zB 75) 4 = .ok (.iload_n 1, 1) := (congrArg (fun c => decode c 4) zeq75).trans (by decide +kernel)
theorem d75_5 : decode (zB 75) 5 = .ok (.bipush 12, 2) := (congrArg (fun c => decode c 5) zeq75).trans (by decide +kernel)
theorem d75_7 : decode (zB 75) 7 = .ok (.if_icmp .ge 19, 3) := (congrArg (fun c => decode c 7) zeq75).trans (by decide +kernel)
theorem d75_10 : decode (zB 75) 10 = .ok (.aload_n 0, 1) := (congrArg (fun c => decode c 10) zeq75).trans (by decide +kernel)
theorem d75_11 : decode (zB 75) 11 = .ok (.getfield 53, 3) := (congrArg (fun c => decode c 11) zeq75).trans (by decide +kernel)
theorem d75_14 : decode (zB 75) 14 = .ok (.ifCond .lt 12, 3) := (congrArg (fun c => decode c 14) zeq75).trans (by decide +kernel)
theorem d75_17 : decode (zB 75) 17 = .ok (.aload_n 0, 1) := (congrArg (fun c => decode c 17) zeq75).trans (by decide +kernel)
theorem d75_18 : decode (zB 75) 18 = .ok (.getfield 53, 3) := (congrArg (fun c => decode c 18) zeq75).trans (by decide +kernel)
theorem d75_21 : decode (zB 75) 21 = .ok (.bipush 12, 2) := (congrArg (fun c => decode c 21) zeq75).trans (by decide +kernel)
theorem d75_23 : decode (zB 75) 23 = .ok (.if_icmp .lt 4, 3) := (congrArg (fun c => decode c 23) zeq75).trans (by decide +kernel)
theorem d75_26 : decode (zB 75) 26 = .ok (.return_, 1) := (congrArg (fun c => decode c 26) zeq75).trans (by decide +kernel)
theorem d75_27 : decode (zB 75) 27 = .ok (.aload_n 0, 1) := (congrArg (fun c => decode c 27) zeq75).trans (by decide +kernel)
theorem d75_28 : decode (zB 75) 28 = .ok (.getfield 25, 3) := (congrArg (fun c => decode c 28) zeq75).trans (by decide +kernel)
theorem d75_31 : decode (zB 75) 31 = .ok (.iload_n 1, 1) := (congrArg (fun c => decode c 31) zeq75).trans (by decide +kernel)
theorem d75_32 : decode (zB 75) 32 = .ok (.aload_n 0, 1) := (congrArg (fun c => decode c 32) zeq75).trans (by decide +kernel)
theorem d75_33 : decode (zB 75) 33 = .ok (.getfield 22, 3) := (congrArg (fun c => decode c 33) zeq75).trans (by decide +kernel)
theorem d75_36 : decode (zB 75) 36 = .ok (.iload_n 1, 1) := (congrArg (fun c => decode c 36) zeq75).trans (by decide +kernel)
theorem d75_37 : decode (zB 75) 37 = .ok (.iaload, 1) := (congrArg (fun c => decode c 37) zeq75).trans (by decide +kernel)
theorem d75_38 : decode (zB 75) 38 = .ok (.iastore, 1) := (congrArg (fun c => decode c 38) zeq75).trans (by decide +kernel)
theorem d75_39 : decode (zB 75) 39 = .ok (.aload_n 0, 1) := (congrArg (fun c => decode c 39) zeq75).trans (by decide +kernel)
theorem d75_40 : decode (zB 75) 40 = .ok (.dup, 1) := (congrArg (fun c => decode c 40) zeq75).trans (by decide +kernel)
theorem d75_41 : decode (zB 75) 41 = .ok (.getfield 44, 3) := (congrArg (fun c => decode c 41) zeq75).trans (by decide +kernel)
theorem d75_44 : decode (zB 75) 44 = .ok (.iconst 1, 1) := (congrArg (fun c => decode c 44) zeq75).trans (by decide +kernel)
theorem d75_45 : decode (zB 75) 45 = .ok (.iload_n 1, 1) := (congrArg (fun c => decode c 45) zeq75).trans (by decide +kernel)
theorem d75_46 : decode (zB 75) 46 = .ok (.ishl, 1) := (congrArg (fun c => decode c 46) zeq75).trans (by decide +kernel)
theorem d75_47 : decode (zB 75) 47 = .ok (.ior, 1) := (congrArg (fun c => decode c 47) zeq75).trans (by decide +kernel)
theorem d75_48 : decode (zB 75) 48 = .ok (.putfield 44, 3) := (congrArg (fun c => decode c 48) zeq75).trans (by decide +kernel)
theorem d75_51 : decode (zB 75) 51 = .ok (.aload_n 0, 1) := (congrArg (fun c => decode c 51) zeq75).trans (by decide +kernel)
theorem d75_52 : decode (zB 75) 52 = .ok (.getfield 18, 3) := (congrArg (fun c => decode c 52) zeq75).trans (by decide +kernel)
theorem d75_55 : decode (zB 75) 55 = .ok (.aload_n 0, 1) := (congrArg (fun c => decode c 55) zeq75).trans (by decide +kernel)
theorem d75_56 : decode (zB 75) 56 = .ok (.getfield 53, 3) := (congrArg (fun c => decode c 56) zeq75).trans (by decide +kernel)
theorem d75_59 : decode (zB 75) 59 = .ok (.iload_n 1, 1) := (congrArg (fun c => decode c 59) zeq75).trans (by decide +kernel)
theorem d75_60 : decode (zB 75) 60 = .ok (.iastore, 1) := (congrArg (fun c => decode c 60) zeq75).trans (by decide +kernel)
theorem d75_61 : decode (zB 75) 61 = .ok (.aload_n 0, 1) := (congrArg (fun c => decode c 61) zeq75).trans (by decide +kernel)
theorem d75_62 : decode (zB 75) 62 = .ok (.dup, 1) := (congrArg (fun c => decode c 62) zeq75).trans (by decide +kernel)
theorem d75_63 : decode (zB 75) 63 = .ok (.getfield 53, 3) := (congrArg (fun c => decode c 63) zeq75).trans (by decide +kernel)
theorem d75_66 : decode (zB 75) 66 = .ok (.iconst 1, 1) := (congrArg (fun c => decode c 66) zeq75).trans (by decide +kernel)
theorem d75_67 : decode (zB 75) 67 = .ok (.iadd, 1) := (congrArg (fun c => decode c 67) zeq75).trans (by decide +kernel)
theorem d75_68 : decode (zB 75) 68 = .ok (.putfield 53, 3) := (congrArg (fun c => decode c 68) zeq75).trans (by decide +kernel)
theorem d75_71 : decode (zB 75) 71 = .ok (.return_, 1) := (congrArg (fun c => decode c 71) zeq75).trans (by decide +kernel)
theorem c75 {d : Nat} {M : zM} {Q : Option Value → zM → Prop} {a : Nat} {T : Nat → yT} {nm : Nat → Int32} {S : yS} {i : Nat} (hs : SSg M a) (hR : RS M a T nm S) (h0 : gd S i = 0) (hi : i < gz T S) (hz : gz T S ≤ 12) (hl : (go S).length < 12) (k : ∀ M', RS M' a T nm (yDn S i (nm i)) → Fi (FS a) M M' → Q none M') : qC (d + 1) 75 [.ref a, .int (nI i)] M Q := by
  have hR' := hR
  obtain ⟨⟨q0, q1, q2⟩, ⟨q3, q4, q5⟩, ⟨q7, q8⟩, q9, qa, qb⟩ := hR
  have hm := gm_lt S 1
  refine qC_of (by decide) (Nat.le_of_ble_eq_true rfl) ?_
  refine q_iload_n d75_0 rfl ?_
  refine n0_lt 26 d75_1 (by decide) (by omega) (fun q => absurd q (Nat.not_lt_zero _)) (fun _ => ?_)
  refine q_iload_n d75_4 rfl ?_
  refine q_bipush (x := nI 12) d75_5 rfl ?_
  refine nc_ge 26 d75_7 (by decide) (by omega) (by omega) (fun h7 => (False.elim (by omega))) (fun h7 => ?_)
  refine q_aload_n d75_10 rfl ?_
  refine q_getv (c := 5) (f := 7) d75_11 ⟨rfl, by decide⟩ hs.1 q7 ?_
  refine n0_lt 26 d75_14 (by decide) (by omega) (fun q => absurd q (Nat.not_lt_zero _)) (fun _ => ?_)
  refine q_aload_n d75_17 rfl ?_
  refine q_getv (c := 5) (f := 7) d75_18 ⟨rfl, by decide⟩ hs.1 q7 ?_
  refine q_bipush (x := nI 12) d75_21 rfl ?_
  refine nc_lt 27 d75_23 (by decide) (by omega) (by omega) (fun h23 => ?_) (fun h23 => (False.elim (by omega)))
  refine q_aload_n d75_27 rfl ?_
  refine q_getr (c := 5) (f := 9) d75_28 ⟨rfl, rfl⟩ hs.1 (hs.2.2.1 1 (by decide)) ?_
  refine q_iload_n d75_31 rfl ?_
  refine q_aload_n d75_32 rfl ?_
  refine q_getr (c := 5) (f := 8) d75_33 ⟨rfl, rfl⟩ hs.1 (hs.2.2.1 0 (by decide)) ?_
  refine q_iload_n d75_36 rfl ?_
  refine n_iald d75_37 (hs.2.2.2 1 (by decide)) (by omega) (by decide) (q9 _ (by omega)) ?_
  refine n_iast d75_38 (hs.2.2.2 2 (by decide)) (by omega) (by decide) ?_
  refine q_aload_n d75_39 rfl ?_
  refine q_dup d75_40 rfl ?_
  refine q_getv (c := 5) (f := 3) d75_41 ⟨rfl, by decide⟩ hs.1 (Eq.trans (by (repeat (first | rw [wi_n (Or.inl (by omega))] | rw [wi_n (Or.inr (by omega))] | rw [wi_s] | rw [wr_i] | rw [cp_n (by omega)]))) q3) ?_
  refine q_iconstN (z := 1) d75_44 ?_
  refine q_iload_n d75_45 rfl ?_
  refine n_ishl1 d75_46 (by omega) ?_
  refine n_ior d75_47 ?_
  refine q_puti (c := 5) (f := 3) d75_48 ⟨rfl, rfl, by decide⟩ hs.1 ?_
  refine q_aload_n d75_51 rfl ?_
  refine q_getr (c := 5) (f := 6) d75_52 ⟨rfl, rfl⟩ hs.1 hs.2.1 ?_
  refine q_aload_n d75_55 rfl ?_
  refine q_getv (c := 5) (f := 7) d75_56 ⟨rfl, by decide⟩ hs.1 (Eq.trans (by (repeat (first | rw [wi_n (Or.inl (by omega))] | rw [wi_n (Or.inr (by omega))] | rw [wi_s] | rw [wr_i] | rw [cp_n (by omega)]))) q7) ?_
  refine q_iload_n d75_59 rfl ?_
  refine n_iast d75_60 (hs.2.2.2 0 (by decide)) (by omega) (by decide) ?_
  refine q_aload_n d75_61 rfl ?_
  refine q_dup d75_62 rfl ?_
  refine q_getv (c := 5) (f := 7) d75_63 ⟨rfl, by decide⟩ hs.1 (Eq.trans (by (repeat (first | rw [wi_n (Or.inl (by omega))] | rw [wi_n (Or.inr (by omega))] | rw [wi_s] | rw [wr_i] | rw [cp_n (by omega)]))) q7) ?_
  refine q_iconstN (z := 1) d75_66 ?_
  refine n_iadd d75_67 ?_
  refine q_puti (c := 5) (f := 7) d75_68 ⟨rfl, rfl, by decide⟩ hs.1 ?_
  refine q_ret d75_71 rfl ?_
  refine k _ (RS_done hR' h0 (by omega) (fun b j _ _ n1 n2 n3 => ?_) rfl ?_ ?_ ?_ ?_) (((((Fi.refl _ _).wi (FS_x (by omega) (by omega))).wi FS_0).wi (FS_x (by omega) (by omega))).wi FS_0)
  · rw [wi_n (by omega), wi_n (by omega), wi_n (by omega), wi_n (by omega)]
  · (repeat (first | rw [wi_n (Or.inl (by omega))] | rw [wi_n (Or.inr (by omega))] | rw [wi_s]))
  · (repeat (first | rw [wi_n (Or.inl (by omega))] | rw [wi_n (Or.inr (by omega))] | rw [wi_s]))
  · (repeat (first | rw [wi_n (Or.inl (by omega))] | rw [wi_n (Or.inr (by omega))] | rw [wi_s]))
  · (repeat (first | rw [wi_n (Or.inl (by omega))] | rw [wi_n (Or.inr (by omega))] | rw [wi_s]))
theorem nI_pm (n : Nat) : nI (n + 1) - nI 1 = nI n := by rw [pk_sub (by omega)]; rfl
theorem d85_0 : decode (zB 85) 0 = .ok (.aload_n 0, 1) := (congrArg (fun c => decode c 0) zeq85).trans (by decide +kernel)
theorem d85_1 : decode (zB 85) 1 = .ok (.dup, 1) := (congrArg (fun c => decode c 1) zeq85).trans (by decide +kernel)
theorem d85_2 : decode (zB 85) 2 = .ok (.getfield 44, 3) := (congrArg (fun c => decode c 2) zeq85).trans (by decide +kernel)
theorem d85_5 : decode (zB 85) 5 = .ok (.iconst 1, 1) := (congrArg (fun c => decode c 5) zeq85).trans (by decide +kernel)
theorem d85_6 : decode (zB 85) 6 = .ok (.iload_n 1, 1) := (congrArg (fun c => decode c 6) zeq85).trans (by decide +kernel)
theorem d85_7 : decode (zB 85) 7 = .ok (.ishl, 1) := (congrArg (fun c => decode c 7) zeq85).trans (by decide +kernel)
theorem d85_8 : decode (zB 85) 8 = .ok (.iconst (-1), 1) := (congrArg (fun c => decode c 8) zeq85).trans (by decide +kernel)
theorem d85_9 : decode (zB 85) 9 = .ok (.ixor, 1) := (congrArg (fun c => decode c 9) zeq85).trans (by decide +kernel)
theorem d85_10 : decode (zB 85) 10 = .ok (.iand, 1) := (congrArg (fun c => decode c 10) zeq85).trans (by decide +kernel)
theorem d85_11 : decode (zB 85) 11 = .ok (.putfield 44, 3) := (congrArg (fun c => decode c 11) zeq85).trans (by decide +kernel)
theorem d85_14 : decode (zB 85) 14 = .ok (.aload_n 0, 1) := (congrArg (fun c => decode c 14) zeq85).trans (by decide +kernel)
theorem d85_15 : decode (zB 85) 15 = .ok (.getfield 53, 3) := (congrArg (fun c => decode c 15) zeq85).trans (by decide +kernel)
theorem d85_18 : decode (zB 85) 18 = .ok (.ifCond .le 13, 3) := (congrArg (fun c => decode c 18) zeq85).trans (by decide +kernel)
theorem d85_21 : decode (zB 85) 21 = .ok (.aload_n 0, 1) := (congrArg (fun c => decode c 21) zeq85).trans (by decide +kernel)
theorem d85_22 : decode (zB 85) 22 = .ok (.dup, 1) := (congrArg (fun c => decode c 22) zeq85).trans (by decide +kernel)
theorem d85_23 : decode (zB 85) 23 = .ok (.getfield 53, 3) := (congrArg (fun c => decode c 23) zeq85).trans (by decide +kernel)
theorem d85_26 : decode (zB 85) 26 = .ok (.iconst 1, 1) := (congrArg (fun c => decode c 26) zeq85).trans (by decide +kernel)
theorem d85_27 : decode (zB 85) 27 = .ok (.isub, 1) := (congrArg (fun c => decode c 27) zeq85).trans (by decide +kernel)
theorem d85_28 : decode (zB 85) 28 = .ok (.putfield 53, 3) := (congrArg (fun c => decode c 28) zeq85).trans (by decide +kernel)
theorem d85_31 : decode (zB 85) 31 = .ok (.return_, 1) := (congrArg (fun c => decode c 31) zeq85).trans (by decide +kernel)
theorem c85 {d : Nat} {M : zM} {Q : Option Value → zM → Prop} {a i dm n : Nat} (hs : SSg M a) (hi : i < 12) (q3 : zi M a 3 = nI dm) (q7 : zi M a 7 = nI (n + 1)) (hn : n < 12) (k : Q none (zwi (zwi M a 3 (nI (zdf dm (2 ^ i)))) a 7 (nI n))) : qC (d + 1) 85 [.ref a, .int (nI i)] M Q := by
  refine qC_of (by decide) (Nat.le_of_ble_eq_true rfl) ?_
  refine q_aload_n d85_0 rfl ?_
  refine q_dup d85_1 rfl ?_
  refine q_getv (c := 5) (f := 3) d85_2 ⟨rfl, by decide⟩ hs.1 q3 ?_
  refine q_iconstN (z := 1) d85_5 ?_
  refine q_iload_n d85_6 rfl ?_
  refine n_ishl1 d85_7 (by omega) ?_
  refine q_iconst (x := (-1)) d85_8 rfl ?_
  refine q_ixor d85_9 ?_
  refine n_iandn d85_10 ?_
  refine q_puti (c := 5) (f := 3) d85_11 ⟨rfl, rfl, by decide⟩ hs.1 ?_
  refine q_aload_n d85_14 rfl ?_
  refine q_getv (c := 5) (f := 7) d85_15 ⟨rfl, by decide⟩ hs.1 (Eq.trans (by (repeat (first | rw [wi_n (Or.inl (by omega))] | rw [wi_n (Or.inr (by omega))] | rw [wi_s] | rw [wr_i] | rw [cp_n (by omega)]))) q7) ?_
  refine n0_le 31 d85_18 (by decide) (by omega) (fun h18 => ?_) (fun h18 => ?_)
  · refine q_ret d85_31 rfl ?_
    first | exact k | exact absurd h18 (by omega)
  · refine q_aload_n d85_21 rfl ?_
    refine q_dup d85_22 rfl ?_
    refine q_getv (c := 5) (f := 7) d85_23 ⟨rfl, by decide⟩ hs.1 (Eq.trans (by (repeat (first | rw [wi_n (Or.inl (by omega))] | rw [wi_n (Or.inr (by omega))] | rw [wi_s] | rw [wr_i] | rw [cp_n (by omega)]))) q7) ?_
    refine q_iconstN (z := 1) d85_26 ?_
    refine n_isub d85_27 (by omega) ?_
    refine q_puti (c := 5) (f := 7) d85_28 ⟨rfl, rfl, by decide⟩ hs.1 ?_
    refine q_ret d85_31 rfl ?_
    first | exact k | exact absurd h18 (by omega)
theorem d84_0 : decode (zB 84) 0 = .ok (.aload_n 0, 1) := (congrArg (fun c => decode c 0) zeq84).trans (by decide +kernel)
theorem d84_1 : decode (zB 84) 1 = .ok (.iload_n 1, 1) := (congrArg (fun c => decode c 1) zeq84).trans (by decide +kernel)
theorem d84_2 : decode (zB 84) 2 = .ok (.invokevirtual 99, 3) := (congrArg (fun c => decode c 2) zeq84).trans (by decide +kernel)
theorem d84_5 : decode (zB 84) 5 = .ok (.aload_n 0, 1) := (congrArg (fun c => decode c 5) zeq84).trans (by decide +kernel)
theorem d84_6 : decode (zB 84) 6 = .ok (.dup, 1) := (congrArg (fun c => decode c 6) zeq84).trans (by decide +kernel)
theorem d84_7 : decode (zB 84) 7 = .ok (.getfield 47, 3) := (congrArg (fun c => decode c 7) zeq84).trans (by decide +kernel)
theorem d84_10 : decode (zB 84) 10 = .ok (.iconst 1, 1) := (congrArg (fun c => decode c 10) zeq84).trans (by decide +kernel)
theorem d84_11 : decode (zB 84) 11 = .ok (.iload_n 1, 1) := (congrArg (fun c => decode c 11) zeq84).trans (by decide +kernel)
theorem d84_12 : decode (zB 84) 12 = .ok (.ishl, 1) := (congrArg (fun c => decode c 12) zeq84).trans (by decide +kernel)
theorem d84_13 : decode (zB 84) 13 = .ok (.ior, 1) := (congrArg (fun c => decode c 13) zeq84).trans (by decide +kernel)
theorem d84_14 : decode (zB 84) 14 = .ok (.putfield 47, 3) := (congrArg (fun c => decode c 14) zeq84).trans (by decide +kernel)
theorem d84_17 : decode (zB 84) 17 = .ok (.return_, 1) := (congrArg (fun c => decode c 17) zeq84).trans (by decide +kernel)
theorem c84 {d : Nat} {M : zM} {Q : Option Value → zM → Prop} {a : Nat} {T : Nat → yT} {nm : Nat → Int32} {S : yS} {i : Nat} {t : List Nat} (hs : SSg M a) (hR : RS M a T nm S) (hg : go S = i :: t) (h0 : gd S i = 1) (hi : i < 12) (hl : (go S).length ≤ 12) (k : ∀ M', RS M' a T nm (gwS (goS (gdS S (yu (gd S) i 2)) t) (gw S)) → Fi (FS a) M M' → Q none M') : qC (d + 2) 84 [.ref a, .int (nI i)] M Q := by
  have hR' := hR
  obtain ⟨⟨q0, q1, q2⟩, ⟨q3, q4, q5⟩, ⟨q7, q8⟩, q9, qa, qb⟩ := hR
  refine qC_of (by decide) (Nat.le_of_ble_eq_true rfl) ?_
  refine q_aload_n d84_0 rfl ?_
  refine q_iload_n d84_1 rfl ?_
  refine q_v1 d84_2 rfl rfl hs.1 (Nat.le_of_ble_eq_true rfl) (c85 hs (by omega) q3 (by rw [q7, hg]; rfl) (by rw [hg] at hl; exact hl) ?_)
  refine q_aload_n d84_5 rfl ?_
  refine q_dup d84_6 rfl ?_
  refine q_getv (c := 5) (f := 4) d84_7 ⟨rfl, by decide⟩ hs.1 (Eq.trans (by (repeat (first | rw [wi_n (Or.inl (by omega))] | rw [wi_n (Or.inr (by omega))] | rw [wi_s] | rw [wr_i] | rw [cp_n (by omega)]))) q4) ?_
  refine q_iconstN (z := 1) d84_10 ?_
  refine q_iload_n d84_11 rfl ?_
  refine n_ishl1 d84_12 (by omega) ?_
  refine n_ior d84_13 ?_
  refine q_puti (c := 5) (f := 4) d84_14 ⟨rfl, rfl, by decide⟩ hs.1 ?_
  refine q_ret d84_17 rfl ?_
  refine k _ (RS_undo hR' hg h0 (by omega) (Or.inl rfl) (gw S) (fun b j _ _ n1 n2 => ?_) rfl ?_ ?_ ?_ (fun j hj => ?_)) ((((Fi.refl _ _).wi FS_0).wi FS_0).wi FS_0)
  · rw [wi_n (by omega), wi_n (by omega), wi_n (by omega)]
  · (repeat (first | rw [wi_n (Or.inl (by omega))] | rw [wi_n (Or.inr (by omega))] | rw [wi_s]))
  · (repeat (first | rw [wi_n (Or.inl (by omega))] | rw [wi_n (Or.inr (by omega))] | rw [wi_s]))
  · (repeat (first | rw [wi_n (Or.inl (by omega))] | rw [wi_n (Or.inr (by omega))] | rw [wi_s]))
  · (repeat (first | rw [wi_n (Or.inl (by omega))] | rw [wi_n (Or.inr (by omega))] | rw [wi_s])); exact (qb j hj).2.2.2
theorem d86_0 : decode (zB 86) 0 = .ok (.iload_n 1, 1) := (congrArg (fun c => decode c 0) zeq86).trans (by decide +kernel)
theorem d86_1 : decode (zB 86) 1 = .ok (.ifCond .lt 9, 3) := (congrArg (fun c => decode c 1) zeq86).trans (by decide +kernel)
theorem d86_4 : decode (zB 86) 4 = .ok (.iload_n 1, 1) := (congrArg (fun c => decode c 4) zeq86).trans (by decide +kernel)
theorem d86_5 : decode (zB 86) 5 = .ok (.bipush 12, 2) := (congrArg (fun c => decode c 5) zeq86).trans (by decide +kernel)
theorem d86_7 : decode (zB 86) 7 = .ok (.if_icmp .lt 4, 3) := (congrArg (fun c => decode c 7) zeq86).trans (by decide +kernel)
theorem d86_10 : decode (zB 86) 10 = .ok (.return_, 1) := (congrArg (fun c => decode c 10) zeq86).trans (by decide +kernel)
theorem d86_11 : decode (zB 86) 11 = .ok (.aload_n 0, 1) := (congrArg (fun c => decode c 11) zeq86).trans (by decide +kernel)
theorem d86_12 : decode (zB 86) 12 = .ok (.iload_n 1, 1) := (congrArg (fun c => decode c 12) zeq86).trans (by decide +kernel)
theorem d86_13 : decode (zB 86) 13 = .ok (.invokevirtual 99, 3) := (congrArg (fun c => decode c 13) zeq86).trans (by decide +kernel)
theorem d86_16 : decode (zB 86) 16 = .ok (.aload_n 0, 1) := (congrArg (fun c => decode c 16) zeq86).trans (by decide +kernel)
theorem d86_17 : decode (zB 86) 17 = .ok (.dup, 1) := (congrArg (fun c => decode c 17) zeq86).trans (by decide +kernel)
theorem d86_18 : decode (zB 86) 18 = .ok (.getfield 50, 3) := (congrArg (fun c => decode c 18) zeq86).trans (by decide +kernel)
theorem d86_21 : decode (zB 86) 21 = .ok (.iconst 1, 1) := (congrArg (fun c => decode c 21) zeq86).trans (by decide +kernel)
theorem d86_22 : decode (zB 86) 22 = .ok (.iload_n 1, 1) := (congrArg (fun c => decode c 22) zeq86).trans (by decide +kernel)
theorem d86_23 : decode (zB 86) 23 = .ok (.ishl, 1) := (congrArg (fun c => decode c 23) zeq86).trans (by decide +kernel)
theorem d86_24 : decode (zB 86) 24 = .ok (.ior, 1) := (congrArg (fun c => decode c 24) zeq86).trans (by decide +kernel)
theorem d86_25 : decode (zB 86) 25 = .ok (.putfield 50, 3) := (congrArg (fun c => decode c 25) zeq86).trans (by decide +kernel)
theorem d86_28 : decode (zB 86) 28 = .ok (.aload_n 0, 1) := (congrArg (fun c => decode c 28) zeq86).trans (by decide +kernel)
theorem d86_29 : decode (zB 86) 29 = .ok (.getfield 37, 3) := (congrArg (fun c => decode c 29) zeq86).trans (by decide +kernel)
theorem d86_32 : decode (zB 86) 32 = .ok (.iload_n 1, 1) := (congrArg (fun c => decode c 32) zeq86).trans (by decide +kernel)
theorem d86_33 : decode (zB 86) 33 = .ok (.iload_n 2, 1) := (congrArg (fun c => decode c 33) zeq86).trans (by decide +kernel)
theorem d86_34 : decode (zB 86) 34 = .ok (.iastore, 1) := (congrArg (fun c => decode c 34) zeq86).trans (by decide +kernel)
theorem d86_35 : decode (zB 86) 35 = .ok (.return_, 1) := (congrArg (fun c => decode c 35) zeq86).trans (by decide +kernel)
theorem c86 {d : Nat} {M : zM} {Q : Option Value → zM → Prop} {a : Nat} {T : Nat → yT} {nm : Nat → Int32} {S : yS} {i : Nat} {t : List Nat} {r : Int32} (hs : SSg M a) (hR : RS M a T nm S) (hg : go S = i :: t) (h0 : gd S i = 1) (hi : i < 12) (hl : (go S).length ≤ 12) (k : ∀ M', RS M' a T nm (gwS (goS (gdS S (yu (gd S) i 3)) t) (yu (gw S) i r)) → Fi (FS a) M M' → Q none M') : qC (d + 2) 86 [.ref a, .int (nI i), .int r] M Q := by
  have hR' := hR
  obtain ⟨⟨q0, q1, q2⟩, ⟨q3, q4, q5⟩, ⟨q7, q8⟩, q9, qa, qb⟩ := hR
  refine qC_of (by decide) (Nat.le_of_ble_eq_true rfl) ?_
  refine q_iload_n d86_0 rfl ?_
  refine n0_lt 10 d86_1 (by decide) (by omega) (fun q => absurd q (Nat.not_lt_zero _)) (fun _ => ?_)
  refine q_iload_n d86_4 rfl ?_
  refine q_bipush (x := nI 12) d86_5 rfl ?_
  refine nc_lt 11 d86_7 (by decide) (by omega) (by omega) (fun h7 => ?_) (fun h7 => (False.elim (by omega)))
  refine q_aload_n d86_11 rfl ?_
  refine q_iload_n d86_12 rfl ?_
  refine q_v1 d86_13 rfl rfl hs.1 (Nat.le_of_ble_eq_true rfl) (c85 hs (by omega) q3 (by rw [q7, hg]; rfl) (by rw [hg] at hl; exact hl) ?_)
  refine q_aload_n d86_16 rfl ?_
  refine q_dup d86_17 rfl ?_
  refine q_getv (c := 5) (f := 5) d86_18 ⟨rfl, by decide⟩ hs.1 (Eq.trans (by (repeat (first | rw [wi_n (Or.inl (by omega))] | rw [wi_n (Or.inr (by omega))] | rw [wi_s] | rw [wr_i] | rw [cp_n (by omega)]))) q5) ?_
  refine q_iconstN (z := 1) d86_21 ?_
  refine q_iload_n d86_22 rfl ?_
  refine n_ishl1 d86_23 (by omega) ?_
  refine n_ior d86_24 ?_
  refine q_puti (c := 5) (f := 5) d86_25 ⟨rfl, rfl, by decide⟩ hs.1 ?_
  refine q_aload_n d86_28 rfl ?_
  refine q_getr (c := 5) (f := 13) d86_29 ⟨rfl, rfl⟩ hs.1 (hs.2.2.1 5 (by decide)) ?_
  refine q_iload_n d86_32 rfl ?_
  refine q_iload_n d86_33 rfl ?_
  refine n_iast d86_34 (hs.2.2.2 6 (by decide)) (by omega) (by decide) ?_
  refine q_ret d86_35 rfl ?_
  refine k _ (RS_undo hR' hg h0 (by omega) (Or.inr rfl) (yu (gw S) i r) (fun b j _ _ n1 n2 => ?_) rfl ?_ ?_ ?_ (fun j hj => ?_)) (((((Fi.refl _ _).wi FS_0).wi FS_0).wi FS_0).wi (FS_x (by omega) (by omega)))
  · rw [wi_n (by omega), wi_n (by omega), wi_n (by omega), wi_n (by omega)]
  · (repeat (first | rw [wi_n (Or.inl (by omega))] | rw [wi_n (Or.inr (by omega))] | rw [wi_s]))
  · (repeat (first | rw [wi_n (Or.inl (by omega))] | rw [wi_n (Or.inr (by omega))] | rw [wi_s]))
  · (repeat (first | rw [wi_n (Or.inl (by omega))] | rw [wi_n (Or.inr (by omega))] | rw [wi_s]))
  · by_cases e : j = i
    · subst e; rw [wi_s, yu_s]
    · rw [yu_n e]; (repeat (first | rw [wi_n (Or.inl (by omega))] | rw [wi_n (Or.inr (by omega))] | rw [wi_s])); exact (qb j hj).2.2.2
/-! ===== contracts: sagas, the rest ===== -/
theorem wr_i {M : zM} {a k b j : Nat} {v : Option Nat} : zi (zwr M a k v) b j = zi M b j := rfl
theorem wi_r {M : zM} {a k b j : Nat} {v : Int32} : zr (zwi M a k v) b j = zr M b j := rfl
theorem cp_r {M : zM} {a0 s a d n b j : Nat} : zr (zcp M a0 s a d n) b j = zr M b j := rfl
theorem wr_n {M : zM} {a k b j : Nat} {v : Option Nat} (h : b ≠ a ∨ j ≠ k) : zr (zwr M a k v) b j = zr M b j := by rw [wr_eq, if_neg (by omega)]
theorem wr_s {M : zM} {a k : Nat} {v : Option Nat} : zr (zwr M a k v) a k = v := by rw [wr_eq, if_pos ⟨rfl, rfl⟩]
theorem cp_n {M : zM} {a0 s a d n b j : Nat} (h : b ≠ a ∨ j < d ∨ d + n ≤ j) : zi (zcp M a0 s a d n) b j = zi M b j := by rw [cp_eq, if_neg (by omega)]
theorem cp_0 {M : zM} {a0 a n j : Nat} (h : j < n) : zi (zcp M a0 0 a 0 n) a j = zi M a0 j := by rw [cp_eq, if_pos ⟨rfl, by omega, by omega⟩, show 0 + (j - 0) = j by omega]
theorem cp_r2 {M : zM} {a0 s a d n : Nat} (h : SC M) (ha : 3 ≤ a) : SC (zcp M a0 s a d n) := SC_cp h ha
theorem Fr.wi' {S : Nat → Nat → Prop} {M M' : zM} {a k : Nat} {v : Int32} (h : Fr S M M') (hs : S a k) : Fr S M (zwi M' a k v) := h.wi hs
theorem zSa.z {a : Nat} (h : zSa a) : zpr a 2 := by unfold zSa at h; unfold zpr; omega
theorem zSa.l {a : Nat} (h : zSa a) : 70 ≤ a ∧ a < 119 := by unfold zSa at h; omega
theorem d76_0 : decode (zB 76) 0 = .ok (.iload_n 1, 1) := (congrArg (fun c => decode c 0) zeq76).trans (by decide +kernel)
theorem d76_1 : decode (zB 76) 1 = .ok (.ifCond .lt 9, 3) := (congrArg (fun c => decode c 1) zeq76).trans (by decide +kernel)
theorem d76_4 : decode (zB 76) 4 = .ok (.iload_n 1, 1) := (congrArg (fun c => decode c 4) zeq76).trans (by decide +kernel)
theorem d76_5 : decode (zB 76) 5 = .ok (.bipush 12, 2) := (congrArg (fun c => decode c 5) zeq76).trans (by decide +kernel)
theorem d76_7 : decode (zB 76) 7 = .ok (.if_icmp .lt 4, 3) := (congrArg (fun c => decode c 7) zeq76).trans (by decide +kernel)
theorem d76_10 : decode (zB 76) 10 = .ok (.return_, 1) := (congrArg (fun c => decode c 10) zeq76).trans (by decide +kernel)
theorem d76_11 : decode (zB 76) 11 = .ok (.aload_n 0, 1) := (congrArg (fun c => decode c 11) zeq76).trans (by decide +kernel)
theorem d76_12 : decode (zB 76) 12 = .ok (.getfield 34, 3) := (congrArg (fun c => decode c 12) zeq76).trans (by decide +kernel)
theorem d76_15 : decode (zB 76) 15 = .ok (.iload_n 1, 1) := (congrArg (fun c => decode c 15) zeq76).trans (by decide +kernel)
theorem d76_16 : decode (zB 76) 16 = .ok (.dup2, 1) := (congrArg (fun c => decode c 16) zeq76).trans (by decide +kernel)
theorem d76_17 : decode (zB 76) 17 = .ok (.iaload, 1) := (congrArg (fun c => decode c 17) zeq76).trans (by decide +kernel)
theorem d76_18 : decode (zB 76) 18 = .ok (.iconst 1, 1) := (congrArg (fun c => decode c 18) zeq76).trans (by decide +kernel)
theorem d76_19 : decode (zB 76) 19 = .ok (.iadd, 1) := (congrArg (fun c => decode c 19) zeq76).trans (by decide +kernel)
theorem d76_20 : decode (zB 76) 20 = .ok (.iastore, 1) := (congrArg (fun c => decode c 20) zeq76).trans (by decide +kernel)
theorem d76_21 : decode (zB 76) 21 = .ok (.aload_n 0, 1) := (congrArg (fun c => decode c 21) zeq76).trans (by decide +kernel)
theorem d76_22 : decode (zB 76) 22 = .ok (.getfield 37, 3) := (congrArg (fun c => decode c 22) zeq76).trans (by decide +kernel)
theorem d76_25 : decode (zB 76) 25 = .ok (.iload_n 1, 1) := (congrArg (fun c => decode c 25) zeq76).trans (by decide +kernel)
theorem d76_26 : decode (zB 76) 26 = .ok (.iload_n 2, 1) := (congrArg (fun c => decode c 26) zeq76).trans (by decide +kernel)
theorem d76_27 : decode (zB 76) 27 = .ok (.iastore, 1) := (congrArg (fun c => decode c 27) zeq76).trans (by decide +kernel)
theorem d76_28 : decode (zB 76) 28 = .ok (.aload_n 0, 1) := (congrArg (fun c => decode c 28) zeq76).trans (by decide +kernel)
theorem d76_29 : decode (zB 76) 29 = .ok (.getfield 40, 3) := (congrArg (fun c => decode c 29) zeq76).trans (by decide +kernel)
theorem d76_32 : decode (zB 76) 32 = .ok (.ifnull 17, 3) := (congrArg (fun c => decode c 32) zeq76).trans (by decide +kernel)
theorem d76_35 : decode (zB 76) 35 = .ok (.aload_n 0, 1) := (congrArg (fun c => decode c 35) zeq76).trans (by decide +kernel)
theorem d76_36 : decode (zB 76) 36 = .ok (.getfield 40, 3) := (congrArg (fun c => decode c 36) zeq76).trans (by decide +kernel)
theorem d76_39 : decode (zB 76) 39 = .ok (.aload_n 0, 1) := (congrArg (fun c => decode c 39) zeq76).trans (by decide +kernel)
theorem d76_40 : decode (zB 76) 40 = .ok (.getfield 44, 3) := (congrArg (fun c => decode c 40) zeq76).trans (by decide +kernel)
theorem d76_43 : decode (zB 76) 43 = .ok (.invokevirtual 92, 3) := (congrArg (fun c => decode c 43) zeq76).trans (by decide +kernel)
theorem d76_46 : decode (zB 76) 46 = .ok (.ifCond .ne 8, 3) := (congrArg (fun c => decode c 46) zeq76).trans (by decide +kernel)
theorem d76_49 : decode (zB 76) 49 = .ok (.aload_n 0, 1) := (congrArg (fun c => decode c 49) zeq76).trans (by decide +kernel)
theorem d76_50 : decode (zB 76) 50 = .ok (.iconst 2, 1) := (congrArg (fun c => decode c 50) zeq76).trans (by decide +kernel)
theorem d76_51 : decode (zB 76) 51 = .ok (.putfield 9, 3) := (congrArg (fun c => decode c 51) zeq76).trans (by decide +kernel)
theorem d76_54 : decode (zB 76) 54 = .ok (.return_, 1) := (congrArg (fun c => decode c 54) zeq76).trans (by decide +kernel)
theorem c76 {d : Nat} {M : zM} {Q : Option Value → zM → Prop} {a : Nat} {T : Nat → yT} {nm : Nat → Int32} {S : yS} {i : Nat} {r : Int32} (hs : SSg M a) (hR : RS M a T nm S) (hi : i < 12) (hg : ¬ gt S = 0) (hp : SPr M (20 + 7 * gx S)) (hr : RP M (20 + 7 * gx S) (T (gx S))) (hag : 20 + 7 * gx S + 6 ≤ a) (k : ∀ M', RS M' a T nm (yfS S i r (ypa (T (gx S)) (gm S 1))) → Fi (FS a) M M' → Q none M') : qC (d + 2) 76 [.ref a, .int (nI i), .int r] M Q := by
  obtain ⟨⟨q0, q1, q2⟩, ⟨q3, q4, q5⟩, ⟨q7, q8⟩, q9, qa, qb⟩ := hR
  refine qC_of (by decide) (Nat.le_of_ble_eq_true rfl) ?_
  refine q_iload_n d76_0 rfl ?_
  refine n0_lt 10 d76_1 (by decide) (by omega) (fun q => absurd q (Nat.not_lt_zero _)) (fun _ => ?_)
  refine q_iload_n d76_4 rfl ?_
  refine q_bipush (x := nI 12) d76_5 rfl ?_
  refine nc_lt 11 d76_7 (by decide) (by omega) (by omega) (fun h7 => ?_) (fun h7 => (False.elim (by omega)))
  refine q_aload_n d76_11 rfl ?_
  refine q_getr (c := 5) (f := 12) d76_12 ⟨rfl, rfl⟩ hs.1 (hs.2.2.1 4 (by decide)) ?_
  refine q_iload_n d76_15 rfl ?_
  refine q_dup2 d76_16 rfl rfl ?_
  refine n_iald d76_17 (hs.2.2.2 5 (by decide)) (by omega) (by decide) (qb _ (by omega)).2.2.1 ?_
  refine q_iconst (x := (1)) d76_18 rfl ?_
  refine q_iadd d76_19 ?_
  refine n_iast d76_20 (hs.2.2.2 5 (by decide)) (by omega) (by decide) ?_
  refine q_aload_n d76_21 rfl ?_
  refine q_getr (c := 5) (f := 13) d76_22 ⟨rfl, rfl⟩ hs.1 (hs.2.2.1 5 (by decide)) ?_
  refine q_iload_n d76_25 rfl ?_
  refine q_iload_n d76_26 rfl ?_
  refine n_iast d76_27 (hs.2.2.2 6 (by decide)) (by omega) (by decide) ?_
  refine q_aload_n d76_28 rfl ?_
  refine q_getr (c := 5) (f := 2) d76_29 ⟨rfl, rfl⟩ hs.1 (q2.trans (if_neg hg)) ?_
  refine q_ifnull (r := some _) 49 d76_32 (by decide) (fun q => absurd q (Option.some_ne_none _)) (fun _ => ?_)
  refine q_aload_n d76_35 rfl ?_
  refine q_getr (c := 5) (f := 2) d76_36 ⟨rfl, rfl⟩ hs.1 (q2.trans (if_neg hg)) ?_
  refine q_aload_n d76_39 rfl ?_
  refine q_getv (c := 5) (f := 3) d76_40 ⟨rfl, by decide⟩ hs.1 (Eq.trans (by (repeat (first | rw [wi_n (Or.inl (by omega))] | rw [wi_n (Or.inr (by omega))] | rw [wi_s] | rw [wr_i] | rw [cp_n (by omega)]))) q3) ?_
  refine q_v1 d76_43 rfl rfl hp.1 (Nat.le_of_ble_eq_true rfl) (c77 hp (RP_fr hr ((((Fi.refl (FS a) M).wi (FS_x (by omega) (by omega))).wi (FS_x (by omega) (by omega))).fr) (fun b j h1 h2 q => by have := q.1; omega)) ?_)
  refine b0_ne 54 d76_46 (by decide) (fun h46 => ?_) (fun h46 => ?_)
  · refine q_ret d76_54 rfl ?_
    first
    | (
      refine k _ ?_ (((Fi.refl _ _).wi (FS_x (by omega) (by omega))).wi (FS_x (by omega) (by omega)))
      unfold yfS
      rw [h46]
      refine ⟨⟨?_, ?_, ?_⟩, ⟨?_, ?_, ?_⟩, ⟨?_, fun j hj => ?_⟩, fun j hj => ?_, fun j hj he => ?_, fun j hj => ⟨?_, ?_, ?_, ?_⟩⟩
      · (repeat (first | rw [wi_n (Or.inl (by omega))] | rw [wi_n (Or.inr (by omega))] | rw [wi_s] | rw [wr_i] | rw [cp_n (by omega)] | rw [cp_0 (by omega)])); exact q0
      · (repeat (first | rw [wi_n (Or.inl (by omega))] | rw [wi_n (Or.inr (by omega))] | rw [wi_s] | rw [wr_i] | rw [cp_n (by omega)] | rw [cp_0 (by omega)])); exact q1
      · (repeat (first | rw [wi_r])); exact q2
      · (repeat (first | rw [wi_n (Or.inl (by omega))] | rw [wi_n (Or.inr (by omega))] | rw [wi_s] | rw [wr_i] | rw [cp_n (by omega)] | rw [cp_0 (by omega)])); exact q3
      · (repeat (first | rw [wi_n (Or.inl (by omega))] | rw [wi_n (Or.inr (by omega))] | rw [wi_s] | rw [wr_i] | rw [cp_n (by omega)] | rw [cp_0 (by omega)])); exact q4
      · (repeat (first | rw [wi_n (Or.inl (by omega))] | rw [wi_n (Or.inr (by omega))] | rw [wi_s] | rw [wr_i] | rw [cp_n (by omega)] | rw [cp_0 (by omega)])); exact q5
      · (repeat (first | rw [wi_n (Or.inl (by omega))] | rw [wi_n (Or.inr (by omega))] | rw [wi_s] | rw [wr_i] | rw [cp_n (by omega)] | rw [cp_0 (by omega)])); exact q7
      · (repeat (first | rw [wi_n (Or.inl (by omega))] | rw [wi_n (Or.inr (by omega))] | rw [wi_s] | rw [wr_i] | rw [cp_n (by omega)] | rw [cp_0 (by omega)])); exact q8 j hj
      · (repeat (first | rw [wi_n (Or.inl (by omega))] | rw [wi_n (Or.inr (by omega))] | rw [wi_s] | rw [wr_i] | rw [cp_n (by omega)] | rw [cp_0 (by omega)])); exact q9 j (by exact hj)
      · (repeat (first | rw [wi_n (Or.inl (by omega))] | rw [wi_n (Or.inr (by omega))] | rw [wi_s] | rw [wr_i] | rw [cp_n (by omega)] | rw [cp_0 (by omega)])); exact qa j hj he
      · (repeat (first | rw [wi_n (Or.inl (by omega))] | rw [wi_n (Or.inr (by omega))] | rw [wi_s] | rw [wr_i] | rw [cp_n (by omega)] | rw [cp_0 (by omega)])); exact (qb j hj).1
      · (repeat (first | rw [wi_n (Or.inl (by omega))] | rw [wi_n (Or.inr (by omega))] | rw [wi_s] | rw [wr_i] | rw [cp_n (by omega)] | rw [cp_0 (by omega)])); exact (qb j hj).2.1
      · show _ = yu (gf S) i (gf S i + 1) j
        by_cases e : j = i
        · subst e; rw [yu_s]; (repeat (first | rw [wi_n (Or.inl (by omega))] | rw [wi_n (Or.inr (by omega))] | rw [wi_s] | rw [wr_i] | rw [cp_n (by omega)] | rw [cp_0 (by omega)])); try rfl
        · rw [yu_n e]; (repeat (first | rw [wi_n (Or.inl (by omega))] | rw [wi_n (Or.inr (by omega))] | rw [wi_s] | rw [wr_i] | rw [cp_n (by omega)] | rw [cp_0 (by omega)])); exact (qb j hj).2.2.1
      · show _ = yu (gw S) i r j
        by_cases e : j = i
        · subst e; rw [yu_s]; (repeat (first | rw [wi_n (Or.inl (by omega))] | rw [wi_n (Or.inr (by omega))] | rw [wi_s] | rw [wr_i] | rw [cp_n (by omega)] | rw [cp_0 (by omega)])); try rfl
        · rw [yu_n e]; (repeat (first | rw [wi_n (Or.inl (by omega))] | rw [wi_n (Or.inr (by omega))] | rw [wi_s] | rw [wr_i] | rw [cp_n (by omega)] | rw [cp_0 (by omega)])); exact (qb j hj).2.2.2)
    | (
      refine k _ ?_ ((((Fi.refl _ _).wi (FS_x (by omega) (by omega))).wi (FS_x (by omega) (by omega))).wi FS_0)
      unfold yfS
      rw [h46]
      refine ⟨⟨?_, ?_, ?_⟩, ⟨?_, ?_, ?_⟩, ⟨?_, fun j hj => ?_⟩, fun j hj => ?_, fun j hj he => ?_, fun j hj => ⟨?_, ?_, ?_, ?_⟩⟩
      · exact (show _ = nI 2 by (repeat (first | rw [wi_n (Or.inl (by omega))] | rw [wi_n (Or.inr (by omega))] | rw [wi_s] | rw [wr_i] | rw [cp_n (by omega)] | rw [cp_0 (by omega)])))
      · (repeat (first | rw [wi_n (Or.inl (by omega))] | rw [wi_n (Or.inr (by omega))] | rw [wi_s] | rw [wr_i] | rw [cp_n (by omega)] | rw [cp_0 (by omega)])); exact (q1.trans (by show txt S = txt (2, S.2); unfold txt; rw [if_neg hg, if_neg (by exact (by decide : ¬ (2 : Nat) = 0))]; rfl))
      · (repeat (first | rw [wi_r])); exact (q2.trans (by show prg S = prg (2, S.2); unfold prg; rw [if_neg hg, if_neg (by exact (by decide : ¬ (2 : Nat) = 0))]; rfl))
      · (repeat (first | rw [wi_n (Or.inl (by omega))] | rw [wi_n (Or.inr (by omega))] | rw [wi_s] | rw [wr_i] | rw [cp_n (by omega)] | rw [cp_0 (by omega)])); exact q3
      · (repeat (first | rw [wi_n (Or.inl (by omega))] | rw [wi_n (Or.inr (by omega))] | rw [wi_s] | rw [wr_i] | rw [cp_n (by omega)] | rw [cp_0 (by omega)])); exact q4
      · (repeat (first | rw [wi_n (Or.inl (by omega))] | rw [wi_n (Or.inr (by omega))] | rw [wi_s] | rw [wr_i] | rw [cp_n (by omega)] | rw [cp_0 (by omega)])); exact q5
      · (repeat (first | rw [wi_n (Or.inl (by omega))] | rw [wi_n (Or.inr (by omega))] | rw [wi_s] | rw [wr_i] | rw [cp_n (by omega)] | rw [cp_0 (by omega)])); exact q7
      · (repeat (first | rw [wi_n (Or.inl (by omega))] | rw [wi_n (Or.inr (by omega))] | rw [wi_s] | rw [wr_i] | rw [cp_n (by omega)] | rw [cp_0 (by omega)])); exact q8 j hj
      · (repeat (first | rw [wi_n (Or.inl (by omega))] | rw [wi_n (Or.inr (by omega))] | rw [wi_s] | rw [wr_i] | rw [cp_n (by omega)] | rw [cp_0 (by omega)])); exact q9 j (by unfold gz; rw [if_neg hg]; unfold gz at hj; rw [if_neg (by exact (by decide : ¬ (2 : Nat) = 0))] at hj; exact hj)
      · (repeat (first | rw [wi_n (Or.inl (by omega))] | rw [wi_n (Or.inr (by omega))] | rw [wi_s] | rw [wr_i] | rw [cp_n (by omega)] | rw [cp_0 (by omega)])); exact qa j hj he
      · (repeat (first | rw [wi_n (Or.inl (by omega))] | rw [wi_n (Or.inr (by omega))] | rw [wi_s] | rw [wr_i] | rw [cp_n (by omega)] | rw [cp_0 (by omega)])); exact (qb j hj).1
      · (repeat (first | rw [wi_n (Or.inl (by omega))] | rw [wi_n (Or.inr (by omega))] | rw [wi_s] | rw [wr_i] | rw [cp_n (by omega)] | rw [cp_0 (by omega)])); exact (qb j hj).2.1
      · show _ = yu (gf S) i (gf S i + 1) j
        by_cases e : j = i
        · subst e; rw [yu_s]; (repeat (first | rw [wi_n (Or.inl (by omega))] | rw [wi_n (Or.inr (by omega))] | rw [wi_s] | rw [wr_i] | rw [cp_n (by omega)] | rw [cp_0 (by omega)])); try rfl
        · rw [yu_n e]; (repeat (first | rw [wi_n (Or.inl (by omega))] | rw [wi_n (Or.inr (by omega))] | rw [wi_s] | rw [wr_i] | rw [cp_n (by omega)] | rw [cp_0 (by omega)])); exact (qb j hj).2.2.1
      · show _ = yu (gw S) i r j
        by_cases e : j = i
        · subst e; rw [yu_s]; (repeat (first | rw [wi_n (Or.inl (by omega))] | rw [wi_n (Or.inr (by omega))] | rw [wi_s] | rw [wr_i] | rw [cp_n (by omega)] | rw [cp_0 (by omega)])); try rfl
        · rw [yu_n e]; (repeat (first | rw [wi_n (Or.inl (by omega))] | rw [wi_n (Or.inr (by omega))] | rw [wi_s] | rw [wr_i] | rw [cp_n (by omega)] | rw [cp_0 (by omega)])); exact (qb j hj).2.2.2)
  · refine q_aload_n d76_49 rfl ?_
    refine q_iconstN (z := 2) d76_50 ?_
    refine q_puti (c := 5) (f := 0) d76_51 ⟨rfl, rfl, by decide⟩ hs.1 ?_
    refine q_ret d76_54 rfl ?_
    first
    | (
      refine k _ ?_ (((Fi.refl _ _).wi (FS_x (by omega) (by omega))).wi (FS_x (by omega) (by omega)))
      unfold yfS
      rw [h46]
      refine ⟨⟨?_, ?_, ?_⟩, ⟨?_, ?_, ?_⟩, ⟨?_, fun j hj => ?_⟩, fun j hj => ?_, fun j hj he => ?_, fun j hj => ⟨?_, ?_, ?_, ?_⟩⟩
      · (repeat (first | rw [wi_n (Or.inl (by omega))] | rw [wi_n (Or.inr (by omega))] | rw [wi_s] | rw [wr_i] | rw [cp_n (by omega)] | rw [cp_0 (by omega)])); exact q0
      · (repeat (first | rw [wi_n (Or.inl (by omega))] | rw [wi_n (Or.inr (by omega))] | rw [wi_s] | rw [wr_i] | rw [cp_n (by omega)] | rw [cp_0 (by omega)])); exact q1
      · (repeat (first | rw [wi_r])); exact q2
      · (repeat (first | rw [wi_n (Or.inl (by omega))] | rw [wi_n (Or.inr (by omega))] | rw [wi_s] | rw [wr_i] | rw [cp_n (by omega)] | rw [cp_0 (by omega)])); exact q3
      · (repeat (first | rw [wi_n (Or.inl (by omega))] | rw [wi_n (Or.inr (by omega))] | rw [wi_s] | rw [wr_i] | rw [cp_n (by omega)] | rw [cp_0 (by omega)])); exact q4
      · (repeat (first | rw [wi_n (Or.inl (by omega))] | rw [wi_n (Or.inr (by omega))] | rw [wi_s] | rw [wr_i] | rw [cp_n (by omega)] | rw [cp_0 (by omega)])); exact q5
      · (repeat (first | rw [wi_n (Or.inl (by omega))] | rw [wi_n (Or.inr (by omega))] | rw [wi_s] | rw [wr_i] | rw [cp_n (by omega)] | rw [cp_0 (by omega)])); exact q7
      · (repeat (first | rw [wi_n (Or.inl (by omega))] | rw [wi_n (Or.inr (by omega))] | rw [wi_s] | rw [wr_i] | rw [cp_n (by omega)] | rw [cp_0 (by omega)])); exact q8 j hj
      · (repeat (first | rw [wi_n (Or.inl (by omega))] | rw [wi_n (Or.inr (by omega))] | rw [wi_s] | rw [wr_i] | rw [cp_n (by omega)] | rw [cp_0 (by omega)])); exact q9 j (by exact hj)
      · (repeat (first | rw [wi_n (Or.inl (by omega))] | rw [wi_n (Or.inr (by omega))] | rw [wi_s] | rw [wr_i] | rw [cp_n (by omega)] | rw [cp_0 (by omega)])); exact qa j hj he
      · (repeat (first | rw [wi_n (Or.inl (by omega))] | rw [wi_n (Or.inr (by omega))] | rw [wi_s] | rw [wr_i] | rw [cp_n (by omega)] | rw [cp_0 (by omega)])); exact (qb j hj).1
      · (repeat (first | rw [wi_n (Or.inl (by omega))] | rw [wi_n (Or.inr (by omega))] | rw [wi_s] | rw [wr_i] | rw [cp_n (by omega)] | rw [cp_0 (by omega)])); exact (qb j hj).2.1
      · show _ = yu (gf S) i (gf S i + 1) j
        by_cases e : j = i
        · subst e; rw [yu_s]; (repeat (first | rw [wi_n (Or.inl (by omega))] | rw [wi_n (Or.inr (by omega))] | rw [wi_s] | rw [wr_i] | rw [cp_n (by omega)] | rw [cp_0 (by omega)])); try rfl
        · rw [yu_n e]; (repeat (first | rw [wi_n (Or.inl (by omega))] | rw [wi_n (Or.inr (by omega))] | rw [wi_s] | rw [wr_i] | rw [cp_n (by omega)] | rw [cp_0 (by omega)])); exact (qb j hj).2.2.1
      · show _ = yu (gw S) i r j
        by_cases e : j = i
        · subst e; rw [yu_s]; (repeat (first | rw [wi_n (Or.inl (by omega))] | rw [wi_n (Or.inr (by omega))] | rw [wi_s] | rw [wr_i] | rw [cp_n (by omega)] | rw [cp_0 (by omega)])); try rfl
        · rw [yu_n e]; (repeat (first | rw [wi_n (Or.inl (by omega))] | rw [wi_n (Or.inr (by omega))] | rw [wi_s] | rw [wr_i] | rw [cp_n (by omega)] | rw [cp_0 (by omega)])); exact (qb j hj).2.2.2)
    | (
      refine k _ ?_ ((((Fi.refl _ _).wi (FS_x (by omega) (by omega))).wi (FS_x (by omega) (by omega))).wi FS_0)
      unfold yfS
      rw [h46]
      refine ⟨⟨?_, ?_, ?_⟩, ⟨?_, ?_, ?_⟩, ⟨?_, fun j hj => ?_⟩, fun j hj => ?_, fun j hj he => ?_, fun j hj => ⟨?_, ?_, ?_, ?_⟩⟩
      · exact (show _ = nI 2 by (repeat (first | rw [wi_n (Or.inl (by omega))] | rw [wi_n (Or.inr (by omega))] | rw [wi_s] | rw [wr_i] | rw [cp_n (by omega)] | rw [cp_0 (by omega)])))
      · (repeat (first | rw [wi_n (Or.inl (by omega))] | rw [wi_n (Or.inr (by omega))] | rw [wi_s] | rw [wr_i] | rw [cp_n (by omega)] | rw [cp_0 (by omega)])); exact (q1.trans (by show txt S = txt (2, S.2); unfold txt; rw [if_neg hg, if_neg (by exact (by decide : ¬ (2 : Nat) = 0))]; rfl))
      · (repeat (first | rw [wi_r])); exact (q2.trans (by show prg S = prg (2, S.2); unfold prg; rw [if_neg hg, if_neg (by exact (by decide : ¬ (2 : Nat) = 0))]; rfl))
      · (repeat (first | rw [wi_n (Or.inl (by omega))] | rw [wi_n (Or.inr (by omega))] | rw [wi_s] | rw [wr_i] | rw [cp_n (by omega)] | rw [cp_0 (by omega)])); exact q3
      · (repeat (first | rw [wi_n (Or.inl (by omega))] | rw [wi_n (Or.inr (by omega))] | rw [wi_s] | rw [wr_i] | rw [cp_n (by omega)] | rw [cp_0 (by omega)])); exact q4
      · (repeat (first | rw [wi_n (Or.inl (by omega))] | rw [wi_n (Or.inr (by omega))] | rw [wi_s] | rw [wr_i] | rw [cp_n (by omega)] | rw [cp_0 (by omega)])); exact q5
      · (repeat (first | rw [wi_n (Or.inl (by omega))] | rw [wi_n (Or.inr (by omega))] | rw [wi_s] | rw [wr_i] | rw [cp_n (by omega)] | rw [cp_0 (by omega)])); exact q7
      · (repeat (first | rw [wi_n (Or.inl (by omega))] | rw [wi_n (Or.inr (by omega))] | rw [wi_s] | rw [wr_i] | rw [cp_n (by omega)] | rw [cp_0 (by omega)])); exact q8 j hj
      · (repeat (first | rw [wi_n (Or.inl (by omega))] | rw [wi_n (Or.inr (by omega))] | rw [wi_s] | rw [wr_i] | rw [cp_n (by omega)] | rw [cp_0 (by omega)])); exact q9 j (by unfold gz; rw [if_neg hg]; unfold gz at hj; rw [if_neg (by exact (by decide : ¬ (2 : Nat) = 0))] at hj; exact hj)
      · (repeat (first | rw [wi_n (Or.inl (by omega))] | rw [wi_n (Or.inr (by omega))] | rw [wi_s] | rw [wr_i] | rw [cp_n (by omega)] | rw [cp_0 (by omega)])); exact qa j hj he
      · (repeat (first | rw [wi_n (Or.inl (by omega))] | rw [wi_n (Or.inr (by omega))] | rw [wi_s] | rw [wr_i] | rw [cp_n (by omega)] | rw [cp_0 (by omega)])); exact (qb j hj).1
      · (repeat (first | rw [wi_n (Or.inl (by omega))] | rw [wi_n (Or.inr (by omega))] | rw [wi_s] | rw [wr_i] | rw [cp_n (by omega)] | rw [cp_0 (by omega)])); exact (qb j hj).2.1
      · show _ = yu (gf S) i (gf S i + 1) j
        by_cases e : j = i
        · subst e; rw [yu_s]; (repeat (first | rw [wi_n (Or.inl (by omega))] | rw [wi_n (Or.inr (by omega))] | rw [wi_s] | rw [wr_i] | rw [cp_n (by omega)] | rw [cp_0 (by omega)])); try rfl
        · rw [yu_n e]; (repeat (first | rw [wi_n (Or.inl (by omega))] | rw [wi_n (Or.inr (by omega))] | rw [wi_s] | rw [wr_i] | rw [cp_n (by omega)] | rw [cp_0 (by omega)])); exact (qb j hj).2.2.1
      · show _ = yu (gw S) i r j
        by_cases e : j = i
        · subst e; rw [yu_s]; (repeat (first | rw [wi_n (Or.inl (by omega))] | rw [wi_n (Or.inr (by omega))] | rw [wi_s] | rw [wr_i] | rw [cp_n (by omega)] | rw [cp_0 (by omega)])); try rfl
        · rw [yu_n e]; (repeat (first | rw [wi_n (Or.inl (by omega))] | rw [wi_n (Or.inr (by omega))] | rw [wi_s] | rw [wr_i] | rw [cp_n (by omega)] | rw [cp_0 (by omega)])); exact (qb j hj).2.2.2)
theorem d64_0 : decode (zB 64) 0 = .ok (.aload_n 0, 1) := (congrArg (fun c => decode c 0) zeq64).trans (by decide +kernel)
theorem d64_1 : decode (zB 64) 1 = .ok (.getfield 28, 3) := (congrArg (fun c => decode c 1) zeq64).trans (by decide +kernel)
theorem d64_4 : decode (zB 64) 4 = .ok (.iconst 0, 1) := (congrArg (fun c => decode c 4) zeq64).trans (by decide +kernel)
theorem d64_5 : decode (zB 64) 5 = .ok (.invokestatic 56, 3) := (congrArg (fun c => decode c 5) zeq64).trans (by decide +kernel)
theorem d64_8 : decode (zB 64) 8 = .ok (.aload_n 0, 1) := (congrArg (fun c => decode c 8) zeq64).trans (by decide +kernel)
theorem d64_9 : decode (zB 64) 9 = .ok (.getfield 31, 3) := (congrArg (fun c => decode c 9) zeq64).trans (by decide +kernel)
theorem d64_12 : decode (zB 64) 12 = .ok (.iconst 0, 1) := (congrArg (fun c => decode c 12) zeq64).trans (by decide +kernel)
theorem d64_13 : decode (zB 64) 13 = .ok (.invokestatic 56, 3) := (congrArg (fun c => decode c 13) zeq64).trans (by decide +kernel)
theorem d64_16 : decode (zB 64) 16 = .ok (.return_, 1) := (congrArg (fun c => decode c 16) zeq64).trans (by decide +kernel)
theorem c64 {d : Nat} {M : zM} {Q : Option Value → zM → Prop} {a : Nat} (hs : SSg M a) (k : ∀ M', (∀ j, j < 12 → zi M' (a + 4) j = nI 0 ∧ zi M' (a + 5) j = nI 0) → Fi (fun b _ => b = a + 4 ∨ b = a + 5) M M' → Q none M') : qC (d + 2) 64 [.ref a] M Q := by
  refine qC_of (by decide) (Nat.le_of_ble_eq_true rfl) ?_
  refine q_aload_n d64_0 rfl ?_
  refine q_getr (c := 5) (f := 10) d64_1 ⟨rfl, rfl⟩ hs.1 (hs.2.2.1 2 (by decide)) ?_
  refine q_iconstN (z := 0) d64_4 ?_
  refine q_s2 d64_5 (Or.inl rfl) rfl (Nat.le_of_ble_eq_true rfl) (c6 (hs.2.2.2 3 (by decide)) (by decide) (fun M1 v1 f1 => ?_))
  have hs1 := SSg_fi hs f1
  refine q_aload_n d64_8 rfl ?_
  refine q_getr (c := 5) (f := 11) d64_9 ⟨rfl, rfl⟩ hs1.1 (hs1.2.2.1 3 (by decide)) ?_
  refine q_iconstN (z := 0) d64_12 ?_
  refine q_s2 d64_13 (Or.inl rfl) rfl (Nat.le_of_ble_eq_true rfl) (c6 (hs1.2.2.2 4 (by decide)) (by decide) (fun M2 v2 f2 => ?_))
  refine q_ret d64_16 rfl ?_
  exact k _ (fun j hj => ⟨(f2.1 _ _ (by omega)).trans (v1 j hj), v2 j hj⟩) ((f1.mono (fun b _ q => by omega)).trans (f2.mono (fun b _ q => by omega)))
theorem d63_0 : decode (zB 63) 0 = .ok (.aload_n 0, 1) := (congrArg (fun c => decode c 0) zeq63).trans (by decide +kernel)
theorem d63_1 : decode (zB 63) 1 = .ok (.iconst 0, 1) := (congrArg (fun c => decode c 1) zeq63).trans (by decide +kernel)
theorem d63_2 : decode (zB 63) 2 = .ok (.putfield 9, 3) := (congrArg (fun c => decode c 2) zeq63).trans (by decide +kernel)
theorem d63_5 : decode (zB 63) 5 = .ok (.aload_n 0, 1) := (congrArg (fun c => decode c 5) zeq63).trans (by decide +kernel)
theorem d63_6 : decode (zB 63) 6 = .ok (.iconst (-1), 1) := (congrArg (fun c => decode c 6) zeq63).trans (by decide +kernel)
theorem d63_7 : decode (zB 63) 7 = .ok (.putfield 15, 3) := (congrArg (fun c => decode c 7) zeq63).trans (by decide +kernel)
theorem d63_10 : decode (zB 63) 10 = .ok (.aload_n 0, 1) := (congrArg (fun c => decode c 10) zeq63).trans (by decide +kernel)
theorem d63_11 : decode (zB 63) 11 = .ok (.aconst_null, 1) := (congrArg (fun c => decode c 11) zeq63).trans (by decide +kernel)
theorem d63_12 : decode (zB 63) 12 = .ok (.putfield 40, 3) := (congrArg (fun c => decode c 12) zeq63).trans (by decide +kernel)
theorem d63_15 : decode (zB 63) 15 = .ok (.aload_n 0, 1) := (congrArg (fun c => decode c 15) zeq63).trans (by decide +kernel)
theorem d63_16 : decode (zB 63) 16 = .ok (.iconst 0, 1) := (congrArg (fun c => decode c 16) zeq63).trans (by decide +kernel)
theorem d63_17 : decode (zB 63) 17 = .ok (.putfield 44, 3) := (congrArg (fun c => decode c 17) zeq63).trans (by decide +kernel)
theorem d63_20 : decode (zB 63) 20 = .ok (.aload_n 0, 1) := (congrArg (fun c => decode c 20) zeq63).trans (by decide +kernel)
theorem d63_21 : decode (zB 63) 21 = .ok (.iconst 0, 1) := (congrArg (fun c => decode c 21) zeq63).trans (by decide +kernel)
theorem d63_22 : decode (zB 63) 22 = .ok (.putfield 47, 3) := (congrArg (fun c => decode c 22) zeq63).trans (by decide +kernel)
theorem d63_25 : decode (zB 63) 25 = .ok (.aload_n 0, 1) := (congrArg (fun c => decode c 25) zeq63).trans (by decide +kernel)
theorem d63_26 : decode (zB 63) 26 = .ok (.iconst 0, 1) := (congrArg (fun c => decode c 26) zeq63).trans (by decide +kernel)
theorem d63_27 : decode (zB 63) 27 = .ok (.putfield 50, 3) := (congrArg (fun c => decode c 27) zeq63).trans (by decide +kernel)
theorem d63_30 : decode (zB 63) 30 = .ok (.aload_n 0, 1) := (congrArg (fun c => decode c 30) zeq63).trans (by decide +kernel)
theorem d63_31 : decode (zB 63) 31 = .ok (.iconst 0, 1) := (congrArg (fun c => decode c 31) zeq63).trans (by decide +kernel)
theorem d63_32 : decode (zB 63) 32 = .ok (.putfield 53, 3) := (congrArg (fun c => decode c 32) zeq63).trans (by decide +kernel)
theorem d63_35 : decode (zB 63) 35 = .ok (.aload_n 0, 1) := (congrArg (fun c => decode c 35) zeq63).trans (by decide +kernel)
theorem d63_36 : decode (zB 63) 36 = .ok (.getfield 34, 3) := (congrArg (fun c => decode c 36) zeq63).trans (by decide +kernel)
theorem d63_39 : decode (zB 63) 39 = .ok (.iconst 0, 1) := (congrArg (fun c => decode c 39) zeq63).trans (by decide +kernel)
theorem d63_40 : decode (zB 63) 40 = .ok (.invokestatic 56, 3) := (congrArg (fun c => decode c 40) zeq63).trans (by decide +kernel)
theorem d63_43 : decode (zB 63) 43 = .ok (.aload_n 0, 1) := (congrArg (fun c => decode c 43) zeq63).trans (by decide +kernel)
theorem d63_44 : decode (zB 63) 44 = .ok (.getfield 37, 3) := (congrArg (fun c => decode c 44) zeq63).trans (by decide +kernel)
theorem d63_47 : decode (zB 63) 47 = .ok (.iconst 0, 1) := (congrArg (fun c => decode c 47) zeq63).trans (by decide +kernel)
theorem d63_48 : decode (zB 63) 48 = .ok (.invokestatic 56, 3) := (congrArg (fun c => decode c 48) zeq63).trans (by decide +kernel)
theorem d63_51 : decode (zB 63) 51 = .ok (.aload_n 0, 1) := (congrArg (fun c => decode c 51) zeq63).trans (by decide +kernel)
theorem d63_52 : decode (zB 63) 52 = .ok (.invokevirtual 62, 3) := (congrArg (fun c => decode c 52) zeq63).trans (by decide +kernel)
theorem d63_55 : decode (zB 63) 55 = .ok (.return_, 1) := (congrArg (fun c => decode c 55) zeq63).trans (by decide +kernel)
theorem c63 {d : Nat} {M : zM} {Q : Option Value → zM → Prop} {a : Nat} {T : Nat → yT} {nm : Nat → Int32} (hS : SC M) (ha : zSa a) (k : ∀ M', RS M' a T nm yS0 → Fr (FS a) M M' → SC M' → Q none M') : qC (d + 3) 63 [.ref a] M Q := by
  have hs := hS.sg ha
  have hal := ha.l
  refine qC_of (by decide) (Nat.le_of_ble_eq_true rfl) ?_
  refine q_aload_n d63_0 rfl ?_
  refine q_iconstN (z := 0) d63_1 ?_
  refine q_puti (c := 5) (f := 0) d63_2 ⟨rfl, rfl, by decide⟩ hs.1 ?_
  refine q_aload_n d63_5 rfl ?_
  refine q_iconst (x := (-1)) d63_6 rfl ?_
  refine q_puti (c := 5) (f := 1) d63_7 ⟨rfl, rfl, by decide⟩ hs.1 ?_
  refine q_aload_n d63_10 rfl ?_
  refine q_null d63_11 ?_
  refine q_putr (r := none) (c := 5) (f := 2) d63_12 ⟨rfl, rfl, by decide⟩ hs.1 ?_
  refine q_aload_n d63_15 rfl ?_
  refine q_iconstN (z := 0) d63_16 ?_
  refine q_puti (c := 5) (f := 3) d63_17 ⟨rfl, rfl, by decide⟩ hs.1 ?_
  refine q_aload_n d63_20 rfl ?_
  refine q_iconstN (z := 0) d63_21 ?_
  refine q_puti (c := 5) (f := 4) d63_22 ⟨rfl, rfl, by decide⟩ hs.1 ?_
  refine q_aload_n d63_25 rfl ?_
  refine q_iconstN (z := 0) d63_26 ?_
  refine q_puti (c := 5) (f := 5) d63_27 ⟨rfl, rfl, by decide⟩ hs.1 ?_
  refine q_aload_n d63_30 rfl ?_
  refine q_iconstN (z := 0) d63_31 ?_
  refine q_puti (c := 5) (f := 7) d63_32 ⟨rfl, rfl, by decide⟩ hs.1 ?_
  obtain ⟨M1, hM1⟩ : ∃ M1, M1 = zwi (zwi (zwi (zwi (zwr (zwi (zwi M a 0 (nI 0)) a 1 (-1)) a 2 none) a 3 (nI 0)) a 4 (nI 0)) a 5 (nI 0)) a 7 (nI 0) := ⟨_, rfl⟩
  rw [← hM1]
  have hs1 : SSg M1 a := by subst hM1; exact SSg_wr (M := zwi (zwi M a 0 (nI 0)) a 1 (-1)) hs
  have e0 : zi M1 a 0 = nI 0 := by subst hM1; (repeat (first | rw [wi_n (Or.inl (by omega))] | rw [wi_n (Or.inr (by omega))] | rw [wi_s] | rw [wr_i] | rw [cp_n (by omega)] | rw [cp_0 (by omega)]))
  have e1 : zi M1 a 1 = -1 := by subst hM1; (repeat (first | rw [wi_n (Or.inl (by omega))] | rw [wi_n (Or.inr (by omega))] | rw [wi_s] | rw [wr_i] | rw [cp_n (by omega)] | rw [cp_0 (by omega)]))
  have e2 : zr M1 a 2 = none := by subst hM1; exact wr_s
  have e3 : zi M1 a 3 = nI 0 := by subst hM1; (repeat (first | rw [wi_n (Or.inl (by omega))] | rw [wi_n (Or.inr (by omega))] | rw [wi_s] | rw [wr_i] | rw [cp_n (by omega)] | rw [cp_0 (by omega)]))
  have e4 : zi M1 a 4 = nI 0 := by subst hM1; (repeat (first | rw [wi_n (Or.inl (by omega))] | rw [wi_n (Or.inr (by omega))] | rw [wi_s] | rw [wr_i] | rw [cp_n (by omega)] | rw [cp_0 (by omega)]))
  have e5 : zi M1 a 5 = nI 0 := by subst hM1; (repeat (first | rw [wi_n (Or.inl (by omega))] | rw [wi_n (Or.inr (by omega))] | rw [wi_s] | rw [wr_i] | rw [cp_n (by omega)] | rw [cp_0 (by omega)]))
  have e7 : zi M1 a 7 = nI 0 := by subst hM1; (repeat (first | rw [wi_n (Or.inl (by omega))] | rw [wi_n (Or.inr (by omega))] | rw [wi_s] | rw [wr_i] | rw [cp_n (by omega)] | rw [cp_0 (by omega)]))
  have fr1 : Fr (FS a) M M1 := by subst hM1; exact (((((((Fr.refl _ _).wi FS_0).wi FS_0).wr FS_0).wi FS_0).wi FS_0).wi FS_0).wi FS_0
  have sc1 : SC M1 := by subst hM1; exact SC_wi (SC_wi (SC_wi (SC_wi (SC_wr (SC_wi (SC_wi hS (by omega)) (by omega)) ha.z) (by omega)) (by omega)) (by omega)) (by omega)
  refine q_aload_n d63_35 rfl ?_
  refine q_getr (c := 5) (f := 12) d63_36 ⟨rfl, rfl⟩ hs1.1 (hs1.2.2.1 4 (by decide)) ?_
  refine q_iconstN (z := 0) d63_39 ?_
  refine q_s2 d63_40 (Or.inl rfl) rfl (Nat.le_of_ble_eq_true rfl) (c6 (hs1.2.2.2 5 (by decide)) (by decide) (fun M2 v2 f2 => ?_))
  have hs2 := SSg_fi hs1 f2
  refine q_aload_n d63_43 rfl ?_
  refine q_getr (c := 5) (f := 13) d63_44 ⟨rfl, rfl⟩ hs2.1 (hs2.2.2.1 5 (by decide)) ?_
  refine q_iconstN (z := 0) d63_47 ?_
  refine q_s2 d63_48 (Or.inl rfl) rfl (Nat.le_of_ble_eq_true rfl) (c6 (hs2.2.2.2 6 (by decide)) (by decide) (fun M3 v3 f3 => ?_))
  have hs3 := SSg_fi hs2 f3
  refine q_aload_n d63_51 rfl ?_
  refine q_v0 d63_52 rfl rfl hs3.1 (Nat.le_of_ble_eq_true rfl) (c64 hs3 (fun M4 v4 f4 => ?_))
  refine q_ret d63_55 rfl ?_
  have g : ∀ b j, b ≠ a + 4 → b ≠ a + 5 → b ≠ a + 6 → b ≠ a + 7 → zi M4 b j = zi M1 b j := fun b j n1 n2 n3 n4 => ((f4.1 b j (by omega)).trans (f3.1 b j (by omega))).trans (f2.1 b j (by omega))
  refine k _ ⟨⟨(g _ _ (by omega) (by omega) (by omega) (by omega)).trans e0, (g _ _ (by omega) (by omega) (by omega) (by omega)).trans e1, (((f4.r _ _).trans (f3.r _ _)).trans (f2.r _ _)).trans e2⟩, ⟨(g _ _ (by omega) (by omega) (by omega) (by omega)).trans e3, (g _ _ (by omega) (by omega) (by omega) (by omega)).trans e4, (g _ _ (by omega) (by omega) (by omega) (by omega)).trans e5⟩, ⟨(g _ _ (by omega) (by omega) (by omega) (by omega)).trans e7, fun j hj => absurd hj (Nat.not_lt_zero _)⟩, fun j hj => absurd hj (Nat.not_lt_zero _), fun j hj he => absurd he (show ¬ (0 : Nat) = 1 by decide), fun j hj => ⟨(v4 j hj).1, (v4 j hj).2, ?_, ?_⟩⟩ ?_ ?_
  · rw [f4.1 _ _ (by omega), f3.1 _ _ (by omega)]; exact v2 j hj
  · rw [f4.1 _ _ (by omega)]; exact v3 j hj
  · exact fr1.trans (((f2.mono (fun b _ q => ⟨by omega, by omega⟩)).trans (f3.mono (fun b _ q => ⟨by omega, by omega⟩))).trans (f4.mono (fun b _ q => ⟨by omega, by omega⟩))).fr
  · exact f4.sc (f3.sc (f2.sc sc1 (fun b j hb q => by omega)) (fun b j hb q => by omega)) (fun b j hb q => by omega)
theorem d62_0 : decode (zB 62) 0 = .ok (.aload_n 1, 1) := (congrArg (fun c => decode c 0) zeq62).trans (by decide +kernel)
theorem d62_1 : decode (zB 62) 1 = .ok (.ifnonnull 4, 3) := (congrArg (fun c => decode c 1) zeq62).trans (by decide +kernel)
theorem d62_4 : decode (zB 62) 4 = .ok (.return_, 1) := (congrArg (fun c => decode c 4) zeq62).trans (by decide +kernel)
theorem d62_5 : decode (zB 62) 5 = .ok (.aload_n 0, 1) := (congrArg (fun c => decode c 5) zeq62).trans (by decide +kernel)
theorem d62_6 : decode (zB 62) 6 = .ok (.invokevirtual 65, 3) := (congrArg (fun c => decode c 6) zeq62).trans (by decide +kernel)
theorem d62_9 : decode (zB 62) 9 = .ok (.aload_n 0, 1) := (congrArg (fun c => decode c 9) zeq62).trans (by decide +kernel)
theorem d62_10 : decode (zB 62) 10 = .ok (.iconst 1, 1) := (congrArg (fun c => decode c 10) zeq62).trans (by decide +kernel)
theorem d62_11 : decode (zB 62) 11 = .ok (.putfield 9, 3) := (congrArg (fun c => decode c 11) zeq62).trans (by decide +kernel)
theorem d62_14 : decode (zB 62) 14 = .ok (.aload_n 0, 1) := (congrArg (fun c => decode c 14) zeq62).trans (by decide +kernel)
theorem d62_15 : decode (zB 62) 15 = .ok (.iload_n 2, 1) := (congrArg (fun c => decode c 15) zeq62).trans (by decide +kernel)
theorem d62_16 : decode (zB 62) 16 = .ok (.putfield 15, 3) := (congrArg (fun c => decode c 16) zeq62).trans (by decide +kernel)
theorem d62_19 : decode (zB 62) 19 = .ok (.aload_n 0, 1) := (congrArg (fun c => decode c 19) zeq62).trans (by decide +kernel)
theorem d62_20 : decode (zB 62) 20 = .ok (.aload_n 1, 1) := (congrArg (fun c => decode c 20) zeq62).trans (by decide +kernel)
theorem d62_21 : decode (zB 62) 21 = .ok (.putfield 40, 3) := (congrArg (fun c => decode c 21) zeq62).trans (by decide +kernel)
theorem d62_24 : decode (zB 62) 24 = .ok (.aload_n 1, 1) := (congrArg (fun c => decode c 24) zeq62).trans (by decide +kernel)
theorem d62_25 : decode (zB 62) 25 = .ok (.getfield 68, 3) := (congrArg (fun c => decode c 25) zeq62).trans (by decide +kernel)
theorem d62_28 : decode (zB 62) 28 = .ok (.iconst 0, 1) := (congrArg (fun c => decode c 28) zeq62).trans (by decide +kernel)
theorem d62_29 : decode (zB 62) 29 = .ok (.aload_n 0, 1) := (congrArg (fun c => decode c 29) zeq62).trans (by decide +kernel)
theorem d62_30 : decode (zB 62) 30 = .ok (.getfield 22, 3) := (congrArg (fun c => decode c 30) zeq62).trans (by decide +kernel)
theorem d62_33 : decode (zB 62) 33 = .ok (.iconst 0, 1) := (congrArg (fun c => decode c 33) zeq62).trans (by decide +kernel)
theorem d62_34 : decode (zB 62) 34 = .ok (.bipush 12, 2) := (congrArg (fun c => decode c 34) zeq62).trans (by decide +kernel)
theorem d62_36 : decode (zB 62) 36 = .ok (.invokestatic 71, 3) := (congrArg (fun c => decode c 36) zeq62).trans (by decide +kernel)
theorem d62_39 : decode (zB 62) 39 = .ok (.return_, 1) := (congrArg (fun c => decode c 39) zeq62).trans (by decide +kernel)
theorem c62 {d : Nat} {M : zM} {Q : Option Value → zM → Prop} {a t : Nat} {T : Nat → yT} {nm : Nat → Int32} (hS : SC M) (ha : zSa a) (ht : t < 6) (hr : RP M (20 + 7 * t) (T t)) (hn : tn (T t) ≤ 12) (hm : ∀ j, j < tn (T t) → nm j = tu (T t) j) (k : ∀ M', RS M' a T nm (ySt t) → Fr (FS a) M M' → SC M' → Q none M') : qC (d + 4) 62 [.ref a, .ref (20 + 7 * t), .int (nI t)] M Q := by
  have hs := hS.sg ha
  have hal := ha.l
  have hp := hS.pr ht
  refine qC_of (by decide) (Nat.le_of_ble_eq_true rfl) ?_
  refine q_aload_n d62_0 rfl ?_
  refine q_ifnonnull (r := some _) 5 d62_1 (by decide) (fun _ => ?_) (fun q => absurd q (Option.some_ne_none _))
  refine q_aload_n d62_5 rfl ?_
  refine q_v0 d62_6 rfl rfl hs.1 (Nat.le_of_ble_eq_true rfl) (c63 (T := T) (nm := nm) hS ha (fun M1 hR f1 hS1 => ?_))
  have hs1 := hS1.sg ha
  have hp1 := hS1.pr ht
  have hr1 := RP_fr hr f1 (fun b j h1 h2 q => by have := q.1; omega)
  obtain ⟨⟨q0, q1, q2⟩, ⟨q3, q4, q5⟩, ⟨q7, q8⟩, q9, qa, qb⟩ := hR
  refine q_aload_n d62_9 rfl ?_
  refine q_iconstN (z := 1) d62_10 ?_
  refine q_puti (c := 5) (f := 0) d62_11 ⟨rfl, rfl, by decide⟩ hs1.1 ?_
  refine q_aload_n d62_14 rfl ?_
  refine q_iload_n d62_15 rfl ?_
  refine q_puti (c := 5) (f := 1) d62_16 ⟨rfl, rfl, by decide⟩ hs1.1 ?_
  refine q_aload_n d62_19 rfl ?_
  refine q_aload_n d62_20 rfl ?_
  refine q_putr (r := some ((20 + 7 * t))) (c := 5) (f := 2) d62_21 ⟨rfl, rfl, by decide⟩ hs1.1 ?_
  refine q_aload_n d62_24 rfl ?_
  refine q_getr (c := 1) (f := 3) d62_25 ⟨rfl, rfl⟩ hp1.1 (Eq.trans (by (repeat (first | rw [wi_r] | rw [cp_r] | rw [wr_n (by omega)]))) (hp1.2 3 (by decide)).1) ?_
  refine q_iconstN (z := 0) d62_28 ?_
  refine q_aload_n d62_29 rfl ?_
  refine q_getr (c := 5) (f := 8) d62_30 ⟨rfl, rfl⟩ hs1.1 (Eq.trans (by (repeat (first | rw [wi_r] | rw [cp_r] | rw [wr_n (by omega)]))) (hs1.2.2.1 0 (by decide))) ?_
  refine q_iconstN (z := 0) d62_33 ?_
  refine q_bipush (x := nI 12) d62_34 rfl ?_
  refine n_copy d62_36 rfl (hp1.2 3 (by decide)).2 (hs1.2.2.2 1 (by decide)) (by decide) (by decide) (by omega) (by omega) (Nat.le_of_ble_eq_true rfl) ?_
  refine q_ret d62_39 rfl ?_
  refine k _ ⟨⟨?_, ?_, ?_⟩, ⟨?_, ?_, ?_⟩, ⟨?_, fun j hj => absurd hj (Nat.not_lt_zero _)⟩, fun j hj => ?_, fun j hj he => absurd he (show ¬ (0 : Nat) = 1 by decide), fun j hj => ⟨?_, ?_, ?_, ?_⟩⟩ (f1.trans ((((Fr.refl _ _).wi FS_0).wi FS_0).wr FS_0 |>.cp (fun j _ _ => FS_x (by omega) (by omega)))) (SC_cp (SC_wr (SC_wi (SC_wi hS1 (by omega)) (by omega)) ha.z) (by omega))
  · (repeat (first | rw [wi_n (Or.inl (by omega))] | rw [wi_n (Or.inr (by omega))] | rw [wi_s] | rw [wr_i] | rw [cp_n (by omega)] | rw [cp_0 (by omega)])); try rfl
  · (repeat (first | rw [wi_n (Or.inl (by omega))] | rw [wi_n (Or.inr (by omega))] | rw [wi_s] | rw [wr_i] | rw [cp_n (by omega)] | rw [cp_0 (by omega)])); try rfl
  · (repeat (first | rw [cp_r])); exact wr_s
  · (repeat (first | rw [wi_n (Or.inl (by omega))] | rw [wi_n (Or.inr (by omega))] | rw [wi_s] | rw [wr_i] | rw [cp_n (by omega)] | rw [cp_0 (by omega)])); exact q3
  · (repeat (first | rw [wi_n (Or.inl (by omega))] | rw [wi_n (Or.inr (by omega))] | rw [wi_s] | rw [wr_i] | rw [cp_n (by omega)] | rw [cp_0 (by omega)])); exact q4
  · (repeat (first | rw [wi_n (Or.inl (by omega))] | rw [wi_n (Or.inr (by omega))] | rw [wi_s] | rw [wr_i] | rw [cp_n (by omega)] | rw [cp_0 (by omega)])); exact q5
  · (repeat (first | rw [wi_n (Or.inl (by omega))] | rw [wi_n (Or.inr (by omega))] | rw [wi_s] | rw [wr_i] | rw [cp_n (by omega)] | rw [cp_0 (by omega)])); exact q7
  · have hj : j < tn (T t) := hj
    rw [hm j hj]; (repeat (first | rw [wi_n (Or.inl (by omega))] | rw [wi_n (Or.inr (by omega))] | rw [wi_s] | rw [wr_i] | rw [cp_n (by omega)] | rw [cp_0 (by omega)])); exact (hr1.2.2 j hj).2.2.2.1
  · (repeat (first | rw [wi_n (Or.inl (by omega))] | rw [wi_n (Or.inr (by omega))] | rw [wi_s] | rw [wr_i] | rw [cp_n (by omega)] | rw [cp_0 (by omega)])); exact (qb j hj).1
  · (repeat (first | rw [wi_n (Or.inl (by omega))] | rw [wi_n (Or.inr (by omega))] | rw [wi_s] | rw [wr_i] | rw [cp_n (by omega)] | rw [cp_0 (by omega)])); exact (qb j hj).2.1
  · (repeat (first | rw [wi_n (Or.inl (by omega))] | rw [wi_n (Or.inr (by omega))] | rw [wi_s] | rw [wr_i] | rw [cp_n (by omega)] | rw [cp_0 (by omega)])); exact (qb j hj).2.2.1
  · (repeat (first | rw [wi_n (Or.inl (by omega))] | rw [wi_n (Or.inr (by omega))] | rw [wi_s] | rw [wr_i] | rw [cp_n (by omega)] | rw [cp_0 (by omega)])); exact (qb j hj).2.2.2
theorem d102_0 : decode (zB 102) 0 = .ok (.aload_n 0, 1) := (congrArg (fun c => decode c 0) zeq102).trans (by decide +kernel)
theorem d102_1 : decode (zB 102) 1 = .ok (.aload_n 1, 1) := (congrArg (fun c => decode c 1) zeq102).trans (by decide +kernel)
theorem d102_2 : decode (zB 102) 2 = .ok (.getfield 9, 3) := (congrArg (fun c => decode c 2) zeq102).trans (by decide +kernel)
theorem d102_5 : decode (zB 102) 5 = .ok (.putfield 9, 3) := (congrArg (fun c => decode c 5) zeq102).trans (by decide +kernel)
theorem d102_8 : decode (zB 102) 8 = .ok (.aload_n 0, 1) := (congrArg (fun c => decode c 8) zeq102).trans (by decide +kernel)
theorem d102_9 : decode (zB 102) 9 = .ok (.aload_n 1, 1) := (congrArg (fun c => decode c 9) zeq102).trans (by decide +kernel)
theorem d102_10 : decode (zB 102) 10 = .ok (.getfield 15, 3) := (congrArg (fun c => decode c 10) zeq102).trans (by decide +kernel)
theorem d102_13 : decode (zB 102) 13 = .ok (.putfield 15, 3) := (congrArg (fun c => decode c 13) zeq102).trans (by decide +kernel)
theorem d102_16 : decode (zB 102) 16 = .ok (.aload_n 0, 1) := (congrArg (fun c => decode c 16) zeq102).trans (by decide +kernel)
theorem d102_17 : decode (zB 102) 17 = .ok (.aload_n 1, 1) := (congrArg (fun c => decode c 17) zeq102).trans (by decide +kernel)
theorem d102_18 : decode (zB 102) 18 = .ok (.getfield 40, 3) := (congrArg (fun c => decode c 18) zeq102).trans (by decide +kernel)
theorem d102_21 : decode (zB 102) 21 = .ok (.putfield 40, 3) := (congrArg (fun c => decode c 21) zeq102).trans (by decide +kernel)
theorem d102_24 : decode (zB 102) 24 = .ok (.aload_n 0, 1) := (congrArg (fun c => decode c 24) zeq102).trans (by decide +kernel)
theorem d102_25 : decode (zB 102) 25 = .ok (.aload_n 1, 1) := (congrArg (fun c => decode c 25) zeq102).trans (by decide +kernel)
theorem d102_26 : decode (zB 102) 26 = .ok (.getfield 44, 3) := (congrArg (fun c => decode c 26) zeq102).trans (by decide +kernel)
theorem d102_29 : decode (zB 102) 29 = .ok (.putfield 44, 3) := (congrArg (fun c => decode c 29) zeq102).trans (by decide +kernel)
theorem d102_32 : decode (zB 102) 32 = .ok (.aload_n 0, 1) := (congrArg (fun c => decode c 32) zeq102).trans (by decide +kernel)
theorem d102_33 : decode (zB 102) 33 = .ok (.aload_n 1, 1) := (congrArg (fun c => decode c 33) zeq102).trans (by decide +kernel)
theorem d102_34 : decode (zB 102) 34 = .ok (.getfield 47, 3) := (congrArg (fun c => decode c 34) zeq102).trans (by decide +kernel)
theorem d102_37 : decode (zB 102) 37 = .ok (.putfield 47, 3) := (congrArg (fun c => decode c 37) zeq102).trans (by decide +kernel)
theorem d102_40 : decode (zB 102) 40 = .ok (.aload_n 0, 1) := (congrArg (fun c => decode c 40) zeq102).trans (by decide +kernel)
theorem d102_41 : decode (zB 102) 41 = .ok (.aload_n 1, 1) := (congrArg (fun c => decode c 41) zeq102).trans (by decide +kernel)
theorem d102_42 : decode (zB 102) 42 = .ok (.getfield 50, 3) := (congrArg (fun c => decode c 42) zeq102).trans (by decide +kernel)
theorem d102_45 : decode (zB 102) 45 = .ok (.putfield 50, 3) := (congrArg (fun c => decode c 45) zeq102).trans (by decide +kernel)
theorem d102_48 : decode (zB 102) 48 = .ok (.aload_n 0, 1) := (congrArg (fun c => decode c 48) zeq102).trans (by decide +kernel)
theorem d102_49 : decode (zB 102) 49 = .ok (.aload_n 1, 1) := (congrArg (fun c => decode c 49) zeq102).trans (by decide +kernel)
theorem d102_50 : decode (zB 102) 50 = .ok (.getfield 53, 3) := (congrArg (fun c => decode c 50) zeq102).trans (by decide +kernel)
theorem d102_53 : decode (zB 102) 53 = .ok (.putfield 53, 3) := (congrArg (fun c => decode c 53) zeq102).trans (by decide +kernel)
theorem d102_56 : decode (zB 102) 56 = .ok (.aload_n 1, 1) := (congrArg (fun c => decode c 56) zeq102).trans (by decide +kernel)
theorem d102_57 : decode (zB 102) 57 = .ok (.getfield 18, 3) := (congrArg (fun c => decode c 57) zeq102).trans (by decide +kernel)
theorem d102_60 : decode (zB 102) 60 = .ok (.iconst 0, 1) := (congrArg (fun c => decode c 60) zeq102).trans (by decide +kernel)
theorem d102_61 : decode (zB 102) 61 = .ok (.aload_n 0, 1) := (congrArg (fun c => decode c 61) zeq102).trans (by decide +kernel)
theorem d102_62 : decode (zB 102) 62 = .ok (.getfield 18, 3) := (congrArg (fun c => decode c 62) zeq102).trans (by decide +kernel)
theorem d102_65 : decode (zB 102) 65 = .ok (.iconst 0, 1) := (congrArg (fun c => decode c 65) zeq102).trans (by decide +kernel)
theorem d102_66 : decode (zB 102) 66 = .ok (.bipush 12, 2) := (congrArg (fun c => decode c 66) zeq102).trans (by decide +kernel)
theorem d102_68 : decode (zB 102) 68 = .ok (.invokestatic 71, 3) := (congrArg (fun c => decode c 68) zeq102).trans (by decide +kernel)
theorem d102_71 : decode (zB 102) 71 = .ok (.aload_n 1, 1) := (congrArg (fun c => decode c 71) zeq102).trans (by decide +kernel)
theorem d102_72 : decode (zB 102) 72 = .ok (.getfield 22, 3) := (congrArg (fun c => decode c 72) zeq102).trans (by decide +kernel)
theorem d102_75 : decode (zB 102) 75 = .ok (.iconst 0, 1) := (congrArg (fun c => decode c 75) zeq102).trans (by decide +kernel)
theorem d102_76 : decode (zB 102) 76 = .ok (.aload_n 0, 1) := (congrArg (fun c => decode c 76) zeq102).trans (by decide +kernel)
theorem d102_77 : decode (zB 102) 77 = .ok (.getfield 22, 3) := (congrArg (fun c => decode c 77) zeq102).trans (by decide +kernel)
theorem d102_80 : decode (zB 102) 80 = .ok (.iconst 0, 1) := (congrArg (fun c => decode c 80) zeq102).trans (by decide +kernel)
theorem d102_81 : decode (zB 102) 81 = .ok (.bipush 12, 2) := (congrArg (fun c => decode c 81) zeq102).trans (by decide +kernel)
theorem d102_83 : decode (zB 102) 83 = .ok (.invokestatic 71, 3) := (congrArg (fun c => decode c 83) zeq102).trans (by decide +kernel)
theorem d102_86 : decode (zB 102) 86 = .ok (.aload_n 1, 1) := (congrArg (fun c => decode c 86) zeq102).trans (by decide +kernel)
theorem d102_87 : decode (zB 102) 87 = .ok (.getfield 25, 3) := (congrArg (fun c => decode c 87) zeq102).trans (by decide +kernel)
theorem d102_90 : decode (zB 102) 90 = .ok (.iconst 0, 1) := (congrArg (fun c => decode c 90) zeq102).trans (by decide +kernel)
theorem d102_91 : decode (zB 102) 91 = .ok (.aload_n 0, 1) := (congrArg (fun c => decode c 91) zeq102).trans (by decide +kernel)
theorem d102_92 : decode (zB 102) 92 = .ok (.getfield 25, 3) := (congrArg (fun c => decode c 92) zeq102).trans (by decide +kernel)
theorem d102_95 : decode (zB 102) 95 = .ok (.iconst 0, 1) := (congrArg (fun c => decode c 95) zeq102).trans (by decide +kernel)
theorem d102_96 : decode (zB 102) 96 = .ok (.bipush 12, 2) := (congrArg (fun c => decode c 96) zeq102).trans (by decide +kernel)
theorem d102_98 : decode (zB 102) 98 = .ok (.invokestatic 71, 3) := (congrArg (fun c => decode c 98) zeq102).trans (by decide +kernel)
theorem d102_101 : decode (zB 102) 101 = .ok (.aload_n 1, 1) := (congrArg (fun c => decode c 101) zeq102).trans (by decide +kernel)
theorem d102_102 : decode (zB 102) 102 = .ok (.getfield 28, 3) := (congrArg (fun c => decode c 102) zeq102).trans (by decide +kernel)
theorem d102_105 : decode (zB 102) 105 = .ok (.iconst 0, 1) := (congrArg (fun c => decode c 105) zeq102).trans (by decide +kernel)
theorem d102_106 : decode (zB 102) 106 = .ok (.aload_n 0, 1) := (congrArg (fun c => decode c 106) zeq102).trans (by decide +kernel)
theorem d102_107 : decode (zB 102) 107 = .ok (.getfield 28, 3) := (congrArg (fun c => decode c 107) zeq102).trans (by decide +kernel)
theorem d102_110 : decode (zB 102) 110 = .ok (.iconst 0, 1) := (congrArg (fun c => decode c 110) zeq102).trans (by decide +kernel)
theorem d102_111 : decode (zB 102) 111 = .ok (.bipush 12, 2) := (congrArg (fun c => decode c 111) zeq102).trans (by decide +kernel)
theorem d102_113 : decode (zB 102) 113 = .ok (.invokestatic 71, 3) := (congrArg (fun c => decode c 113) zeq102).trans (by decide +kernel)
theorem d102_116 : decode (zB 102) 116 = .ok (.aload_n 1, 1) := (congrArg (fun c => decode c 116) zeq102).trans (by decide +kernel)
theorem d102_117 : decode (zB 102) 117 = .ok (.getfield 31, 3) := (congrArg (fun c => decode c 117) zeq102).trans (by decide +kernel)
theorem d102_120 : decode (zB 102) 120 = .ok (.iconst 0, 1) := (congrArg (fun c => decode c 120) zeq102).trans (by decide +kernel)
theorem d102_121 : decode (zB 102) 121 = .ok (.aload_n 0, 1) := (congrArg (fun c => decode c 121) zeq102).trans (by decide +kernel)
theorem d102_122 : decode (zB 102) 122 = .ok (.getfield 31, 3) := (congrArg (fun c => decode c 122) zeq102).trans (by decide +kernel)
theorem d102_125 : decode (zB 102) 125 = .ok (.iconst 0, 1) := (congrArg (fun c => decode c 125) zeq102).trans (by decide +kernel)
theorem d102_126 : decode (zB 102) 126 = .ok (.bipush 12, 2) := (congrArg (fun c => decode c 126) zeq102).trans (by decide +kernel)
theorem d102_128 : decode (zB 102) 128 = .ok (.invokestatic 71, 3) := (congrArg (fun c => decode c 128) zeq102).trans (by decide +kernel)
theorem d102_131 : decode (zB 102) 131 = .ok (.aload_n 1, 1) := (congrArg (fun c => decode c 131) zeq102).trans (by decide +kernel)
theorem d102_132 : decode (zB 102) 132 = .ok (.getfield 34, 3) := (congrArg (fun c => decode c 132) zeq102).trans (by decide +kernel)
theorem d102_135 : decode (zB 102) 135 = .ok (.iconst 0, 1) := (congrArg (fun c => decode c 135) zeq102).trans (by decide +kernel)
theorem d102_136 : decode (zB 102) 136 = .ok (.aload_n 0, 1) := (congrArg (fun c => decode c 136) zeq102).trans (by decide +kernel)
theorem d102_137 : decode (zB 102) 137 = .ok (.getfield 34, 3) := (congrArg (fun c => decode c 137) zeq102).trans (by decide +kernel)
theorem d102_140 : decode (zB 102) 140 = .ok (.iconst 0, 1) := (congrArg (fun c => decode c 140) zeq102).trans (by decide +kernel)
theorem d102_141 : decode (zB 102) 141 = .ok (.bipush 12, 2) := (congrArg (fun c => decode c 141) zeq102).trans (by decide +kernel)
theorem d102_143 : decode (zB 102) 143 = .ok (.invokestatic 71, 3) := (congrArg (fun c => decode c 143) zeq102).trans (by decide +kernel)
theorem d102_146 : decode (zB 102) 146 = .ok (.aload_n 1, 1) := (congrArg (fun c => decode c 146) zeq102).trans (by decide +kernel)
theorem d102_147 : decode (zB 102) 147 = .ok (.getfield 37, 3) := (congrArg (fun c => decode c 147) zeq102).trans (by decide +kernel)
theorem d102_150 : decode (zB 102) 150 = .ok (.iconst 0, 1) := (congrArg (fun c => decode c 150) zeq102).trans (by decide +kernel)
theorem d102_151 : decode (zB 102) 151 = .ok (.aload_n 0, 1) := (congrArg (fun c => decode c 151) zeq102).trans (by decide +kernel)
theorem d102_152 : decode (zB 102) 152 = .ok (.getfield 37, 3) := (congrArg (fun c => decode c 152) zeq102).trans (by decide +kernel)
theorem d102_155 : decode (zB 102) 155 = .ok (.iconst 0, 1) := (congrArg (fun c => decode c 155) zeq102).trans (by decide +kernel)
theorem d102_156 : decode (zB 102) 156 = .ok (.bipush 12, 2) := (congrArg (fun c => decode c 156) zeq102).trans (by decide +kernel)
theorem d102_158 : decode (zB 102) 158 = .ok (.invokestatic 71, 3) := (congrArg (fun c => decode c 158) zeq102).trans (by decide +kernel)
theorem d102_161 : decode (zB 102) 161 = .ok (.return_, 1) := (congrArg (fun c => decode c 161) zeq102).trans (by decide +kernel)
theorem c102 {d : Nat} {M : zM} {Q : Option Value → zM → Prop} {a b : Nat} {T : Nat → yT} {nm : Nat → Int32} {S : yS} (hS : SC M) (ha : zSa a) (hb2 : zSa b) (hab : a + 8 ≤ b ∨ b + 8 ≤ a) (hR : RS M b T nm S) (hl : (go S).length ≤ 12) (hz : gz T S ≤ 12) (k : ∀ M', RS M' a T nm S → Fr (FS a) M M' → SC M' → Q none M') : qC (d + 1) 102 [.ref a, .ref b] M Q := by
  have hs := hS.sg ha
  have hb := hS.sg hb2
  have hal := ha.l
  obtain ⟨⟨q0, q1, q2⟩, ⟨q3, q4, q5⟩, ⟨q7, q8⟩, q9, qa, qb⟩ := hR
  refine qC_of (by decide) (Nat.le_of_ble_eq_true rfl) ?_
  refine q_aload_n d102_0 rfl ?_
  refine q_aload_n d102_1 rfl ?_
  refine q_getv (c := 5) (f := 0) d102_2 ⟨rfl, by decide⟩ hb.1 q0 ?_
  refine q_puti (c := 5) (f := 0) d102_5 ⟨rfl, rfl, by decide⟩ hs.1 ?_
  refine q_aload_n d102_8 rfl ?_
  refine q_aload_n d102_9 rfl ?_
  refine q_getv (c := 5) (f := 1) d102_10 ⟨rfl, by decide⟩ hb.1 (Eq.trans (by (repeat (first | rw [wi_n (Or.inl (by omega))] | rw [wi_n (Or.inr (by omega))] | rw [wi_s] | rw [wr_i] | rw [cp_n (by omega)]))) q1) ?_
  refine q_puti (c := 5) (f := 1) d102_13 ⟨rfl, rfl, by decide⟩ hs.1 ?_
  refine q_aload_n d102_16 rfl ?_
  refine q_aload_n d102_17 rfl ?_
  refine q_getr (c := 5) (f := 2) d102_18 ⟨rfl, rfl⟩ hb.1 q2 ?_
  refine q_putr (c := 5) (f := 2) d102_21 ⟨rfl, rfl, by decide⟩ hs.1 ?_
  refine q_aload_n d102_24 rfl ?_
  refine q_aload_n d102_25 rfl ?_
  refine q_getv (c := 5) (f := 3) d102_26 ⟨rfl, by decide⟩ hb.1 (Eq.trans (by (repeat (first | rw [wi_n (Or.inl (by omega))] | rw [wi_n (Or.inr (by omega))] | rw [wi_s] | rw [wr_i] | rw [cp_n (by omega)]))) q3) ?_
  refine q_puti (c := 5) (f := 3) d102_29 ⟨rfl, rfl, by decide⟩ hs.1 ?_
  refine q_aload_n d102_32 rfl ?_
  refine q_aload_n d102_33 rfl ?_
  refine q_getv (c := 5) (f := 4) d102_34 ⟨rfl, by decide⟩ hb.1 (Eq.trans (by (repeat (first | rw [wi_n (Or.inl (by omega))] | rw [wi_n (Or.inr (by omega))] | rw [wi_s] | rw [wr_i] | rw [cp_n (by omega)]))) q4) ?_
  refine q_puti (c := 5) (f := 4) d102_37 ⟨rfl, rfl, by decide⟩ hs.1 ?_
  refine q_aload_n d102_40 rfl ?_
  refine q_aload_n d102_41 rfl ?_
  refine q_getv (c := 5) (f := 5) d102_42 ⟨rfl, by decide⟩ hb.1 (Eq.trans (by (repeat (first | rw [wi_n (Or.inl (by omega))] | rw [wi_n (Or.inr (by omega))] | rw [wi_s] | rw [wr_i] | rw [cp_n (by omega)]))) q5) ?_
  refine q_puti (c := 5) (f := 5) d102_45 ⟨rfl, rfl, by decide⟩ hs.1 ?_
  refine q_aload_n d102_48 rfl ?_
  refine q_aload_n d102_49 rfl ?_
  refine q_getv (c := 5) (f := 7) d102_50 ⟨rfl, by decide⟩ hb.1 (Eq.trans (by (repeat (first | rw [wi_n (Or.inl (by omega))] | rw [wi_n (Or.inr (by omega))] | rw [wi_s] | rw [wr_i] | rw [cp_n (by omega)]))) q7) ?_
  refine q_puti (c := 5) (f := 7) d102_53 ⟨rfl, rfl, by decide⟩ hs.1 ?_
  refine q_aload_n d102_56 rfl ?_
  refine q_getr (c := 5) (f := 6) d102_57 ⟨rfl, rfl⟩ hb.1 (Eq.trans (by (repeat (first | rw [wi_r] | rw [cp_r] | rw [wr_n (by omega)]))) hb.2.1) ?_
  refine q_iconstN (z := 0) d102_60 ?_
  refine q_aload_n d102_61 rfl ?_
  refine q_getr (c := 5) (f := 6) d102_62 ⟨rfl, rfl⟩ hs.1 (Eq.trans (by (repeat (first | rw [wi_r] | rw [cp_r] | rw [wr_n (by omega)]))) hs.2.1) ?_
  refine q_iconstN (z := 0) d102_65 ?_
  refine q_bipush (x := nI 12) d102_66 rfl ?_
  refine n_copy d102_68 rfl (hb.2.2.2 0 (by decide)) (hs.2.2.2 0 (by decide)) (by decide) (by decide) (by omega) (by omega) (Nat.le_of_ble_eq_true rfl) ?_
  refine q_aload_n d102_71 rfl ?_
  refine q_getr (c := 5) (f := 8) d102_72 ⟨rfl, rfl⟩ hb.1 (Eq.trans (by (repeat (first | rw [wi_r] | rw [cp_r] | rw [wr_n (by omega)]))) (hb.2.2.1 0 (by decide))) ?_
  refine q_iconstN (z := 0) d102_75 ?_
  refine q_aload_n d102_76 rfl ?_
  refine q_getr (c := 5) (f := 8) d102_77 ⟨rfl, rfl⟩ hs.1 (Eq.trans (by (repeat (first | rw [wi_r] | rw [cp_r] | rw [wr_n (by omega)]))) (hs.2.2.1 0 (by decide))) ?_
  refine q_iconstN (z := 0) d102_80 ?_
  refine q_bipush (x := nI 12) d102_81 rfl ?_
  refine n_copy d102_83 rfl (hb.2.2.2 1 (by decide)) (hs.2.2.2 1 (by decide)) (by decide) (by decide) (by omega) (by omega) (Nat.le_of_ble_eq_true rfl) ?_
  refine q_aload_n d102_86 rfl ?_
  refine q_getr (c := 5) (f := 9) d102_87 ⟨rfl, rfl⟩ hb.1 (Eq.trans (by (repeat (first | rw [wi_r] | rw [cp_r] | rw [wr_n (by omega)]))) (hb.2.2.1 1 (by decide))) ?_
  refine q_iconstN (z := 0) d102_90 ?_
  refine q_aload_n d102_91 rfl ?_
  refine q_getr (c := 5) (f := 9) d102_92 ⟨rfl, rfl⟩ hs.1 (Eq.trans (by (repeat (first | rw [wi_r] | rw [cp_r] | rw [wr_n (by omega)]))) (hs.2.2.1 1 (by decide))) ?_
  refine q_iconstN (z := 0) d102_95 ?_
  refine q_bipush (x := nI 12) d102_96 rfl ?_
  refine n_copy d102_98 rfl (hb.2.2.2 2 (by decide)) (hs.2.2.2 2 (by decide)) (by decide) (by decide) (by omega) (by omega) (Nat.le_of_ble_eq_true rfl) ?_
  refine q_aload_n d102_101 rfl ?_
  refine q_getr (c := 5) (f := 10) d102_102 ⟨rfl, rfl⟩ hb.1 (Eq.trans (by (repeat (first | rw [wi_r] | rw [cp_r] | rw [wr_n (by omega)]))) (hb.2.2.1 2 (by decide))) ?_
  refine q_iconstN (z := 0) d102_105 ?_
  refine q_aload_n d102_106 rfl ?_
  refine q_getr (c := 5) (f := 10) d102_107 ⟨rfl, rfl⟩ hs.1 (Eq.trans (by (repeat (first | rw [wi_r] | rw [cp_r] | rw [wr_n (by omega)]))) (hs.2.2.1 2 (by decide))) ?_
  refine q_iconstN (z := 0) d102_110 ?_
  refine q_bipush (x := nI 12) d102_111 rfl ?_
  refine n_copy d102_113 rfl (hb.2.2.2 3 (by decide)) (hs.2.2.2 3 (by decide)) (by decide) (by decide) (by omega) (by omega) (Nat.le_of_ble_eq_true rfl) ?_
  refine q_aload_n d102_116 rfl ?_
  refine q_getr (c := 5) (f := 11) d102_117 ⟨rfl, rfl⟩ hb.1 (Eq.trans (by (repeat (first | rw [wi_r] | rw [cp_r] | rw [wr_n (by omega)]))) (hb.2.2.1 3 (by decide))) ?_
  refine q_iconstN (z := 0) d102_120 ?_
  refine q_aload_n d102_121 rfl ?_
  refine q_getr (c := 5) (f := 11) d102_122 ⟨rfl, rfl⟩ hs.1 (Eq.trans (by (repeat (first | rw [wi_r] | rw [cp_r] | rw [wr_n (by omega)]))) (hs.2.2.1 3 (by decide))) ?_
  refine q_iconstN (z := 0) d102_125 ?_
  refine q_bipush (x := nI 12) d102_126 rfl ?_
  refine n_copy d102_128 rfl (hb.2.2.2 4 (by decide)) (hs.2.2.2 4 (by decide)) (by decide) (by decide) (by omega) (by omega) (Nat.le_of_ble_eq_true rfl) ?_
  refine q_aload_n d102_131 rfl ?_
  refine q_getr (c := 5) (f := 12) d102_132 ⟨rfl, rfl⟩ hb.1 (Eq.trans (by (repeat (first | rw [wi_r] | rw [cp_r] | rw [wr_n (by omega)]))) (hb.2.2.1 4 (by decide))) ?_
  refine q_iconstN (z := 0) d102_135 ?_
  refine q_aload_n d102_136 rfl ?_
  refine q_getr (c := 5) (f := 12) d102_137 ⟨rfl, rfl⟩ hs.1 (Eq.trans (by (repeat (first | rw [wi_r] | rw [cp_r] | rw [wr_n (by omega)]))) (hs.2.2.1 4 (by decide))) ?_
  refine q_iconstN (z := 0) d102_140 ?_
  refine q_bipush (x := nI 12) d102_141 rfl ?_
  refine n_copy d102_143 rfl (hb.2.2.2 5 (by decide)) (hs.2.2.2 5 (by decide)) (by decide) (by decide) (by omega) (by omega) (Nat.le_of_ble_eq_true rfl) ?_
  refine q_aload_n d102_146 rfl ?_
  refine q_getr (c := 5) (f := 13) d102_147 ⟨rfl, rfl⟩ hb.1 (Eq.trans (by (repeat (first | rw [wi_r] | rw [cp_r] | rw [wr_n (by omega)]))) (hb.2.2.1 5 (by decide))) ?_
  refine q_iconstN (z := 0) d102_150 ?_
  refine q_aload_n d102_151 rfl ?_
  refine q_getr (c := 5) (f := 13) d102_152 ⟨rfl, rfl⟩ hs.1 (Eq.trans (by (repeat (first | rw [wi_r] | rw [cp_r] | rw [wr_n (by omega)]))) (hs.2.2.1 5 (by decide))) ?_
  refine q_iconstN (z := 0) d102_155 ?_
  refine q_bipush (x := nI 12) d102_156 rfl ?_
  refine n_copy d102_158 rfl (hb.2.2.2 6 (by decide)) (hs.2.2.2 6 (by decide)) (by decide) (by decide) (by omega) (by omega) (Nat.le_of_ble_eq_true rfl) ?_
  refine q_ret d102_161 rfl ?_
  refine k _ ⟨⟨?_, ?_, ?_⟩, ⟨?_, ?_, ?_⟩, ⟨?_, fun j hj => ?_⟩, fun j hj => ?_, fun j hj he => ?_, fun j hj => ⟨?_, ?_, ?_, ?_⟩⟩ (((((((((((((((Fr.refl _ _).wi FS_0).wi FS_0).wr FS_0).wi FS_0).wi FS_0).wi FS_0).wi FS_0).cp (fun j _ _ => FS_x (by omega) (by omega))).cp (fun j _ _ => FS_x (by omega) (by omega))).cp (fun j _ _ => FS_x (by omega) (by omega))).cp (fun j _ _ => FS_x (by omega) (by omega))).cp (fun j _ _ => FS_x (by omega) (by omega))).cp (fun j _ _ => FS_x (by omega) (by omega))).cp (fun j _ _ => FS_x (by omega) (by omega))) (SC_cp (SC_cp (SC_cp (SC_cp (SC_cp (SC_cp (SC_cp (SC_wi (SC_wi (SC_wi (SC_wi (SC_wr (SC_wi (SC_wi (hS) (by omega)) (by omega)) ha.z) (by omega)) (by omega)) (by omega)) (by omega)) (by omega)) (by omega)) (by omega)) (by omega)) (by omega)) (by omega)) (by omega))
  · (repeat (first | rw [wi_n (Or.inl (by omega))] | rw [wi_n (Or.inr (by omega))] | rw [wi_s] | rw [wr_i] | rw [cp_n (by omega)] | rw [cp_0 (by omega)]))
  · (repeat (first | rw [wi_n (Or.inl (by omega))] | rw [wi_n (Or.inr (by omega))] | rw [wi_s] | rw [wr_i] | rw [cp_n (by omega)] | rw [cp_0 (by omega)]))
  · (repeat (first | rw [cp_r] | rw [wi_r])); exact wr_s
  · (repeat (first | rw [wi_n (Or.inl (by omega))] | rw [wi_n (Or.inr (by omega))] | rw [wi_s] | rw [wr_i] | rw [cp_n (by omega)] | rw [cp_0 (by omega)]))
  · (repeat (first | rw [wi_n (Or.inl (by omega))] | rw [wi_n (Or.inr (by omega))] | rw [wi_s] | rw [wr_i] | rw [cp_n (by omega)] | rw [cp_0 (by omega)]))
  · (repeat (first | rw [wi_n (Or.inl (by omega))] | rw [wi_n (Or.inr (by omega))] | rw [wi_s] | rw [wr_i] | rw [cp_n (by omega)] | rw [cp_0 (by omega)]))
  · (repeat (first | rw [wi_n (Or.inl (by omega))] | rw [wi_n (Or.inr (by omega))] | rw [wi_s] | rw [wr_i] | rw [cp_n (by omega)] | rw [cp_0 (by omega)]))
  · (repeat (first | rw [wi_n (Or.inl (by omega))] | rw [wi_n (Or.inr (by omega))] | rw [wi_s] | rw [wr_i] | rw [cp_n (by omega)] | rw [cp_0 (by omega)])); exact q8 j hj
  · (repeat (first | rw [wi_n (Or.inl (by omega))] | rw [wi_n (Or.inr (by omega))] | rw [wi_s] | rw [wr_i] | rw [cp_n (by omega)] | rw [cp_0 (by omega)])); exact q9 j hj
  · (repeat (first | rw [wi_n (Or.inl (by omega))] | rw [wi_n (Or.inr (by omega))] | rw [wi_s] | rw [wr_i] | rw [cp_n (by omega)] | rw [cp_0 (by omega)])); exact qa j hj he
  · (repeat (first | rw [wi_n (Or.inl (by omega))] | rw [wi_n (Or.inr (by omega))] | rw [wi_s] | rw [wr_i] | rw [cp_n (by omega)] | rw [cp_0 (by omega)])); exact (qb j hj).1
  · (repeat (first | rw [wi_n (Or.inl (by omega))] | rw [wi_n (Or.inr (by omega))] | rw [wi_s] | rw [wr_i] | rw [cp_n (by omega)] | rw [cp_0 (by omega)])); exact (qb j hj).2.1
  · (repeat (first | rw [wi_n (Or.inl (by omega))] | rw [wi_n (Or.inr (by omega))] | rw [wi_s] | rw [wr_i] | rw [cp_n (by omega)] | rw [cp_0 (by omega)])); exact (qb j hj).2.2.1
  · (repeat (first | rw [wi_n (Or.inl (by omega))] | rw [wi_n (Or.inr (by omega))] | rw [wi_s] | rw [wr_i] | rw [cp_n (by omega)] | rw [cp_0 (by omega)])); exact (qb j hj).2.2.2
/-! ===== ticks keep what holds of sagas, purses and the log's length ===== -/
def yln (g : Option (List yL)) : Nat := match g with
  | none => 0
  | some l => l.length
theorem yln_lg (g : Option (List yL)) (x : yL) : yln (ylg g x) ≤ yln g + 1 := by
  cases g with
  | none => exact Nat.zero_le _
  | some l => show (l ++ [x]).length ≤ l.length + 1; rw [List.length_append]; exact Nat.le_refl _
theorem yck_0 {b : Int32} (h : yck b = 0) : 0 ≤ b ∧ b ≤ nI 9999 := by
  unfold yck at h
  by_cases h1 : 0 ≤ b
  · by_cases h2 : b ≤ nI 9999
    · exact ⟨h1, h2⟩
    · rw [if_pos h1, if_neg h2] at h; exact absurd h (by decide)
  · rw [if_neg h1] at h; exact absurd h (by decide)
theorem yck_i {b : Int32} (h : 0 ≤ b ∧ b ≤ nI 9999) : yck b = 0 := by unfold yck; rw [if_pos h.1, if_pos h.2]
theorem zix_m1 (n : Nat) : zix (-1) n = none := by
  unfold zix
  exact if_neg (fun h => absurd h.1 (by decide))
theorem ypu_n {P : yP} {m : Int32} : ypu P (-1) m = P := by unfold ypu; rw [zix_m1]
theorem ypu_a {P : yP} {a : Nat} {m : Int32} (h : a < 6) : ypu P (nI a) m = (yu P.1 a (P.1 a + m), P.2) := by unfold ypu; rw [zix_in h (by omega)]
theorem ybe_n {P : yP} {m : Int32} : ybe P (-1) m = 0 := by unfold ybe; rw [zix_m1]
theorem ybe_a {P : yP} {a : Nat} {m : Int32} (h : a < 6) : ybe P (nI a) m = yck (P.1 a + m) := by unfold ybe; rw [zix_in h (by omega)]
theorem yob_0 {T : yT} {P : yP} {i : Nat} {n w : Int32} (h : yob T P i n w = 0) : ybe P (tf T i) (w * yf1 (tk T i) n) = 0 ∧ ybe P (ts T i) (w * yf2 (tk T i) n) = 0 := by
  unfold yob at h
  by_cases h1 : ybe P (tf T i) (w * yf1 (tk T i) n) = 0
  · rw [if_neg (fun q => q h1)] at h; exact ⟨h1, h⟩
  · rw [if_pos h1] at h; exact absurd h h1
theorem m1_mul (n : Int32) : (-1 : Int32) * n = -n := by rw [Int32.neg_mul, Int32.one_mul]
theorem Int32_c1 (b w n : Int32) : b + w * -n + w * n = b := by rw [Int32.mul_neg, Int32.add_assoc, Int32.add_left_neg, Int32.add_zero]
theorem OKP_u {P : yP} {a : Nat} {v : Int32} (h : OKP P) (hv : 0 ≤ v ∧ v ≤ nI 9999) : OKP (yu P.1 a v, P.2) := by
  intro b hb
  show 0 ≤ yu P.1 a v b ∧ yu P.1 a v b ≤ nI 9999
  by_cases e : b = a
  · rw [e, yu_s]; exact hv
  · rw [yu_n e]; exact h b hb
theorem OKP_ex {P : yP} {a b : Nat} (hp : OKP P) (ha : a < 6) (hb : b < 6) : OKP (yex P (nI a) (nI b)) := by
  unfold yex
  rw [zix_in ha (by omega), zix_in hb (by omega)]
  exact OKP_u (P := (yu P.1 a (P.1 b), P.2)) (OKP_u hp (hp b hb)) (hp a ha)
theorem OKP_ch {T : yT} {P : yP} {i : Nat} {n w : Int32} (hT : OKT T) (hi : i < tn T) (h : OKP P) (h0 : yob T P i n w = 0) : OKP (ych T P i n w) := by
  obtain ⟨o1, o2⟩ := yob_0 h0
  obtain ⟨k6, -, a5, an5, s24, sn, -, -⟩ := hT.2.2.2 i hi
  unfold ych
  by_cases k5 : tk T i = 5
  · rw [if_neg (by omega), if_neg (by omega), a5 k5, sn (by omega) (by omega), ypu_n, ypu_n]
    split <;> exact h
  · obtain ⟨a, ha, ea⟩ := an5 k5
    rw [ea] at o1 ⊢
    rw [ybe_a ha] at o1
    by_cases k24 : tk T i = 2 ∨ tk T i = 4
    · obtain ⟨b, hb, eb⟩ := s24 k24
      rw [eb] at o2 ⊢
      rw [ybe_a hb] at o2
      have hp : OKP (ypu (ypu P (nI a) (w * yf1 (tk T i) n)) (nI b) (w * yf2 (tk T i) n)) := by
        rw [ypu_a ha, ypu_a hb]
        refine OKP_u (OKP_u h (yck_0 o1)) ?_
        show 0 ≤ yu P.1 a _ b + _ ∧ yu P.1 a _ b + _ ≤ nI 9999
        by_cases e : b = a
        · subst e
          rw [yu_s]
          have e2 : P.1 b + w * yf1 (tk T i) n + w * yf2 (tk T i) n = P.1 b := by
            rcases k24 with k | k
            · rw [k]; show P.1 b + w * -n + w * n = _; exact Int32_c1 _ _ _
            · rw [k]; show P.1 b + w * 0 + w * 0 = _; rw [Int32.mul_zero, Int32.add_zero, Int32.add_zero]
          rw [e2]; exact h b hb
        · rw [yu_n e]; exact yck_0 o2
      revert hp
      generalize ypu (ypu P (nI a) (w * yf1 (tk T i) n)) (nI b) (w * yf2 (tk T i) n) = P2
      intro hp
      rcases k24 with k | k
      · rw [if_neg (by omega), if_neg (by omega), if_neg (by omega)]; exact hp
      · rw [if_neg (by omega), if_pos k]
        exact OKP_ex hp ha hb
    · rw [sn (by omega) (by omega), ypu_n, ypu_a ha]
      have hp : OKP (yu P.1 a (P.1 a + w * yf1 (tk T i) n), P.2) := OKP_u h (yck_0 o1)
      by_cases k3 : tk T i = 3
      · rw [if_pos k3]; exact hp
      · rw [if_neg k3, if_neg (by omega), if_neg (by omega)]; exact hp
/-! sagas -/
theorem OKS_done {T : Nat → yT} {c : Nat} {S : yS} {i : Nat} {n : Int32} (h : OKS T c S) (hi : i < gz T S) (h0 : gd S i = 0) : OKS T c (yDn S i n) := by
  obtain ⟨a, b, d, e, f, g⟩ := h
  refine ⟨a, b, List.nodup_cons.mpr ⟨fun q => ?_, d⟩, fun k => ?_, fun k hk => ?_, fun k => ?_⟩
  · have := (e i).mp q; omega
  · show k ∈ i :: go S ↔ yu (gd S) i 1 k = 1
    rw [List.mem_cons, e k]
    by_cases q : k = i
    · subst q; rw [yu_s]; simp
    · rw [yu_n q]; simp [q]
  · have hk : gz T S ≤ k := hk
    show yu (gd S) i 1 k = 0
    rw [yu_n (by omega)]; exact f k hk
  · show yu (gd S) i 1 k ≤ 3
    by_cases q : k = i
    · subst q; rw [yu_s]; omega
    · rw [yu_n q]; exact g k
theorem OKS_undo {T : Nat → yT} {c : Nat} {S : yS} {i v : Nat} {t : List Nat} (h : OKS T c S) (hg : go S = i :: t) (hv : v = 2 ∨ v = 3) : OKS T c (goS (gdS S (yu (gd S) i v)) t) := by
  obtain ⟨a, b, d, e, f, g⟩ := h
  have hd := d
  rw [hg] at hd
  obtain ⟨n1, n2⟩ := List.nodup_cons.mp hd
  have hi : gd S i = 1 := (e i).mp (by rw [hg]; exact List.mem_cons_self)
  have hz : i < gz T S := Nat.lt_of_not_le (fun q => by have := f i q; omega)
  refine ⟨a, b, n2, fun k => ?_, fun k hk => ?_, fun k => ?_⟩
  · show k ∈ t ↔ yu (gd S) i v k = 1
    have h1 := e k
    rw [hg, List.mem_cons] at h1
    by_cases q : k = i
    · subst q; rw [yu_s]; constructor
      · intro q; exact absurd q n1
      · intro q; omega
    · rw [yu_n q, ← h1]; simp [q]
  · have hk : gz T S ≤ k := hk
    show yu (gd S) i v k = 0
    rw [yu_n (by omega)]; exact f k hk
  · show yu (gd S) i v k ≤ 3
    by_cases q : k = i
    · subst q; rw [yu_s]; omega
    · rw [yu_n q]; exact g k
theorem OKS_st {T : Nat → yT} {c v : Nat} {S : yS} (h : OKS T c S) (hg : gt S ≠ 0) (hv : v ≠ 0) (h5 : v ≤ 5) : OKS T c (gtS S v) := by
  obtain ⟨a, b, d, e, f, g⟩ := h
  refine ⟨h5, fun _ => b hg, d, e, fun k hk => ?_, g⟩
  have : gz T (gtS S v) = gz T S := by
    unfold gz; rw [if_neg hg]; show (if v = 0 then 0 else tn (T (gx S))) = _; rw [if_neg hv]
  rw [this] at hk; exact f k hk
theorem nodup_len : ∀ (n : Nat) (l : List Nat), l.Nodup → (∀ x ∈ l, x < n) → l.length ≤ n
  | 0, l, _, h => by
    cases l with
    | nil => exact Nat.le_refl _
    | cons a t => exact absurd (h a List.mem_cons_self) (Nat.not_lt_zero _)
  | n + 1, l, hd, h => by
    have h1 := nodup_len n (l.erase n) (hd.erase n) (fun x hx => by
      have h2 := hd.mem_erase_iff.mp hx
      have := h x h2.2
      omega)
    have h2 := List.length_erase (a := n) (l := l)
    split at h2 <;> omega
theorem OKS_len {T : Nat → yT} {c : Nat} {S : yS} (h : OKS T c S) (hz : gz T S ≤ 12) : (go S).length ≤ gz T S := by
  obtain ⟨a, b, d, e, f, g⟩ := h
  have hsub : ∀ i ∈ go S, i < gz T S := fun i hi => Nat.lt_of_not_le (fun q => by have := f i q; have := (e i).mp hi; omega)
  exact nodup_len _ _ d hsub
theorem OKS_pl {T : Nat → yT} {c : Nat} {S : yS} {p : Nat → Int32} (h : OKS T c S) : OKS T c (gpS S p) := h
theorem OKS_fS {T : Nat → yT} {c i : Nat} {S : yS} {r : Int32} {p : Bool} (h : OKS T c S) (hg : gt S ≠ 0) : OKS T c (yfS S i r p) := by
  unfold yfS
  split
  · exact h
  · exact OKS_st (S := gwS (gfS S (yu (gf S) i (gf S i + 1))) (yu (gw S) i r)) h hg (by omega) (by omega)
/-- the three ends of a try -/
theorem ytr_is (T : yT) (n : Int32) (s i : Nat) (X : yX) : ∃ S1, S1 = gpS (yxs X s) (ysd (gp (yxs X s)) i) ∧
    ((yob T X.1.1 i n 1 = 0 ∧ ypl (gp (yxs X s)) i = false ∧ ytr T n s i X = yno (yss (ysp X (ych T X.1.1 i n 1)) s (yDn S1 i n)) (1, s, i)) ∨
     (∃ r, r ≠ 0 ∧ ¬ (ypa T (gm (yxs X s) 1) = true ∧ ¬ gf (yxs X s) i + 1 < nI 3) ∧ ytr T n s i X = yno (yss X s (yfS S1 i r (ypa T (gm (yxs X s) 1)))) (2, s, i)) ∨
     (∃ r, r ≠ 0 ∧ (ypa T (gm (yxs X s) 1) = true ∧ ¬ gf (yxs X s) i + 1 < nI 3) ∧ ytr T n s i X = yen (yno (yss X s (yfS S1 i r true)) (2, s, i)) s 5)) := by
  refine ⟨_, rfl, ?_⟩
  unfold ytr
  by_cases hr : (if ypl (gp (yxs X s)) i then 1 else yob T X.1.1 i n 1) = 0
  · left
    have hp : ypl (gp (yxs X s)) i = false := by
      cases h : ypl (gp (yxs X s)) i with
      | false => rfl
      | true => rw [h, if_pos rfl] at hr; exact absurd hr (by decide)
    rw [hp] at hr
    refine ⟨hr, hp, ?_⟩
    simp only [hp]
    rw [if_pos hr]
  · right
    by_cases hc : ypa T (gm (yxs X s) 1) = true ∧ ¬ gf (yxs X s) i + 1 < nI 3
    · right
      refine ⟨_, hr, hc, ?_⟩
      simp only []
      rw [if_neg hr, if_pos hc, hc.1]
    · left
      refine ⟨_, hr, hc, ?_⟩
      simp only []
      rw [if_neg hr, if_neg hc]
theorem yss_s (X : yX) (s : Nat) (S : yS) : yxs (yss X s S) s = S := yu_s _ _ _
theorem yss_n {X : yX} {s r : Nat} {S : yS} (h : r ≠ s) : yxs (yss X s S) r = yxs X r := yu_n h
theorem OKW_ss {T : Nat → yT} {c s : Nat} {X : yX} {S : yS} (h : OKW T c X.1) (hS : OKS T c S) : OKW T c (yss X s S).1 := by
  refine ⟨h.1, h.2.1, fun r hr => ?_⟩
  show OKS T c (yu X.1.2 s S r)
  by_cases e : r = s
  · subst e; rw [yu_s]; exact hS
  · rw [yu_n e]; exact h.2.2 r hr
theorem ytr_n {T : yT} {n : Int32} {s i r : Nat} {X : yX} (h : r ≠ s) : yxs (ytr T n s i X) r = yxs X r := by
  obtain ⟨S1, -, ⟨-, -, e⟩ | ⟨w, -, -, e⟩ | ⟨w, -, -, e⟩⟩ := ytr_is T n s i X <;> rw [e]
  · exact yss_n h
  · exact yss_n h
  · exact (yss_n h).trans (yss_n h)
theorem yfS_d (S : yS) (i : Nat) (r : Int32) (p : Bool) : gd (yfS S i r p) = gd S ∧ gx (yfS S i r p) = gx S ∧ gt (yfS S i r p) = if p then gt S else 2 := by
  unfold yfS; cases p <;> exact ⟨rfl, rfl, rfl⟩
theorem ytr_d {T : yT} {n : Int32} {s i : Nat} {X : yX} (hg : gt (yxs X s) = 1) : (∀ k, k ≠ i → gd (yxs (ytr T n s i X) s) k = gd (yxs X s) k) ∧ gx (yxs (ytr T n s i X) s) = gx (yxs X s) ∧
    yln (ytr T n s i X).2 ≤ yln X.2 + (if gt (yxs (ytr T n s i X) s) = 1 then 1 else 2) ∧ (gt (yxs (ytr T n s i X) s) = 1 ∨ gt (yxs (ytr T n s i X) s) = 2 ∨ gt (yxs (ytr T n s i X) s) = 5) := by
  obtain ⟨S1, h1, ⟨-, -, e⟩ | ⟨w, -, -, e⟩ | ⟨w, -, -, e⟩⟩ := ytr_is T n s i X <;> rw [e]
  · have e2 : yxs (yno (yss (ysp X (ych T X.1.1 i n 1)) s (yDn S1 i n)) (1, s, i)) s = yDn S1 i n := yss_s _ _ _
    rw [e2]; subst h1
    refine ⟨fun k hk => yu_n hk, rfl, ?_, Or.inl hg⟩
    have : gt (yDn (gpS (yxs X s) (ysd (gp (yxs X s)) i)) i n) = 1 := hg
    rw [if_pos this]; exact yln_lg _ _
  · have e2 : yxs (yno (yss X s (yfS S1 i w (ypa T (gm (yxs X s) 1)))) (2, s, i)) s = yfS S1 i w (ypa T (gm (yxs X s) 1)) := yss_s _ _ _
    rw [e2]; subst h1
    obtain ⟨d1, d2, d3⟩ := yfS_d (gpS (yxs X s) (ysd (gp (yxs X s)) i)) i w (ypa T (gm (yxs X s) 1))
    refine ⟨fun k hk => by rw [d1]; rfl, by rw [d2]; rfl, ?_, ?_⟩
    · have := yln_lg X.2 (2, s, i)
      show yln (ylg X.2 (2, s, i)) ≤ _
      split <;> omega
    · rw [d3]; split
      · exact Or.inl hg
      · exact Or.inr (Or.inl rfl)
  · have e2 : yxs (yen (yno (yss X s (yfS S1 i w true)) (2, s, i)) s 5) s = gtS (yfS S1 i w true) 5 := by
      show yxs (yss _ s _) s = _
      rw [yss_s]; exact congrArg (fun S => gtS S 5) (yss_s X s _)
    rw [e2]; subst h1
    refine ⟨fun k hk => rfl, rfl, ?_, Or.inr (Or.inr rfl)⟩
    have a := yln_lg X.2 (2, s, i)
    have b := yln_lg (ylg X.2 (2, s, i)) (5, s, 5)
    show yln (ylg (ylg X.2 (2, s, i)) (5, s, 5)) ≤ yln X.2 + 2
    omega
theorem ytr_ok {T : Nat → yT} {c s i : Nat} {n : Int32} {X : yX} (h : OKW T c X.1) (hs : s < 3) (hg : gt (yxs X s) = 1) (hi : i < tn (T (gx (yxs X s)))) (h0 : gd (yxs X s) i = 0) : OKW T c (ytr (T (gx (yxs X s))) n s i X).1 := by
  have hS := h.2.2 s hs
  have hS : OKS T c (yxs X s) := hS
  have hz : gz T (yxs X s) = tn (T (gx (yxs X s))) := by unfold gz; rw [if_neg (by omega)]
  obtain ⟨S1, h1, ⟨o, -, e⟩ | ⟨w, -, -, e⟩ | ⟨w, -, -, e⟩⟩ := ytr_is (T (gx (yxs X s))) n s i X <;> rw [e] <;> subst h1
  · exact OKW_ss (X := ysp X _) ⟨h.1, OKP_ch (h.1.2 _ (hS.2.1 (by omega))) hi h.2.1 o, h.2.2⟩ (OKS_done (S := gpS (yxs X s) (ysd (gp (yxs X s)) i)) (i := i) hS (show i < gz T (yxs X s) by rw [hz]; exact hi) h0)
  · exact OKW_ss h (OKS_fS (S := gpS (yxs X s) (ysd (gp (yxs X s)) i)) hS (by show gt (yxs X s) ≠ 0; omega))
  · refine OKW_ss (OKW_ss h (OKS_fS (S := gpS (yxs X s) (ysd (gp (yxs X s)) i)) hS (by show gt (yxs X s) ≠ 0; omega))) ?_
    refine OKS_st ?_ ?_ (by omega) (by omega)
    · show OKS T c (yxs (yss X s _) s)
      rw [yss_s]; exact OKS_fS (S := gpS (yxs X s) (ysd (gp (yxs X s)) i)) hS (by show gt (yxs X s) ≠ 0; omega)
    · show gt (yxs (yss X s _) s) ≠ 0
      rw [yss_s]; show gt (yxs X s) ≠ 0; omega
/-! ===== turns and ticks keep it ===== -/
def ym1 (X : yX) (s : Nat) : Nat := yln X.2 + (if gt (yxs X s) = 1 then 1 else 0)
theorem ytr_m {T : yT} {n : Int32} {s i : Nat} {X : yX} (hg : gt (yxs X s) = 1) : ym1 (ytr T n s i X) s ≤ ym1 X s + 1 := by
  have h := (ytr_d (T := T) (n := n) (i := i) hg).2.2.1
  unfold ym1
  rw [if_pos hg]
  split at h <;> rename_i h2
  · rw [if_pos h2]; omega
  · rw [if_neg h2]; omega
theorem yfl_ok {T : Nat → yT} {c s g0 fr : Nat} {nm : Nat → Int32} (hs : s < 3) : ∀ (k i : Nat) (X : yX), OKW T c X.1 → gx (yxs X s) = g0 → (∀ j, i ≤ j → fr.testBit j = true → j < tn (T g0) ∧ gd (yxs X s) j = 0) → (gt (yxs X s) = 1 ∨ gt (yxs X s) = 2 ∨ gt (yxs X s) = 5) →
    OKW T c (yfl (T g0) nm s fr k i X).1 ∧ gx (yxs (yfl (T g0) nm s fr k i X) s) = g0 ∧ (gt (yxs (yfl (T g0) nm s fr k i X) s) = 1 ∨ gt (yxs (yfl (T g0) nm s fr k i X) s) = 2 ∨ gt (yxs (yfl (T g0) nm s fr k i X) s) = 5) ∧
    (∀ r, r ≠ s → yxs (yfl (T g0) nm s fr k i X) r = yxs X r) ∧ ym1 (yfl (T g0) nm s fr k i X) s ≤ ym1 X s + k
  | 0, i, X, h, hx, hf, hg => ⟨h, hx, hg, fun _ _ => rfl, Nat.le_refl _⟩
  | k + 1, i, X, h, hx, hf, hg => by
    rw [yfl]
    by_cases h1 : gt (yxs X s) = 1
    · rw [if_pos h1]
      by_cases hb : fr.testBit i = true
      · rw [if_pos hb]
        have hi := hf i (Nat.le_refl _) hb
        have hd := ytr_d (T := T g0) (n := nm i) (i := i) h1
        have ho : OKW T c (ytr (T g0) (nm i) s i X).1 := by
          have := ytr_ok (n := nm i) (i := i) h hs h1 (by rw [hx]; exact hi.1) hi.2
          rw [hx] at this; exact this
        obtain ⟨a1, a2, a3, a4, a5⟩ := yfl_ok (nm := nm) hs k (i + 1) (ytr (T g0) (nm i) s i X) ho (hd.2.1.trans hx) (fun j hj hjb => ⟨(hf j (by omega) hjb).1, by rw [hd.1 j (by omega)]; exact (hf j (by omega) hjb).2⟩) hd.2.2.2
        have hm := ytr_m (T := T g0) (n := nm i) (i := i) h1
        exact ⟨a1, a2, a3, fun r hr => (a4 r hr).trans (ytr_n hr), by omega⟩
      · rw [if_neg hb]
        obtain ⟨a1, a2, a3, a4, a5⟩ := yfl_ok (nm := nm) hs k (i + 1) X h hx (fun j hj hjb => hf j (by omega) hjb) hg
        exact ⟨a1, a2, a3, a4, by omega⟩
    · rw [if_neg h1]; exact ⟨h, hx, hg, fun _ _ => rfl, by omega⟩
theorem yen_ok {T : Nat → yT} {c s v : Nat} {X : yX} (h : OKW T c X.1) (hs : s < 3) (hg : gt (yxs X s) ≠ 0) (hv : v ≠ 0) (h5 : v ≤ 5) : OKW T c (yen X s v).1 := OKW_ss h (OKS_st (h.2.2 s hs) hg hv h5)
theorem yen_s {X : yX} {s v : Nat} : yxs (yen X s v) s = gtS (yxs X s) v := yss_s _ _ _
theorem yen_n {X : yX} {s v r : Nat} (h : r ≠ s) : yxs (yen X s v) r = yxs X r := yss_n h
theorem yen_l {X : yX} {s v : Nat} : yln (yen X s v).2 ≤ yln X.2 + 1 := yln_lg _ _
theorem front_bit {T : yT} {S : yS} {j : Nat} (h : (yfr T S).testBit j = true) : j < tn T ∧ gd S j = 0 := by
  unfold yfr at h
  rw [ymk_bit] at h
  simp only [Bool.and_eq_true, decide_eq_true_eq, beq_iff_eq] at h
  exact ⟨h.1, h.2.1⟩
theorem yfo_ok {T : Nat → yT} {c s : Nat} {nm : Nat → Int32} {X : yX} (h : OKW T c X.1) (hs : s < 3) (hg : gt (yxs X s) = 1) :
    OKW T c (yfo (T (gx (yxs X s))) nm s X).1 ∧ gx (yxs (yfo (T (gx (yxs X s))) nm s X) s) = gx (yxs X s) ∧ gt (yxs (yfo (T (gx (yxs X s))) nm s X) s) ≠ 0 ∧ (∀ r, r ≠ s → yxs (yfo (T (gx (yxs X s))) nm s X) r = yxs X r) ∧ yln (yfo (T (gx (yxs X s))) nm s X).2 ≤ yln X.2 + 13 := by
  obtain ⟨a1, a2, a3, a4, a5⟩ := yfl_ok (fr := yfr (T (gx (yxs X s))) (yxs X s)) (nm := nm) hs 12 0 X h rfl (fun j _ hj => front_bit hj) (Or.inl hg)
  unfold yfo
  simp only []
  generalize yfl (T (gx (yxs X s))) nm s (yfr (T (gx (yxs X s))) (yxs X s)) 12 0 X = X1 at a1 a2 a3 a4 a5 ⊢
  have hm : ym1 X s = yln X.2 + 1 := by unfold ym1; rw [if_pos hg]
  by_cases hc : gt (yxs X1 s) = 1 ∧ gm (yxs X1 s) 1 = 2 ^ tn (T (gx (yxs X s))) - 1
  · rw [if_pos hc]
    have h1 : ym1 X1 s = yln X1.2 + 1 := by unfold ym1; rw [if_pos hc.1]
    have h2 := yen_l (X := X1) (s := s) (v := 3)
    refine ⟨yen_ok a1 hs (by omega) (by omega) (by omega), by rw [yen_s]; exact a2, by rw [yen_s]; exact (by decide : (3 : Nat) ≠ 0), fun r hr => (yen_n hr).trans (a4 r hr), by omega⟩
  · rw [if_neg hc]
    have h1 : yln X1.2 ≤ ym1 X1 s := by unfold ym1; omega
    refine ⟨a1, a2, by omega, a4, by omega⟩
theorem yun_ok {T : Nat → yT} {c s : Nat} {X : yX} (h : OKW T c X.1) (hs : s < 3) (hg : gt (yxs X s) ≠ 0) :
    OKW T c (yun (T (gx (yxs X s))) s X).1 ∧ gx (yxs (yun (T (gx (yxs X s))) s X) s) = gx (yxs X s) ∧ gt (yxs (yun (T (gx (yxs X s))) s X) s) = gt (yxs X s) ∧ (∀ r, r ≠ s → yxs (yun (T (gx (yxs X s))) s X) r = yxs X r) ∧ yln (yun (T (gx (yxs X s))) s X).2 ≤ yln X.2 + 1 := by
  have hS : OKS T c (yxs X s) := h.2.2 s hs
  unfold yun
  simp only []
  cases ho : go (yxs X s) with
  | nil => exact ⟨h, rfl, rfl, fun _ _ => rfl, Nat.le_succ _⟩
  | cons i t =>
    have hi : gd (yxs X s) i = 1 := (hS.2.2.2.1 i).mp (by rw [ho]; exact List.mem_cons_self)
    have hz : i < gz T (yxs X s) := Nat.lt_of_not_le (fun q => by have := hS.2.2.2.2.1 i q; omega)
    have hz2 : gz T (yxs X s) = tn (T (gx (yxs X s))) := by unfold gz; rw [if_neg hg]
    simp only []
    by_cases hr : (if ypl (gq (yxs X s)) i = true then 1 else yob (T (gx (yxs X s))) X.1.1 i (gb (yxs X s) i) (-1)) = 0
    · rw [if_pos hr]
      have hp : ypl (gq (yxs X s)) i = false := by
        cases hq : ypl (gq (yxs X s)) i with
        | false => rfl
        | true => rw [hq, if_pos rfl] at hr; exact absurd hr (by decide)
      rw [hp, if_neg (by decide)] at hr
      refine ⟨OKW_ss (X := ysp X _) ⟨h.1, OKP_ch (h.1.2 _ (hS.2.1 hg)) (by omega) h.2.1 hr, h.2.2⟩ (OKS_undo (S := gqS (yxs X s) _) hS ho (Or.inl rfl)), ?_, ?_, fun r hr2 => yss_n (X := ysp X _) hr2, yln_lg _ _⟩
      · show gx (yxs (yss (ysp X _) s _) s) = _; rw [yss_s]; rfl
      · show gt (yxs (yss (ysp X _) s _) s) = _; rw [yss_s]; rfl
    · rw [if_neg hr]
      refine ⟨OKW_ss h (OKS_undo (S := gqS (yxs X s) _) hS ho (Or.inr rfl)), ?_, ?_, fun r hr2 => yss_n hr2, yln_lg _ _⟩
      · show gx (yxs (yss X s _) s) = _; rw [yss_s]; rfl
      · show gt (yxs (yss X s _) s) = _; rw [yss_s]; rfl
theorem yba_ok {T : Nat → yT} {c s : Nat} {X : yX} (h : OKW T c X.1) (hs : s < 3) (hg : gt (yxs X s) ≠ 0) :
    OKW T c (yba (T (gx (yxs X s))) s X).1 ∧ gx (yxs (yba (T (gx (yxs X s))) s X) s) = gx (yxs X s) ∧ gt (yxs (yba (T (gx (yxs X s))) s X) s) ≠ 0 ∧ (∀ r, r ≠ s → yxs (yba (T (gx (yxs X s))) s X) r = yxs X r) ∧ yln (yba (T (gx (yxs X s))) s X).2 ≤ yln X.2 + 2 := by
  obtain ⟨a1, a2, a3, a4, a5⟩ := yun_ok h hs hg
  unfold yba
  simp only []
  generalize yun (T (gx (yxs X s))) s X = X1 at a1 a2 a3 a4 a5 ⊢
  by_cases hc : gm (yxs X1 s) 1 = 0
  · rw [if_pos hc]
    have h2 := yen_l (X := X1) (s := s) (v := 4)
    exact ⟨yen_ok a1 hs (by omega) (by omega) (by omega), by rw [yen_s]; exact a2, by rw [yen_s]; exact (by decide : (4 : Nat) ≠ 0), fun r hr => (yen_n hr).trans (a4 r hr), by omega⟩
  · rw [if_neg hc]; exact ⟨a1, a2, by omega, a4, by omega⟩
theorem ytu_ok {T : Nat → yT} {nm : Nat → Nat → Int32} {c s : Nat} {X : yX} (h : OKW T c X.1) (hs : s < 3) :
    OKW T c (ytu T nm s X).1 ∧ (∀ r, gx (yxs (ytu T nm s X) r) = gx (yxs X r) ∧ (gt (yxs (ytu T nm s X) r) = 0 ↔ gt (yxs X r) = 0)) ∧ yln (ytu T nm s X).2 ≤ yln X.2 + 13 := by
  unfold ytu
  by_cases h1 : gt (yxs X s) = 1
  · rw [if_pos h1]
    obtain ⟨a1, a2, a3, a4, a5⟩ := yfo_ok (nm := nm s) h hs h1
    refine ⟨a1, fun r => ?_, a5⟩
    by_cases e : r = s
    · subst e; exact ⟨a2, by omega⟩
    · rw [a4 r e]; exact ⟨rfl, Iff.rfl⟩
  · rw [if_neg h1]
    by_cases h2 : gt (yxs X s) = 2
    · rw [if_pos h2]
      obtain ⟨a1, a2, a3, a4, a5⟩ := yba_ok h hs (by omega)
      refine ⟨a1, fun r => ?_, by omega⟩
      by_cases e : r = s
      · subst e; exact ⟨a2, by omega⟩
      · rw [a4 r e]; exact ⟨rfl, Iff.rfl⟩
    · rw [if_neg h2]; exact ⟨h, fun r => ⟨rfl, Iff.rfl⟩, by omega⟩
theorem yti_ok {T : Nat → yT} {nm : Nat → Nat → Int32} {c : Nat} {X : yX} (h : OKW T c X.1) :
    OKW T c (yti T nm X).1 ∧ (∀ r, gx (yxs (yti T nm X) r) = gx (yxs X r) ∧ (gt (yxs (yti T nm X) r) = 0 ↔ gt (yxs X r) = 0)) ∧ yln (yti T nm X).2 ≤ yln X.2 + 39 := by
  obtain ⟨a1, a2, a3⟩ := ytu_ok (nm := nm) h (show 0 < 3 by omega)
  obtain ⟨b1, b2, b3⟩ := ytu_ok (nm := nm) a1 (show 1 < 3 by omega)
  obtain ⟨c1, c2, c3⟩ := ytu_ok (nm := nm) b1 (show 2 < 3 by omega)
  exact ⟨c1, fun r => ⟨(c2 r).1.trans ((b2 r).1.trans (a2 r).1), (c2 r).2.trans ((b2 r).2.trans (a2 r).2)⟩, by unfold yti; omega⟩
theorem ytn_ok {T : Nat → yT} {nm : Nat → Nat → Int32} {c : Nat} : ∀ (k : Nat) (X : yX), OKW T c X.1 → OKW T c (ytn T nm k X).1 ∧ ∀ r, gx (yxs (ytn T nm k X) r) = gx (yxs X r) ∧ (gt (yxs (ytn T nm k X) r) = 0 ↔ gt (yxs X r) = 0)
  | 0, X, h => ⟨h, fun r => ⟨rfl, Iff.rfl⟩⟩
  | k + 1, X, h => by
    obtain ⟨a1, a2, -⟩ := yti_ok (nm := nm) h
    obtain ⟨b1, b2⟩ := ytn_ok (nm := nm) k _ a1
    exact ⟨b1, fun r => ⟨(b2 r).1.trans (a2 r).1, (b2 r).2.trans (a2 r).2⟩⟩
/-! ===== contracts: worlds ===== -/
/-- a world with what stands around it -/
def CW (M : zM) (lo w u j : Nat) (T : Nat → yT) (c : Nat) (nm : Nat → Nat → Int32) (X : yX) : Prop := SC M ∧ Wd lo w u j ∧ RTx M T c ∧ OKW T c X.1 ∧ RW M u j T nm X
def FW (lo : Nat) : Nat → Nat → Prop := Fb lo (lo + 32)
theorem Wd.sg {lo w u j s : Nat} (h : Wd lo w u j) (hs : s < 3) : zSa (u + 3 + 8 * s) := by unfold zSa; rcases h with h | h <;> omega
theorem Wd.d {lo w u j : Nat} (h : Wd lo w u j) : 62 ≤ lo ∧ lo ≤ j ∧ j + 4 ≤ lo + 32 ∧ lo ≤ u ∧ u + 27 ≤ lo + 32 ∧ (j + 4 ≤ u) ∧ lo + 32 ≤ 126 := by rcases h with h | h <;> omega
theorem SC.wo {M : zM} (h : SC M) {lo w u j : Nat} (hw : Wd lo w u j) : SWo M w u j := by
  obtain ⟨_, _, _, _, _, h1, h2, _⟩ := h
  rcases hw with ⟨-, rfl, rfl, rfl⟩ | ⟨-, rfl, rfl, rfl⟩
  · exact h1
  · exact h2
theorem SC.pu {M : zM} (h : SC M) {lo w u j : Nat} (hw : Wd lo w u j) : SPu M u := by
  obtain ⟨_, _, _, _, _, _, _, h1, h2, _⟩ := h
  rcases hw with ⟨-, rfl, rfl, rfl⟩ | ⟨-, rfl, rfl, rfl⟩
  · exact h1
  · exact h2
theorem RW_sg {M M' : zM} {lo w u j s : Nat} {T : Nat → yT} {nm : Nat → Nat → Int32} {X : yX} {S : yS} (hw : Wd lo w u j) (h : RW M u j T nm X) (hs : s < 3) (hR : RS M' (u + 3 + 8 * s) T (nm s) S) (f : Fr (FS (u + 3 + 8 * s)) M M') : RW M' u j T nm (yss X s S) := by
  have d := hw.d
  refine ⟨RPu_fr h.1 f (fun b k h1 h2 q => by have := q.1; omega), fun r hr => ?_, RJ_fr h.2.2 f (fun b k h1 h2 q => by have := q.1; rcases hw with e | e <;> omega)⟩
  show RS M' (u + 3 + 8 * r) T (nm r) (yu X.1.2 s S r)
  by_cases e : r = s
  · subst e; rw [yu_s]; exact hR
  · rw [yu_n e]; exact RS_fr (h.2.1 r hr) f (fun b k h1 h2 q => by have := q.1; have := q.2; omega)
theorem RW_pu {M M' : zM} {lo w u j : Nat} {T : Nat → yT} {nm : Nat → Nat → Int32} {X : yX} {P : yP} (hw : Wd lo w u j) (h : RW M u j T nm X) (hR : RPu M' u P) (f : Fr (FU u) M M') : RW M' u j T nm (ysp X P) := by
  have d := hw.d
  exact ⟨hR, fun r hr => RS_fr (h.2.1 r hr) f (fun b k h1 h2 q => by have := q.2; omega), RJ_fr h.2.2 f (fun b k h1 h2 q => by have := q.1; rcases hw with e | e <;> omega)⟩
theorem RW_lg {M M' : zM} {lo w u j : Nat} {T : Nat → yT} {nm : Nat → Nat → Int32} {X : yX} {x : yL} (hw : Wd lo w u j) (h : RW M u j T nm X) (hR : RJ M' j (ylg X.2 x)) (f : Fr (Fb j (j + 4)) M M') : RW M' u j T nm (yno X x) := by
  have d := hw.d
  exact ⟨RPu_fr h.1 f (fun b k h1 h2 q => by have := q.2; omega), fun r hr => RS_fr (h.2.1 r hr) f (fun b k h1 h2 q => by have := q.2; omega), hR⟩
theorem CW.up {M M' : zM} {lo w u j : Nat} {T : Nat → yT} {c : Nat} {nm : Nat → Nat → Int32} {X X' : yX} (h : CW M lo w u j T c nm X) (hR : RW M' u j T nm X') (hO : OKW T c X'.1) (f : Fi (FW lo) M M') : CW M' lo w u j T c nm X' :=
  ⟨f.sc h.1 (fun a k ha q => by have := q.1; have := h.2.1.d; omega), h.2.1, RTx_fr h.2.2.1 h.2.2.2.1.1.1 f.fr (fun b k h1 h2 q => by have := q.1; have := h.2.1.d; omega), hO, hR⟩
theorem RS_gp {M M' : zM} {a : Nat} {T : Nat → yT} {nm p : Nat → Int32} {S : yS} (h : RS M a T nm S) (hp : ∀ j, j < 12 → zi M' (a + 4) j = p j) (f : Fi (fun b _ => b = a + 4) M M') : RS M' a T nm (gpS S p) := by
  have g : ∀ b k, b ≠ a + 4 → zi M' b k = zi M b k := fun b k n => f.1 b k n
  obtain ⟨⟨h1, h2, h3⟩, ⟨h4, h5, h6⟩, ⟨h7, h8⟩, h9, ha, hb⟩ := h
  exact ⟨⟨(g _ _ (by omega)).trans h1, (g _ _ (by omega)).trans h2, (f.r _ _).trans h3⟩, ⟨(g _ _ (by omega)).trans h4, (g _ _ (by omega)).trans h5, (g _ _ (by omega)).trans h6⟩,
    ⟨(g _ _ (by omega)).trans h7, fun k hk => (g _ _ (by omega)).trans (h8 k hk)⟩, fun k hk => (g _ _ (by omega)).trans (h9 k hk), fun k hk he => (g _ _ (by omega)).trans (ha k hk he),
    fun k hk => ⟨hp k hk, (g _ _ (by omega)).trans (hb k hk).2.1, (g _ _ (by omega)).trans (hb k hk).2.2.1, (g _ _ (by omega)).trans (hb k hk).2.2.2⟩⟩
theorem RS_gq {M M' : zM} {a : Nat} {T : Nat → yT} {nm p : Nat → Int32} {S : yS} (h : RS M a T nm S) (hp : ∀ j, j < 12 → zi M' (a + 5) j = p j) (f : Fi (fun b _ => b = a + 5) M M') : RS M' a T nm (gqS S p) := by
  have g : ∀ b k, b ≠ a + 5 → zi M' b k = zi M b k := fun b k n => f.1 b k n
  obtain ⟨⟨h1, h2, h3⟩, ⟨h4, h5, h6⟩, ⟨h7, h8⟩, h9, ha, hb⟩ := h
  exact ⟨⟨(g _ _ (by omega)).trans h1, (g _ _ (by omega)).trans h2, (f.r _ _).trans h3⟩, ⟨(g _ _ (by omega)).trans h4, (g _ _ (by omega)).trans h5, (g _ _ (by omega)).trans h6⟩,
    ⟨(g _ _ (by omega)).trans h7, fun k hk => (g _ _ (by omega)).trans (h8 k hk)⟩, fun k hk => (g _ _ (by omega)).trans (h9 k hk), fun k hk he => (g _ _ (by omega)).trans (ha k hk he),
    fun k hk => ⟨(g _ _ (by omega)).trans (hb k hk).1, hp k hk, (g _ _ (by omega)).trans (hb k hk).2.2.1, (g _ _ (by omega)).trans (hb k hk).2.2.2⟩⟩
theorem RS_gt {M : zM} {a v : Nat} {T : Nat → yT} {nm : Nat → Int32} {S : yS} (h : RS M a T nm S) (hg : gt S ≠ 0) (hv : v ≠ 0) : RS (zwi M a 0 (nI v)) a T nm (gtS S v) := by
  have g : ∀ b k, b ≠ a ∨ k ≠ 0 → zi (zwi M a 0 (nI v)) b k = zi M b k := fun b k n => wi_n n
  obtain ⟨⟨h1, h2, h3⟩, ⟨h4, h5, h6⟩, ⟨h7, h8⟩, h9, ha, hb⟩ := h
  have e1 : txt (gtS S v) = txt S := by show (if v = 0 then (-1 : Int32) else nI (gx S)) = if gt S = 0 then -1 else nI (gx S); rw [if_neg hg, if_neg hv]
  have e2 : prg (gtS S v) = prg S := by show (if v = 0 then none else some (20 + 7 * gx S)) = if gt S = 0 then none else some (20 + 7 * gx S); rw [if_neg hg, if_neg hv]
  have e3 : gz T (gtS S v) = gz T S := by show (if v = 0 then 0 else tn (T (gx S))) = if gt S = 0 then 0 else tn (T (gx S)); rw [if_neg hg, if_neg hv]
  refine ⟨⟨wi_s _ _ _ _, ?_, ?_⟩, ⟨(g _ _ (by omega)).trans h4, (g _ _ (by omega)).trans h5, (g _ _ (by omega)).trans h6⟩,
    ⟨(g _ _ (by omega)).trans h7, fun k hk => (g _ _ (by omega)).trans (h8 k hk)⟩, fun k hk => (g _ _ (by omega)).trans (h9 k (by rw [e3] at hk; exact hk)), fun k hk he => (g _ _ (by omega)).trans (ha k hk he),
    fun k hk => ⟨(g _ _ (by omega)).trans (hb k hk).1, (g _ _ (by omega)).trans (hb k hk).2.1, (g _ _ (by omega)).trans (hb k hk).2.2.1, (g _ _ (by omega)).trans (hb k hk).2.2.2⟩⟩
  · rw [e1, g _ _ (by omega)]; exact h2
  · rw [e2]; exact h3
theorem getD_app {l : List yL} {x : yL} {k : Nat} : (l ++ [x]).getD k (0, 0, 0) = if k = l.length then x else l.getD k (0, 0, 0) := by
  by_cases e : k = l.length
  · subst e; rw [if_pos rfl]; simp [List.getD]
  · rw [if_neg e]
    simp only [List.getD]
    by_cases h : k < l.length
    · rw [List.getElem?_append_left h]
    · rw [List.getElem?_eq_none (by rw [List.length_append]; show l.length + 1 ≤ k; omega), List.getElem?_eq_none (by omega)]
theorem c74t {d b i : Nat} {M : zM} {Q : Option Value → zM → Prop} {p : Nat → Int32} (hk : zk M b = (20, 12)) (hi : i < 12) (hp : ∀ j, j < 12 → zi M b j = p j) (h : ypl p i = true) (k : ∀ M', (∀ j, j < 12 → zi M' b j = ysd p i j) → Fi (fun a _ => a = b) M M' → Q (some (.int (nI 1))) M') : qC (d + 1) 74 [.ref b, .int (nI i)] M Q :=
  c74 hk hi hp (by rw [h]; exact k)
theorem c74f {d b i : Nat} {M : zM} {Q : Option Value → zM → Prop} {p : Nat → Int32} (hk : zk M b = (20, 12)) (hi : i < 12) (hp : ∀ j, j < 12 → zi M b j = p j) (h : ypl p i = false) (k : ∀ M', (∀ j, j < 12 → zi M' b j = ysd p i j) → Fi (fun a _ => a = b) M M' → Q (some (.int (nI 0))) M') : qC (d + 1) 74 [.ref b, .int (nI i)] M Q :=
  c74 hk hi hp (by rw [h]; exact k)
theorem d65_0 : decode (zB 65) 0 = .ok (.aload_n 0, 1) := (congrArg (fun c => decode c 0) zeq65).trans (by decide +kernel)
theorem d65_1 : decode (zB 65) 1 = .ok (.getfield 25, 3) := (congrArg (fun c => decode c 1) zeq65).trans (by decide +kernel)
theorem d65_4 : decode (zB 65) 4 = .ok (.ifCond .lt 55, 3) := (congrArg (fun c => decode c 4) zeq65).trans (by decide +kernel)
theorem d65_7 : decode (zB 65) 7 = .ok (.aload_n 0, 1) := (congrArg (fun c => decode c 7) zeq65).trans (by decide +kernel)
theorem d65_8 : decode (zB 65) 8 = .ok (.getfield 25, 3) := (congrArg (fun c => decode c 8) zeq65).trans (by decide +kernel)
theorem d65_11 : decode (zB 65) 11 = .ok (.aload_n 0, 1) := (congrArg (fun c => decode c 11) zeq65).trans (by decide +kernel)
theorem d65_12 : decode (zB 65) 12 = .ok (.getfield 13, 3) := (congrArg (fun c => decode c 12) zeq65).trans (by decide +kernel)
theorem d65_15 : decode (zB 65) 15 = .ok (.arraylength, 1) := (congrArg (fun c => decode c 15) zeq65).trans (by decide +kernel)
theorem d65_16 : decode (zB 65) 16 = .ok (.if_icmp .ge 43, 3) := (congrArg (fun c => decode c 16) zeq65).trans (by decide +kernel)
theorem d65_19 : decode (zB 65) 19 = .ok (.aload_n 0, 1) := (congrArg (fun c => decode c 19) zeq65).trans (by decide +kernel)
theorem d65_20 : decode (zB 65) 20 = .ok (.getfield 13, 3) := (congrArg (fun c => decode c 20) zeq65).trans (by decide +kernel)
theorem d65_23 : decode (zB 65) 23 = .ok (.aload_n 0, 1) := (congrArg (fun c => decode c 23) zeq65).trans (by decide +kernel)
theorem d65_24 : decode (zB 65) 24 = .ok (.getfield 25, 3) := (congrArg (fun c => decode c 24) zeq65).trans (by decide +kernel)
theorem d65_27 : decode (zB 65) 27 = .ok (.iload_n 1, 1) := (congrArg (fun c => decode c 27) zeq65).trans (by decide +kernel)
theorem d65_28 : decode (zB 65) 28 = .ok (.iastore, 1) := (congrArg (fun c => decode c 28) zeq65).trans (by decide +kernel)
theorem d65_29 : decode (zB 65) 29 = .ok (.aload_n 0, 1) := (congrArg (fun c => decode c 29) zeq65).trans (by decide +kernel)
theorem d65_30 : decode (zB 65) 30 = .ok (.getfield 19, 3) := (congrArg (fun c => decode c 30) zeq65).trans (by decide +kernel)
theorem d65_33 : decode (zB 65) 33 = .ok (.aload_n 0, 1) := (congrArg (fun c => decode c 33) zeq65).trans (by decide +kernel)
theorem d65_34 : decode (zB 65) 34 = .ok (.getfield 25, 3) := (congrArg (fun c => decode c 34) zeq65).trans (by decide +kernel)
theorem d65_37 : decode (zB 65) 37 = .ok (.iload_n 2, 1) := (congrArg (fun c => decode c 37) zeq65).trans (by decide +kernel)
theorem d65_38 : decode (zB 65) 38 = .ok (.iastore, 1) := (congrArg (fun c => decode c 38) zeq65).trans (by decide +kernel)
theorem d65_39 : decode (zB 65) 39 = .ok (.aload_n 0, 1) := (congrArg (fun c => decode c 39) zeq65).trans (by decide +kernel)
theorem d65_40 : decode (zB 65) 40 = .ok (.getfield 22, 3) := (congrArg (fun c => decode c 40) zeq65).trans (by decide +kernel)
theorem d65_43 : decode (zB 65) 43 = .ok (.aload_n 0, 1) := (congrArg (fun c => decode c 43) zeq65).trans (by decide +kernel)
theorem d65_44 : decode (zB 65) 44 = .ok (.getfield 25, 3) := (congrArg (fun c => decode c 44) zeq65).trans (by decide +kernel)
theorem d65_47 : decode (zB 65) 47 = .ok (.iload_n 3, 1) := (congrArg (fun c => decode c 47) zeq65).trans (by decide +kernel)
theorem d65_48 : decode (zB 65) 48 = .ok (.iastore, 1) := (congrArg (fun c => decode c 48) zeq65).trans (by decide +kernel)
theorem d65_49 : decode (zB 65) 49 = .ok (.aload_n 0, 1) := (congrArg (fun c => decode c 49) zeq65).trans (by decide +kernel)
theorem d65_50 : decode (zB 65) 50 = .ok (.dup, 1) := (congrArg (fun c => decode c 50) zeq65).trans (by decide +kernel)
theorem d65_51 : decode (zB 65) 51 = .ok (.getfield 25, 3) := (congrArg (fun c => decode c 51) zeq65).trans (by decide +kernel)
theorem d65_54 : decode (zB 65) 54 = .ok (.iconst 1, 1) := (congrArg (fun c => decode c 54) zeq65).trans (by decide +kernel)
theorem d65_55 : decode (zB 65) 55 = .ok (.iadd, 1) := (congrArg (fun c => decode c 55) zeq65).trans (by decide +kernel)
theorem d65_56 : decode (zB 65) 56 = .ok (.putfield 25, 3) := (congrArg (fun c => decode c 56) zeq65).trans (by decide +kernel)
theorem d65_59 : decode (zB 65) 59 = .ok (.return_, 1) := (congrArg (fun c => decode c 59) zeq65).trans (by decide +kernel)
theorem c65 {d : Nat} {M : zM} {Q : Option Value → zM → Prop} {j e o v : Nat} {g : Option (List yL)} (hS : SC M) (hJ : RJ M j g) (hl : yln g + 1 ≤ 240) (k : ∀ M', RJ M' j (ylg g (e, o, v)) → Fi (Fb j (j + 4)) M M' → Q none M') : qC (d + 1) 65 [.ref j, .int (nI e), .int (nI o), .int (nI v)] M Q := by
  refine qC_of (by decide) (Nat.le_of_ble_eq_true rfl) ?_
  cases g with
  | none =>
    have hs := hS.2.2.2.2.1
    have hj : j = 95 := hJ
    subst hj
    refine q_aload_n d65_0 rfl ?_
    refine q_getv (c := 0) (f := 3) d65_1 ⟨rfl, by decide⟩ hs.1 rfl ?_
    refine i0_lt 59 d65_4 (by decide) (fun h4 => ?_) (fun h4 => ?_)
    · refine q_ret d65_59 rfl ?_
      exact k _ rfl (Fi.refl _ _)
    · refine q_aload_n d65_7 rfl ?_
      refine q_getv (c := 0) (f := 3) d65_8 ⟨rfl, by decide⟩ hs.1 rfl ?_
      refine q_aload_n d65_11 rfl ?_
      refine q_getr (c := 0) (f := 0) d65_12 ⟨rfl, rfl⟩ hs.1 (hs.2 0 (by decide)).1 ?_
      refine n_alen d65_15 (Or.inl (hs.2 0 (by decide)).2) ?_
      refine ic_ge 59 d65_16 (by decide) (fun h16 => ?_) (fun h16 => (False.elim (h16 (show nI 0 ≤ zi M 95 3 from Int32.not_lt.mp h4))))
      refine q_ret d65_59 rfl ?_
      exact k _ rfl (Fi.refl _ _)
  | some L =>
    have hs := hS.2.2.2.1
    obtain ⟨hj, hJ⟩ := hJ
    subst hj
    have hl : L.length + 1 ≤ 240 := hl
    refine q_aload_n d65_0 rfl ?_
    refine q_getv (c := 0) (f := 3) d65_1 ⟨rfl, by decide⟩ hs.1 hJ.1 ?_
    refine n0_lt 59 d65_4 (by decide) (by omega) (fun q => absurd q (Nat.not_lt_zero _)) (fun _ => ?_)
    refine q_aload_n d65_7 rfl ?_
    refine q_getv (c := 0) (f := 3) d65_8 ⟨rfl, by decide⟩ hs.1 hJ.1 ?_
    refine q_aload_n d65_11 rfl ?_
    refine q_getr (c := 0) (f := 0) d65_12 ⟨rfl, rfl⟩ hs.1 (hs.2 0 (by decide)).1 ?_
    refine n_alen d65_15 (Or.inl (hs.2 0 (by decide)).2) ?_
    refine nc_ge 59 d65_16 (by decide) (by omega) (by omega) (fun h16 => (False.elim (by omega))) (fun h16 => ?_)
    refine q_aload_n d65_19 rfl ?_
    refine q_getr (c := 0) (f := 0) d65_20 ⟨rfl, rfl⟩ hs.1 (hs.2 0 (by decide)).1 ?_
    refine q_aload_n d65_23 rfl ?_
    refine q_getv (c := 0) (f := 3) d65_24 ⟨rfl, by decide⟩ hs.1 hJ.1 ?_
    refine q_iload_n d65_27 rfl ?_
    refine n_iast d65_28 (hs.2 0 (by decide)).2 (by omega) (by decide) ?_
    refine q_aload_n d65_29 rfl ?_
    refine q_getr (c := 0) (f := 1) d65_30 ⟨rfl, rfl⟩ hs.1 (hs.2 1 (by decide)).1 ?_
    refine q_aload_n d65_33 rfl ?_
    refine q_getv (c := 0) (f := 3) d65_34 ⟨rfl, by decide⟩ hs.1 (Eq.trans (by (repeat (first | rw [wi_n (Or.inl (by omega))] | rw [wi_n (Or.inr (by omega))] | rw [wi_s] | rw [wr_i] | rw [cp_n (by omega)]))) hJ.1) ?_
    refine q_iload_n d65_37 rfl ?_
    refine n_iast d65_38 (hs.2 1 (by decide)).2 (by omega) (by decide) ?_
    refine q_aload_n d65_39 rfl ?_
    refine q_getr (c := 0) (f := 2) d65_40 ⟨rfl, rfl⟩ hs.1 (hs.2 2 (by decide)).1 ?_
    refine q_aload_n d65_43 rfl ?_
    refine q_getv (c := 0) (f := 3) d65_44 ⟨rfl, by decide⟩ hs.1 (Eq.trans (by (repeat (first | rw [wi_n (Or.inl (by omega))] | rw [wi_n (Or.inr (by omega))] | rw [wi_s] | rw [wr_i] | rw [cp_n (by omega)]))) hJ.1) ?_
    refine q_iload_n d65_47 rfl ?_
    refine n_iast d65_48 (hs.2 2 (by decide)).2 (by omega) (by decide) ?_
    refine q_aload_n d65_49 rfl ?_
    refine q_dup d65_50 rfl ?_
    refine q_getv (c := 0) (f := 3) d65_51 ⟨rfl, by decide⟩ hs.1 (Eq.trans (by (repeat (first | rw [wi_n (Or.inl (by omega))] | rw [wi_n (Or.inr (by omega))] | rw [wi_s] | rw [wr_i] | rw [cp_n (by omega)]))) hJ.1) ?_
    refine q_iconstN (z := 1) d65_54 ?_
    refine n_iadd d65_55 ?_
    refine q_puti (c := 0) (f := 3) d65_56 ⟨rfl, rfl, by decide⟩ hs.1 ?_
    refine q_ret d65_59 rfl ?_
    refine k _ ⟨rfl, ?_, fun i hi => ?_⟩ (((((Fi.refl _ _).wi ⟨by omega, by omega⟩).wi ⟨by omega, by omega⟩).wi ⟨by omega, by omega⟩).wi ⟨by omega, by omega⟩)
    · rw [List.length_append]; exact wi_s _ _ _ _
    · rw [List.length_append] at hi
      have hi : i < L.length + 1 := hi
      rw [getD_app]
      by_cases q : i = L.length
      · subst q; rw [if_pos rfl]
        refine ⟨?_, ?_, ?_⟩
        · (repeat (first | rw [wi_n (Or.inl (by omega))] | rw [wi_n (Or.inr (by omega))] | rw [wi_s] | rw [wr_i] | rw [cp_n (by omega)] | rw [cp_0 (by omega)]))
        · (repeat (first | rw [wi_n (Or.inl (by omega))] | rw [wi_n (Or.inr (by omega))] | rw [wi_s] | rw [wr_i] | rw [cp_n (by omega)] | rw [cp_0 (by omega)]))
        · (repeat (first | rw [wi_n (Or.inl (by omega))] | rw [wi_n (Or.inr (by omega))] | rw [wi_s] | rw [wr_i] | rw [cp_n (by omega)] | rw [cp_0 (by omega)]))
      · rw [if_neg q]
        obtain ⟨a1, a2, a3⟩ := hJ.2 i (by omega)
        refine ⟨?_, ?_, ?_⟩
        · (repeat (first | rw [wi_n (Or.inl (by omega))] | rw [wi_n (Or.inr (by omega))] | rw [wi_s] | rw [wr_i] | rw [cp_n (by omega)] | rw [cp_0 (by omega)])); exact a1
        · (repeat (first | rw [wi_n (Or.inl (by omega))] | rw [wi_n (Or.inr (by omega))] | rw [wi_s] | rw [wr_i] | rw [cp_n (by omega)] | rw [cp_0 (by omega)])); exact a2
        · (repeat (first | rw [wi_n (Or.inl (by omega))] | rw [wi_n (Or.inr (by omega))] | rw [wi_s] | rw [wr_i] | rw [cp_n (by omega)] | rw [cp_0 (by omega)])); exact a3
theorem d79_0 : decode (zB 79) 0 = .ok (.aload_n 2, 1) := (congrArg (fun c => decode c 0) zeq79).trans (by decide +kernel)
theorem d79_1 : decode (zB 79) 1 = .ok (.iload_n 3, 1) := (congrArg (fun c => decode c 1) zeq79).trans (by decide +kernel)
theorem d79_2 : decode (zB 79) 2 = .ok (.putfield 65, 3) := (congrArg (fun c => decode c 2) zeq79).trans (by decide +kernel)
theorem d79_5 : decode (zB 79) 5 = .ok (.aload_n 0, 1) := (congrArg (fun c => decode c 5) zeq79).trans (by decide +kernel)
theorem d79_6 : decode (zB 79) 6 = .ok (.getfield 28, 3) := (congrArg (fun c => decode c 6) zeq79).trans (by decide +kernel)
theorem d79_9 : decode (zB 79) 9 = .ok (.iconst 5, 1) := (congrArg (fun c => decode c 9) zeq79).trans (by decide +kernel)
theorem d79_10 : decode (zB 79) 10 = .ok (.iload_n 1, 1) := (congrArg (fun c => decode c 10) zeq79).trans (by decide +kernel)
theorem d79_11 : decode (zB 79) 11 = .ok (.iload_n 3, 1) := (congrArg (fun c => decode c 11) zeq79).trans (by decide +kernel)
theorem d79_12 : decode (zB 79) 12 = .ok (.invokevirtual 129, 3) := (congrArg (fun c => decode c 12) zeq79).trans (by decide +kernel)
theorem d79_15 : decode (zB 79) 15 = .ok (.return_, 1) := (congrArg (fun c => decode c 15) zeq79).trans (by decide +kernel)
theorem c79 {d : Nat} {M : zM} {Q : Option Value → zM → Prop} {lo w u j c : Nat} {T : Nat → yT} {nm : Nat → Nat → Int32} {X : yX} {s : Nat} {v : Nat} (hC : CW M lo w u j T c nm X) (hs3 : s < 3) (hg : gt (yxs X s) ≠ 0) (hv : v ≠ 0) (h5 : v ≤ 5) (hl : yln X.2 + 1 ≤ 240) (k : ∀ M', CW M' lo w u j T c nm (yen X s v) → Fi (FW lo) M M' → Q none M') : qC (d + 2) 79 [.ref w, .int (nI s), .ref (u + 3 + 8 * s), .int (nI v)] M Q := by
  have hC0 := hC
  obtain ⟨hS, hw, hT, hO, hR⟩ := hC
  have hwo := hS.wo hw
  have hsa := hw.sg hs3
  have hs := hS.sg hsa
  have hd := hw.d
  have hjk : zk M j = (0, 0) := by
    obtain ⟨_, _, _, h1, h2, _⟩ := hS
    rcases hw with ⟨-, -, -, rfl⟩ | ⟨-, -, -, rfl⟩
    · exact h1.1
    · exact h2.1
  refine qC_of (by decide) (Nat.le_of_ble_eq_true rfl) ?_
  refine q_aload_n d79_0 rfl ?_
  refine q_iload_n d79_1 rfl ?_
  refine q_puti (c := 5) (f := 0) d79_2 ⟨rfl, rfl, by decide⟩ hs.1 ?_
  refine q_aload_n d79_5 rfl ?_
  refine q_getr (c := 6) (f := 1) d79_6 ⟨rfl, rfl⟩ hwo.1 hwo.2.2.1 ?_
  refine q_iconstN (z := 5) d79_9 ?_
  refine q_iload_n d79_10 rfl ?_
  refine q_iload_n d79_11 rfl ?_
  have hJ1 : RJ (zwi M (u + 3 + 8 * s) 0 (nI v)) j X.2 := RJ_fr hR.2.2 ((Fi.refl (FS (u + 3 + 8 * s)) M).wi FS_0).fr (fun b q h1 h2 e => by have := e.1; rcases hw with h | h <;> omega)
  refine q_v3 d79_12 rfl rfl hjk (Nat.le_of_ble_eq_true rfl) (c65 (SC_wi hS (by omega)) hJ1 hl (fun M2 hJ2 f2 => ?_))
  refine q_ret d79_15 rfl ?_
  have f1 : Fi (FS (u + 3 + 8 * s)) M (zwi M (u + 3 + 8 * s) 0 (nI v)) := (Fi.refl _ _).wi FS_0
  have hR1 := RW_sg hw hR hs3 (RS_gt (hR.2.1 s hs3) hg hv) f1.fr
  exact k _ (hC0.up (RW_lg hw hR1 hJ2 f2.fr) (yen_ok hO hs3 hg hv h5) ((f1.mono (Fb_m (by omega) (by omega))).trans (f2.mono (Fb_m (by omega) (by omega))))) ((f1.mono (Fb_m (by omega) (by omega))).trans (f2.mono (Fb_m (by omega) (by omega))))
/-! ===== contracts: a try ===== -/
theorem yss_yss (X : yX) (s : Nat) (A B : yS) : yss (yss X s A) s B = yss X s B := by
  unfold yss
  have : yu (yu X.1.2 s A) s B = yu X.1.2 s B := by
    funext k; by_cases e : k = s
    · subst e; rw [yu_s, yu_s]
    · rw [yu_n e, yu_n e, yu_n e]
  show ((X.1.1, yu (yu X.1.2 s A) s B), X.2) = _
  rw [this]
theorem yss_p (X : yX) (s : Nat) (A B : yS) (P : yP) : yss (ysp (yss X s A) P) s B = yss (ysp X P) s B := yss_yss (ysp X P) s A B
theorem ytr_A {T : yT} {n : Int32} {s i : Nat} {X : yX} (hp : ypl (gp (yxs X s)) i = false) (h : yob T X.1.1 i n 1 = 0) : ytr T n s i X = yno (yss (ysp X (ych T X.1.1 i n 1)) s (yDn (gpS (yxs X s) (ysd (gp (yxs X s)) i)) i n)) (1, s, i) := by
  unfold ytr
  simp only [hp, Bool.false_eq_true, if_false]
  rw [if_pos h]
theorem ytr_B {T : yT} {n r : Int32} {s i : Nat} {X : yX} (hr : (if ypl (gp (yxs X s)) i then 1 else yob T X.1.1 i n 1) = r) (h0 : ¬ r = 0) : ytr T n s i X =
    if ypa T (gm (yxs X s) 1) = true ∧ ¬ gf (yxs X s) i + 1 < nI 3 then yen (yno (yss X s (yfS (gpS (yxs X s) (ysd (gp (yxs X s)) i)) i r (ypa T (gm (yxs X s) 1)))) (2, s, i)) s 5
    else yno (yss X s (yfS (gpS (yxs X s) (ysd (gp (yxs X s)) i)) i r (ypa T (gm (yxs X s) 1)))) (2, s, i) := by
  subst hr
  unfold ytr
  simp only []
  rw [if_neg h0]
theorem yfS_f (S : yS) (i : Nat) (r : Int32) (p : Bool) : gf (yfS S i r p) = yu (gf S) i (gf S i + 1) := by
  unfold yfS; cases p <;> rfl
theorem yun_A {T : yT} {s i : Nat} {t : List Nat} {X : yX} (hg : go (yxs X s) = i :: t) (hp : ypl (gq (yxs X s)) i = false) (h : yob T X.1.1 i (gb (yxs X s) i) (-1) = 0) : yun T s X = yno (yss (ysp X (ych T X.1.1 i (gb (yxs X s) i) (-1))) s (goS (gdS (gqS (yxs X s) (ysd (gq (yxs X s)) i)) (yu (gd (yxs X s)) i 2)) t)) (3, s, i) := by
  unfold yun
  simp only [hg, hp, Bool.false_eq_true, if_false]
  rw [if_pos h]
  rfl
theorem yun_B {T : yT} {s i : Nat} {r : Int32} {t : List Nat} {X : yX} (hg : go (yxs X s) = i :: t) (hr : (if ypl (gq (yxs X s)) i then 1 else yob T X.1.1 i (gb (yxs X s) i) (-1)) = r) (h0 : ¬ r = 0) : yun T s X = yno (yss X s (gwS (goS (gdS (gqS (yxs X s) (ysd (gq (yxs X s)) i)) (yu (gd (yxs X s)) i 3)) t) (yu (gw (yxs X s)) i r))) (4, s, i) := by
  subst hr
  unfold yun
  simp only [hg]
  rw [if_neg h0]
  rfl
theorem d72_0 : decode (zB 72) 0 = .ok (.aload_n 2, 1) := (congrArg (fun c => decode c 0) zeq72).trans (by decide +kernel)
theorem d72_1 : decode (zB 72) 1 = .ok (.iload_n 3, 1) := (congrArg (fun c => decode c 1) zeq72).trans (by decide +kernel)
theorem d72_2 : decode (zB 72) 2 = .ok (.iconst 1, 1) := (congrArg (fun c => decode c 2) zeq72).trans (by decide +kernel)
theorem d72_3 : decode (zB 72) 3 = .ok (.invokevirtual 102, 3) := (congrArg (fun c => decode c 3) zeq72).trans (by decide +kernel)
theorem d72_6 : decode (zB 72) 6 = .ok (.istore 4, 2) := (congrArg (fun c => decode c 6) zeq72).trans (by decide +kernel)
theorem d72_8 : decode (zB 72) 8 = .ok (.aload_n 2, 1) := (congrArg (fun c => decode c 8) zeq72).trans (by decide +kernel)
theorem d72_9 : decode (zB 72) 9 = .ok (.getfield 106, 3) := (congrArg (fun c => decode c 9) zeq72).trans (by decide +kernel)
theorem d72_12 : decode (zB 72) 12 = .ok (.iload_n 3, 1) := (congrArg (fun c => decode c 12) zeq72).trans (by decide +kernel)
theorem d72_13 : decode (zB 72) 13 = .ok (.invokestatic 109, 3) := (congrArg (fun c => decode c 13) zeq72).trans (by decide +kernel)
theorem d72_16 : decode (zB 72) 16 = .ok (.istore 5, 2) := (congrArg (fun c => decode c 16) zeq72).trans (by decide +kernel)
theorem d72_18 : decode (zB 72) 18 = .ok (.iload 5, 2) := (congrArg (fun c => decode c 18) zeq72).trans (by decide +kernel)
theorem d72_20 : decode (zB 72) 20 = .ok (.ifCond .ne 20, 3) := (congrArg (fun c => decode c 20) zeq72).trans (by decide +kernel)
theorem d72_23 : decode (zB 72) 23 = .ok (.aload_n 0, 1) := (congrArg (fun c => decode c 23) zeq72).trans (by decide +kernel)
theorem d72_24 : decode (zB 72) 24 = .ok (.getfield 12, 3) := (congrArg (fun c => decode c 24) zeq72).trans (by decide +kernel)
theorem d72_27 : decode (zB 72) 27 = .ok (.aload_n 2, 1) := (congrArg (fun c => decode c 27) zeq72).trans (by decide +kernel)
theorem d72_28 : decode (zB 72) 28 = .ok (.getfield 113, 3) := (congrArg (fun c => decode c 28) zeq72).trans (by decide +kernel)
theorem d72_31 : decode (zB 72) 31 = .ok (.iload_n 3, 1) := (congrArg (fun c => decode c 31) zeq72).trans (by decide +kernel)
theorem d72_32 : decode (zB 72) 32 = .ok (.iload 4, 2) := (congrArg (fun c => decode c 32) zeq72).trans (by decide +kernel)
theorem d72_34 : decode (zB 72) 34 = .ok (.iconst 1, 1) := (congrArg (fun c => decode c 34) zeq72).trans (by decide +kernel)
theorem d72_35 : decode (zB 72) 35 = .ok (.invokevirtual 117, 3) := (congrArg (fun c => decode c 35) zeq72).trans (by decide +kernel)
theorem d72_38 : decode (zB 72) 38 = .ok (.istore 5, 2) := (congrArg (fun c => decode c 38) zeq72).trans (by decide +kernel)
theorem d72_40 : decode (zB 72) 40 = .ok (.iload 5, 2) := (congrArg (fun c => decode c 40) zeq72).trans (by decide +kernel)
theorem d72_42 : decode (zB 72) 42 = .ok (.ifCond .ne 34, 3) := (congrArg (fun c => decode c 42) zeq72).trans (by decide +kernel)
theorem d72_45 : decode (zB 72) 45 = .ok (.aload_n 0, 1) := (congrArg (fun c => decode c 45) zeq72).trans (by decide +kernel)
theorem d72_46 : decode (zB 72) 46 = .ok (.getfield 12, 3) := (congrArg (fun c => decode c 46) zeq72).trans (by decide +kernel)
theorem d72_49 : decode (zB 72) 49 = .ok (.aload_n 2, 1) := (congrArg (fun c => decode c 49) zeq72).trans (by decide +kernel)
theorem d72_50 : decode (zB 72) 50 = .ok (.getfield 113, 3) := (congrArg (fun c => decode c 50) zeq72).trans (by decide +kernel)
theorem d72_53 : decode (zB 72) 53 = .ok (.iload_n 3, 1) := (congrArg (fun c => decode c 53) zeq72).trans (by decide +kernel)
theorem d72_54 : decode (zB 72) 54 = .ok (.iload 4, 2) := (congrArg (fun c => decode c 54) zeq72).trans (by decide +kernel)
theorem d72_56 : decode (zB 72) 56 = .ok (.iconst 1, 1) := (congrArg (fun c => decode c 56) zeq72).trans (by decide +kernel)
theorem d72_57 : decode (zB 72) 57 = .ok (.invokevirtual 121, 3) := (congrArg (fun c => decode c 57) zeq72).trans (by decide +kernel)
theorem d72_60 : decode (zB 72) 60 = .ok (.aload_n 2, 1) := (congrArg (fun c => decode c 60) zeq72).trans (by decide +kernel)
theorem d72_61 : decode (zB 72) 61 = .ok (.iload_n 3, 1) := (congrArg (fun c => decode c 61) zeq72).trans (by decide +kernel)
theorem d72_62 : decode (zB 72) 62 = .ok (.invokevirtual 125, 3) := (congrArg (fun c => decode c 62) zeq72).trans (by decide +kernel)
theorem d72_65 : decode (zB 72) 65 = .ok (.aload_n 0, 1) := (congrArg (fun c => decode c 65) zeq72).trans (by decide +kernel)
theorem d72_66 : decode (zB 72) 66 = .ok (.getfield 28, 3) := (congrArg (fun c => decode c 66) zeq72).trans (by decide +kernel)
theorem d72_69 : decode (zB 72) 69 = .ok (.iconst 1, 1) := (congrArg (fun c => decode c 69) zeq72).trans (by decide +kernel)
theorem d72_70 : decode (zB 72) 70 = .ok (.iload_n 1, 1) := (congrArg (fun c => decode c 70) zeq72).trans (by decide +kernel)
theorem d72_71 : decode (zB 72) 71 = .ok (.iload_n 3, 1) := (congrArg (fun c => decode c 71) zeq72).trans (by decide +kernel)
theorem d72_72 : decode (zB 72) 72 = .ok (.invokevirtual 129, 3) := (congrArg (fun c => decode c 72) zeq72).trans (by decide +kernel)
theorem d72_75 : decode (zB 72) 75 = .ok (.return_, 1) := (congrArg (fun c => decode c 75) zeq72).trans (by decide +kernel)
theorem d72_76 : decode (zB 72) 76 = .ok (.aload_n 2, 1) := (congrArg (fun c => decode c 76) zeq72).trans (by decide +kernel)
theorem d72_77 : decode (zB 72) 77 = .ok (.iload_n 3, 1) := (congrArg (fun c => decode c 77) zeq72).trans (by decide +kernel)
theorem d72_78 : decode (zB 72) 78 = .ok (.iload 5, 2) := (congrArg (fun c => decode c 78) zeq72).trans (by decide +kernel)
theorem d72_80 : decode (zB 72) 80 = .ok (.invokevirtual 135, 3) := (congrArg (fun c => decode c 80) zeq72).trans (by decide +kernel)
theorem d72_83 : decode (zB 72) 83 = .ok (.aload_n 0, 1) := (congrArg (fun c => decode c 83) zeq72).trans (by decide +kernel)
theorem d72_84 : decode (zB 72) 84 = .ok (.getfield 28, 3) := (congrArg (fun c => decode c 84) zeq72).trans (by decide +kernel)
theorem d72_87 : decode (zB 72) 87 = .ok (.iconst 2, 1) := (congrArg (fun c => decode c 87) zeq72).trans (by decide +kernel)
theorem d72_88 : decode (zB 72) 88 = .ok (.iload_n 1, 1) := (congrArg (fun c => decode c 88) zeq72).trans (by decide +kernel)
theorem d72_89 : decode (zB 72) 89 = .ok (.iload_n 3, 1) := (congrArg (fun c => decode c 89) zeq72).trans (by decide +kernel)
theorem d72_90 : decode (zB 72) 90 = .ok (.invokevirtual 129, 3) := (congrArg (fun c => decode c 90) zeq72).trans (by decide +kernel)
theorem d72_93 : decode (zB 72) 93 = .ok (.aload_n 2, 1) := (congrArg (fun c => decode c 93) zeq72).trans (by decide +kernel)
theorem d72_94 : decode (zB 72) 94 = .ok (.getfield 65, 3) := (congrArg (fun c => decode c 94) zeq72).trans (by decide +kernel)
theorem d72_97 : decode (zB 72) 97 = .ok (.iconst 1, 1) := (congrArg (fun c => decode c 97) zeq72).trans (by decide +kernel)
theorem d72_98 : decode (zB 72) 98 = .ok (.if_icmp .ne 18, 3) := (congrArg (fun c => decode c 98) zeq72).trans (by decide +kernel)
theorem d72_101 : decode (zB 72) 101 = .ok (.aload_n 2, 1) := (congrArg (fun c => decode c 101) zeq72).trans (by decide +kernel)
theorem d72_102 : decode (zB 72) 102 = .ok (.iload_n 3, 1) := (congrArg (fun c => decode c 102) zeq72).trans (by decide +kernel)
theorem d72_103 : decode (zB 72) 103 = .ok (.invokevirtual 139, 3) := (congrArg (fun c => decode c 103) zeq72).trans (by decide +kernel)
theorem d72_106 : decode (zB 72) 106 = .ok (.ifCond .eq 10, 3) := (congrArg (fun c => decode c 106) zeq72).trans (by decide +kernel)
theorem d72_109 : decode (zB 72) 109 = .ok (.aload_n 0, 1) := (congrArg (fun c => decode c 109) zeq72).trans (by decide +kernel)
theorem d72_110 : decode (zB 72) 110 = .ok (.iload_n 1, 1) := (congrArg (fun c => decode c 110) zeq72).trans (by decide +kernel)
theorem d72_111 : decode (zB 72) 111 = .ok (.aload_n 2, 1) := (congrArg (fun c => decode c 111) zeq72).trans (by decide +kernel)
theorem d72_112 : decode (zB 72) 112 = .ok (.iconst 5, 1) := (congrArg (fun c => decode c 112) zeq72).trans (by decide +kernel)
theorem d72_113 : decode (zB 72) 113 = .ok (.invokevirtual 99, 3) := (congrArg (fun c => decode c 113) zeq72).trans (by decide +kernel)
theorem d72_116 : decode (zB 72) 116 = .ok (.return_, 1) := (congrArg (fun c => decode c 116) zeq72).trans (by decide +kernel)
theorem c72 {d : Nat} {M : zM} {Q : Option Value → zM → Prop} {lo w u j c : Nat} {T : Nat → yT} {nm : Nat → Nat → Int32} {X : yX} {s : Nat} {i : Nat} (hC : CW M lo w u j T c nm X) (hs3 : s < 3) (h1 : gt (yxs X s) = 1) (hi : i < tn (T (gx (yxs X s)))) (h0 : gd (yxs X s) i = 0) (hl : yln X.2 + 2 ≤ 240) (k : ∀ M', CW M' lo w u j T c nm (ytr (T (gx (yxs X s))) (nm s i) s i X) → Fi (FW lo) M M' → Q none M') : qC (d + 3) 72 [.ref w, .int (nI s), .ref (u + 3 + 8 * s), .int (nI i)] M Q := by
  refine qC_of (by decide) (Nat.le_of_ble_eq_true rfl) ?_
  have hC0 := hC
  obtain ⟨hS, hw, hT, hO, hR⟩ := hC
  have hwo := hS.wo hw
  have hsa := hw.sg hs3
  have hs := hS.sg hsa
  have hd := hw.d
  have hRs : RS M (u + 3 + 8 * s) T (nm s) (yxs X s) := hR.2.1 s hs3
  have hRs' := hRs
  have hOs : OKS T c (yxs X s) := hO.2.2 s hs3
  have hx : gx (yxs X s) < c := hOs.2.1 (by show gt (yxs X s) ≠ 0; omega)
  have hc6 := hO.1.1
  have ho := hO.1.2 _ hx
  have hn := ho.n
  have hz : gz T (yxs X s) = tn (T (gx (yxs X s))) := by unfold gz; rw [if_neg (by omega)]
  obtain ⟨⟨q0, q1, q2⟩, ⟨q3, q4, q5⟩, ⟨q7, q8⟩, q9, qa, qb⟩ := hRs
  have e2 : zr M (u + 3 + 8 * s) 2 = some (20 + 7 * gx (yxs X s)) := q2.trans (if_neg (by show ¬ gt (yxs X s) = 0; omega))
  have hlen : (go (yxs X s)).length < 12 := by
    have h2 := OKS_len (OKS_done (S := yxs X s) (n := 0) hOs (show i < gz T (yxs X s) by omega) h0) (show gz T (yxs X s) ≤ 12 by omega)
    have h3 : (go (yxs X s)).length + 1 ≤ gz T (yxs X s) := h2
    omega
  cases hpl : ypl (gp (yxs X s)) i with
  | true =>
    refine q_aload_n d72_0 rfl ?_
    refine q_iload_n d72_1 rfl ?_
    refine q_iconstN (z := 1) d72_2 ?_
    refine q_v2 d72_3 rfl rfl hs.1 (Nat.le_of_ble_eq_true rfl) (c73 hs (by omega) (q9 i (by omega)) ?_)
    refine q_istore d72_6 (by decide) rfl ?_
    refine q_aload_n d72_8 rfl ?_
    refine q_getr (c := 5) (f := 10) d72_9 ⟨rfl, rfl⟩ hs.1 (hs.2.2.1 2 (by decide)) ?_
    refine q_iload_n d72_12 rfl ?_
    refine q_s2 d72_13 (Or.inl rfl) rfl (Nat.le_of_ble_eq_true rfl) (c74t (hs.2.2.2 3 (by decide)) (by omega) (fun j hj => (qb j hj).1) hpl (fun M1 hp1 f1 => ?_))
    have g1 : Fi (FW lo) M M1 := f1.mono (fun b _ q => ⟨by omega, by omega⟩)
    have hRs1 : RS M1 (u + 3 + 8 * s) T (nm s) (gpS (yxs X s) (ysd (gp (yxs X s)) i)) := RS_gp hRs' hp1 f1
    have hC1 := hC0.up (X' := yss X s (gpS (yxs X s) (ysd (gp (yxs X s)) i))) (RW_sg hw hR hs3 hRs1 (f1.mono (fun b _ q => FS_x (by omega) (by omega))).fr) (OKW_ss hO (OKS_pl (S := yxs X s) hOs)) g1
    have hC1' := hC1
    obtain ⟨hS1, -, hT1, hO1, hR1⟩ := hC1
    have hwo1 := hS1.wo hw
    have hs1 := hS1.sg hsa
    have e21 : zr M1 (u + 3 + 8 * s) 2 = some (20 + 7 * gx (yxs X s)) := (f1.r _ _).trans e2
    refine q_istore d72_16 (by decide) rfl ?_
    refine q_iload d72_18 rfl ?_
    refine n0_ne 40 d72_20 (by decide) (by decide) (fun _ => ?_) (fun q => absurd q (by decide))
    refine q_iload d72_40 rfl ?_
    refine n0_ne 76 d72_42 (by decide) (by decide) (fun _ => ?_) (fun q => absurd q (by decide))
    refine q_aload_n d72_76 rfl ?_
    refine q_iload_n d72_77 rfl ?_
    refine q_iload d72_78 rfl ?_
    refine q_v2 d72_80 rfl rfl hs1.1 (Nat.le_of_ble_eq_true rfl) (c76 hs1 hRs1 (by omega) (show ¬ gt (yxs X s) = 0 by omega) (hS1.pr (show gx (yxs X s) < 6 by omega)) (hT1 _ hx) (show 20 + 7 * gx (yxs X s) + 6 ≤ u + 3 + 8 * s by omega) (fun M2 hR2s f2 => ?_))
    have g2 : Fi (FW lo) M1 M2 := f2.mono (Fb_m (by omega) (by omega))
    have hR2 := RW_sg hw hR1 hs3 hR2s f2.fr
    rw [yss_yss] at hR2
    have hC2 := hC1'.up (X' := yss X s (yfS (gpS (yxs X s) (ysd (gp (yxs X s)) i)) i (nI 1) (ypa (T (gx (yxs X s))) (gm (yxs X s) 1)))) hR2 (OKW_ss hO (OKS_fS (S := (gpS (yxs X s) (ysd (gp (yxs X s)) i))) hOs (show gt (yxs X s) ≠ 0 by omega))) g2
    have hC2' := hC2
    obtain ⟨hS2, -, hT2, hO2, hR2⟩ := hC2
    have hwo2 := hS2.wo hw
    have hs2 := hS2.sg hsa
    have e22 : zr M2 (u + 3 + 8 * s) 2 = some (20 + 7 * gx (yxs X s)) := (f2.r _ _).trans e21
    have hjk2 : zk M2 j = (0, 0) := by
      obtain ⟨_, _, _, h1, h2, _⟩ := hS2
      rcases hw with ⟨-, -, -, rfl⟩ | ⟨-, -, -, rfl⟩
      · exact h1.1
      · exact h2.1
    refine q_aload_n d72_83 rfl ?_
    refine q_getr (c := 6) (f := 1) d72_84 ⟨rfl, rfl⟩ hwo2.1 hwo2.2.2.1 ?_
    refine q_iconstN (z := 2) d72_87 ?_
    refine q_iload_n d72_88 rfl ?_
    refine q_iload_n d72_89 rfl ?_
    refine q_v3 d72_90 rfl rfl hjk2 (Nat.le_of_ble_eq_true rfl) (c65 hS2 hR2.2.2 (by show yln X.2 + 1 ≤ 240; omega) (fun M3 hJ3 f3 => ?_))
    have g3 : Fi (FW lo) M2 M3 := f3.mono (Fb_m (by omega) (by omega))
    have hC3 := hC2'.up (X' := yno (yss X s (yfS (gpS (yxs X s) (ysd (gp (yxs X s)) i)) i (nI 1) (ypa (T (gx (yxs X s))) (gm (yxs X s) 1)))) (2, s, i)) (RW_lg hw hR2 hJ3 f3.fr) hO2 g3
    have hs3' := hC3.1.sg hsa
    have hR3s : RS M3 (u + 3 + 8 * s) T (nm s) (yfS (gpS (yxs X s) (ysd (gp (yxs X s)) i)) i (nI 1) (ypa (T (gx (yxs X s))) (gm (yxs X s) 1))) := RS_fr hR2s f3.fr (fun b k h1 h2 q => by have := q.2; omega)
    have qg : zi M3 (u + 3 + 8 * s) 0 = nI (gt (yfS (gpS (yxs X s) (ysd (gp (yxs X s)) i)) i (nI 1) (ypa (T (gx (yxs X s))) (gm (yxs X s) 1)))) := hR3s.1.1
    have qf : zi M3 (u + 3 + 8 * s + 6) i = gf (yxs X s) i + 1 := ((hR3s.2.2.2.2.2 i (by omega)).2.2.1).trans (by rw [yfS_f, yu_s]; rfl)
    have hgt := (yfS_d (gpS (yxs X s) (ysd (gp (yxs X s)) i)) i (nI 1) (ypa (T (gx (yxs X s))) (gm (yxs X s) 1))).2.2
    have hgs : gt (gpS (yxs X s) (ysd (gp (yxs X s)) i)) = 1 := h1
    rw [hgs] at hgt
    have hg3 : gt (yxs (yno (yss X s (yfS (gpS (yxs X s) (ysd (gp (yxs X s)) i)) i (nI 1) (ypa (T (gx (yxs X s))) (gm (yxs X s) 1)))) (2, s, i)) s) ≠ 0 := by
      show gt (yu X.1.2 s (yfS (gpS (yxs X s) (ysd (gp (yxs X s)) i)) i (nI 1) (ypa (T (gx (yxs X s))) (gm (yxs X s) 1))) s) ≠ 0
      rw [yu_s, hgt]; split <;> omega
    have hb5 : gt (yfS (gpS (yxs X s) (ysd (gp (yxs X s)) i)) i (nI 1) (ypa (T (gx (yxs X s))) (gm (yxs X s) 1))) < 2147483648 := by rw [hgt]; split <;> omega
    have hl3 : yln (yno (yss X s (yfS (gpS (yxs X s) (ysd (gp (yxs X s)) i)) i (nI 1) (ypa (T (gx (yxs X s))) (gm (yxs X s) 1)))) (2, s, i)).2 + 1 ≤ 240 := by have := yln_lg X.2 (2, s, i); show yln (ylg X.2 (2, s, i)) + 1 ≤ 240; omega
    rw [ytr_B (r := (nI 1)) (by rw [hpl]; rfl) (by decide)] at k
    refine q_aload_n d72_93 rfl ?_
    refine q_getv (c := 5) (f := 0) d72_94 ⟨rfl, by decide⟩ hs3'.1 qg ?_
    refine q_iconstN (z := 1) d72_97 ?_
    refine nc_ne 116 d72_98 (by decide) (by omega) (by omega) (fun h98 => ?_) (fun h98 => ?_)
    · refine q_ret d72_116 rfl ?_
      first
      | (rw [if_pos ⟨by by_cases e : ypa (T (gx (yxs X s))) (gm (yxs X s) 1) = true; exact e; (rw [if_neg e] at hgt; omega), of_decide_eq_true h106⟩] at k; exact k _ hC4 (((g1.trans g2).trans g3).trans f4))
      | (rw [if_neg (fun q => absurd q.2 (of_decide_eq_false h106))] at k; exact k _ hC3 ((g1.trans g2).trans g3))
      | (rw [if_neg (fun q => by rw [if_pos q.1] at hgt; exact h98 hgt)] at k; exact k _ hC3 ((g1.trans g2).trans g3))
    · refine q_aload_n d72_101 rfl ?_
      refine q_iload_n d72_102 rfl ?_
      refine q_v1 d72_103 rfl rfl hs3'.1 (Nat.le_of_ble_eq_true rfl) (c78 hs3' (by omega) qf ?_)
      refine b0_eq 116 d72_106 (by decide) (fun h106 => ?_) (fun h106 => ?_)
      · refine q_ret d72_116 rfl ?_
        first
        | (rw [if_pos ⟨by by_cases e : ypa (T (gx (yxs X s))) (gm (yxs X s) 1) = true; exact e; (rw [if_neg e] at hgt; omega), of_decide_eq_true h106⟩] at k; exact k _ hC4 (((g1.trans g2).trans g3).trans f4))
        | (rw [if_neg (fun q => absurd q.2 (of_decide_eq_false h106))] at k; exact k _ hC3 ((g1.trans g2).trans g3))
        | (rw [if_neg (fun q => by rw [if_pos q.1] at hgt; exact h98 hgt)] at k; exact k _ hC3 ((g1.trans g2).trans g3))
      · refine q_aload_n d72_109 rfl ?_
        refine q_iload_n d72_110 rfl ?_
        refine q_aload_n d72_111 rfl ?_
        refine q_iconstN (z := 5) d72_112 ?_
        refine q_v3 d72_113 rfl rfl (hC3.1.wo hw).1 (Nat.le_of_ble_eq_true rfl) (c79 hC3 hs3 hg3 (by decide) (by decide) hl3 (fun M4 hC4 f4 => ?_))
        refine q_ret d72_116 rfl ?_
        first
        | (rw [if_pos ⟨by by_cases e : ypa (T (gx (yxs X s))) (gm (yxs X s) 1) = true; exact e; (rw [if_neg e] at hgt; omega), of_decide_eq_true h106⟩] at k; exact k _ hC4 (((g1.trans g2).trans g3).trans f4))
        | (rw [if_neg (fun q => absurd q.2 (of_decide_eq_false h106))] at k; exact k _ hC3 ((g1.trans g2).trans g3))
        | (rw [if_neg (fun q => by rw [if_pos q.1] at hgt; exact h98 hgt)] at k; exact k _ hC3 ((g1.trans g2).trans g3))
  | false =>
    refine q_aload_n d72_0 rfl ?_
    refine q_iload_n d72_1 rfl ?_
    refine q_iconstN (z := 1) d72_2 ?_
    refine q_v2 d72_3 rfl rfl hs.1 (Nat.le_of_ble_eq_true rfl) (c73 hs (by omega) (q9 i (by omega)) ?_)
    refine q_istore d72_6 (by decide) rfl ?_
    refine q_aload_n d72_8 rfl ?_
    refine q_getr (c := 5) (f := 10) d72_9 ⟨rfl, rfl⟩ hs.1 (hs.2.2.1 2 (by decide)) ?_
    refine q_iload_n d72_12 rfl ?_
    refine q_s2 d72_13 (Or.inl rfl) rfl (Nat.le_of_ble_eq_true rfl) (c74f (hs.2.2.2 3 (by decide)) (by omega) (fun j hj => (qb j hj).1) hpl (fun M1 hp1 f1 => ?_))
    have g1 : Fi (FW lo) M M1 := f1.mono (fun b _ q => ⟨by omega, by omega⟩)
    have hRs1 : RS M1 (u + 3 + 8 * s) T (nm s) (gpS (yxs X s) (ysd (gp (yxs X s)) i)) := RS_gp hRs' hp1 f1
    have hC1 := hC0.up (X' := yss X s (gpS (yxs X s) (ysd (gp (yxs X s)) i))) (RW_sg hw hR hs3 hRs1 (f1.mono (fun b _ q => FS_x (by omega) (by omega))).fr) (OKW_ss hO (OKS_pl (S := yxs X s) hOs)) g1
    have hC1' := hC1
    obtain ⟨hS1, -, hT1, hO1, hR1⟩ := hC1
    have hwo1 := hS1.wo hw
    have hs1 := hS1.sg hsa
    have e21 : zr M1 (u + 3 + 8 * s) 2 = some (20 + 7 * gx (yxs X s)) := (f1.r _ _).trans e2
    refine q_istore d72_16 (by decide) rfl ?_
    refine q_iload d72_18 rfl ?_
    refine n0_ne 40 d72_20 (by decide) (by decide) (fun q => absurd q (by decide)) (fun _ => ?_)
    refine q_aload_n d72_23 rfl ?_
    refine q_getr (c := 6) (f := 2) d72_24 ⟨rfl, rfl⟩ hwo1.1 hwo1.2.2.2.1 ?_
    refine q_aload_n d72_27 rfl ?_
    refine q_getr (c := 5) (f := 2) d72_28 ⟨rfl, rfl⟩ hs1.1 e21 ?_
    refine q_iload_n d72_31 rfl ?_
    refine q_iload d72_32 rfl ?_
    refine q_iconstN (z := 1) d72_34 ?_
    refine q_v4 d72_35 rfl rfl (hS1.pu hw).1 (Nat.le_of_ble_eq_true rfl) (c46 (P := X.1.1) (hS1.pu hw) hR1.1 (hS1.pr (by omega)) (hT1 _ hx) ho hi ?_)
    refine q_istore d72_38 (by decide) rfl ?_
    refine q_iload d72_40 rfl ?_
    refine i0_ne 76 d72_42 (by decide) (fun h42 => ?_) (fun h42 => ?_)
    · refine q_aload_n d72_76 rfl ?_
      refine q_iload_n d72_77 rfl ?_
      refine q_iload d72_78 rfl ?_
      refine q_v2 d72_80 rfl rfl hs1.1 (Nat.le_of_ble_eq_true rfl) (c76 hs1 hRs1 (by omega) (show ¬ gt (yxs X s) = 0 by omega) (hS1.pr (show gx (yxs X s) < 6 by omega)) (hT1 _ hx) (show 20 + 7 * gx (yxs X s) + 6 ≤ u + 3 + 8 * s by omega) (fun M2 hR2s f2 => ?_))
      have g2 : Fi (FW lo) M1 M2 := f2.mono (Fb_m (by omega) (by omega))
      have hR2 := RW_sg hw hR1 hs3 hR2s f2.fr
      rw [yss_yss] at hR2
      have hC2 := hC1'.up (X' := yss X s (yfS (gpS (yxs X s) (ysd (gp (yxs X s)) i)) i (yob (T (gx (yxs X s))) X.1.1 i (nm s i) 1) (ypa (T (gx (yxs X s))) (gm (yxs X s) 1)))) hR2 (OKW_ss hO (OKS_fS (S := (gpS (yxs X s) (ysd (gp (yxs X s)) i))) hOs (show gt (yxs X s) ≠ 0 by omega))) g2
      have hC2' := hC2
      obtain ⟨hS2, -, hT2, hO2, hR2⟩ := hC2
      have hwo2 := hS2.wo hw
      have hs2 := hS2.sg hsa
      have e22 : zr M2 (u + 3 + 8 * s) 2 = some (20 + 7 * gx (yxs X s)) := (f2.r _ _).trans e21
      have hjk2 : zk M2 j = (0, 0) := by
        obtain ⟨_, _, _, h1, h2, _⟩ := hS2
        rcases hw with ⟨-, -, -, rfl⟩ | ⟨-, -, -, rfl⟩
        · exact h1.1
        · exact h2.1
      refine q_aload_n d72_83 rfl ?_
      refine q_getr (c := 6) (f := 1) d72_84 ⟨rfl, rfl⟩ hwo2.1 hwo2.2.2.1 ?_
      refine q_iconstN (z := 2) d72_87 ?_
      refine q_iload_n d72_88 rfl ?_
      refine q_iload_n d72_89 rfl ?_
      refine q_v3 d72_90 rfl rfl hjk2 (Nat.le_of_ble_eq_true rfl) (c65 hS2 hR2.2.2 (by show yln X.2 + 1 ≤ 240; omega) (fun M3 hJ3 f3 => ?_))
      have g3 : Fi (FW lo) M2 M3 := f3.mono (Fb_m (by omega) (by omega))
      have hC3 := hC2'.up (X' := yno (yss X s (yfS (gpS (yxs X s) (ysd (gp (yxs X s)) i)) i (yob (T (gx (yxs X s))) X.1.1 i (nm s i) 1) (ypa (T (gx (yxs X s))) (gm (yxs X s) 1)))) (2, s, i)) (RW_lg hw hR2 hJ3 f3.fr) hO2 g3
      have hs3' := hC3.1.sg hsa
      have hR3s : RS M3 (u + 3 + 8 * s) T (nm s) (yfS (gpS (yxs X s) (ysd (gp (yxs X s)) i)) i (yob (T (gx (yxs X s))) X.1.1 i (nm s i) 1) (ypa (T (gx (yxs X s))) (gm (yxs X s) 1))) := RS_fr hR2s f3.fr (fun b k h1 h2 q => by have := q.2; omega)
      have qg : zi M3 (u + 3 + 8 * s) 0 = nI (gt (yfS (gpS (yxs X s) (ysd (gp (yxs X s)) i)) i (yob (T (gx (yxs X s))) X.1.1 i (nm s i) 1) (ypa (T (gx (yxs X s))) (gm (yxs X s) 1)))) := hR3s.1.1
      have qf : zi M3 (u + 3 + 8 * s + 6) i = gf (yxs X s) i + 1 := ((hR3s.2.2.2.2.2 i (by omega)).2.2.1).trans (by rw [yfS_f, yu_s]; rfl)
      have hgt := (yfS_d (gpS (yxs X s) (ysd (gp (yxs X s)) i)) i (yob (T (gx (yxs X s))) X.1.1 i (nm s i) 1) (ypa (T (gx (yxs X s))) (gm (yxs X s) 1))).2.2
      have hgs : gt (gpS (yxs X s) (ysd (gp (yxs X s)) i)) = 1 := h1
      rw [hgs] at hgt
      have hg3 : gt (yxs (yno (yss X s (yfS (gpS (yxs X s) (ysd (gp (yxs X s)) i)) i (yob (T (gx (yxs X s))) X.1.1 i (nm s i) 1) (ypa (T (gx (yxs X s))) (gm (yxs X s) 1)))) (2, s, i)) s) ≠ 0 := by
        show gt (yu X.1.2 s (yfS (gpS (yxs X s) (ysd (gp (yxs X s)) i)) i (yob (T (gx (yxs X s))) X.1.1 i (nm s i) 1) (ypa (T (gx (yxs X s))) (gm (yxs X s) 1))) s) ≠ 0
        rw [yu_s, hgt]; split <;> omega
      have hb5 : gt (yfS (gpS (yxs X s) (ysd (gp (yxs X s)) i)) i (yob (T (gx (yxs X s))) X.1.1 i (nm s i) 1) (ypa (T (gx (yxs X s))) (gm (yxs X s) 1))) < 2147483648 := by rw [hgt]; split <;> omega
      have hl3 : yln (yno (yss X s (yfS (gpS (yxs X s) (ysd (gp (yxs X s)) i)) i (yob (T (gx (yxs X s))) X.1.1 i (nm s i) 1) (ypa (T (gx (yxs X s))) (gm (yxs X s) 1)))) (2, s, i)).2 + 1 ≤ 240 := by have := yln_lg X.2 (2, s, i); show yln (ylg X.2 (2, s, i)) + 1 ≤ 240; omega
      rw [ytr_B (r := (yob (T (gx (yxs X s))) X.1.1 i (nm s i) 1)) (by rw [hpl]; rfl) h42] at k
      refine q_aload_n d72_93 rfl ?_
      refine q_getv (c := 5) (f := 0) d72_94 ⟨rfl, by decide⟩ hs3'.1 qg ?_
      refine q_iconstN (z := 1) d72_97 ?_
      refine nc_ne 116 d72_98 (by decide) (by omega) (by omega) (fun h98 => ?_) (fun h98 => ?_)
      · refine q_ret d72_116 rfl ?_
        first
        | (rw [if_pos ⟨by by_cases e : ypa (T (gx (yxs X s))) (gm (yxs X s) 1) = true; exact e; (rw [if_neg e] at hgt; omega), of_decide_eq_true h106⟩] at k; exact k _ hC4 (((g1.trans g2).trans g3).trans f4))
        | (rw [if_neg (fun q => absurd q.2 (of_decide_eq_false h106))] at k; exact k _ hC3 ((g1.trans g2).trans g3))
        | (rw [if_neg (fun q => by rw [if_pos q.1] at hgt; exact h98 hgt)] at k; exact k _ hC3 ((g1.trans g2).trans g3))
      · refine q_aload_n d72_101 rfl ?_
        refine q_iload_n d72_102 rfl ?_
        refine q_v1 d72_103 rfl rfl hs3'.1 (Nat.le_of_ble_eq_true rfl) (c78 hs3' (by omega) qf ?_)
        refine b0_eq 116 d72_106 (by decide) (fun h106 => ?_) (fun h106 => ?_)
        · refine q_ret d72_116 rfl ?_
          first
          | (rw [if_pos ⟨by by_cases e : ypa (T (gx (yxs X s))) (gm (yxs X s) 1) = true; exact e; (rw [if_neg e] at hgt; omega), of_decide_eq_true h106⟩] at k; exact k _ hC4 (((g1.trans g2).trans g3).trans f4))
          | (rw [if_neg (fun q => absurd q.2 (of_decide_eq_false h106))] at k; exact k _ hC3 ((g1.trans g2).trans g3))
          | (rw [if_neg (fun q => by rw [if_pos q.1] at hgt; exact h98 hgt)] at k; exact k _ hC3 ((g1.trans g2).trans g3))
        · refine q_aload_n d72_109 rfl ?_
          refine q_iload_n d72_110 rfl ?_
          refine q_aload_n d72_111 rfl ?_
          refine q_iconstN (z := 5) d72_112 ?_
          refine q_v3 d72_113 rfl rfl (hC3.1.wo hw).1 (Nat.le_of_ble_eq_true rfl) (c79 hC3 hs3 hg3 (by decide) (by decide) hl3 (fun M4 hC4 f4 => ?_))
          refine q_ret d72_116 rfl ?_
          first
          | (rw [if_pos ⟨by by_cases e : ypa (T (gx (yxs X s))) (gm (yxs X s) 1) = true; exact e; (rw [if_neg e] at hgt; omega), of_decide_eq_true h106⟩] at k; exact k _ hC4 (((g1.trans g2).trans g3).trans f4))
          | (rw [if_neg (fun q => absurd q.2 (of_decide_eq_false h106))] at k; exact k _ hC3 ((g1.trans g2).trans g3))
          | (rw [if_neg (fun q => by rw [if_pos q.1] at hgt; exact h98 hgt)] at k; exact k _ hC3 ((g1.trans g2).trans g3))
    · refine q_aload_n d72_45 rfl ?_
      refine q_getr (c := 6) (f := 2) d72_46 ⟨rfl, rfl⟩ hwo1.1 hwo1.2.2.2.1 ?_
      refine q_aload_n d72_49 rfl ?_
      refine q_getr (c := 5) (f := 2) d72_50 ⟨rfl, rfl⟩ hs1.1 e21 ?_
      refine q_iload_n d72_53 rfl ?_
      refine q_iload d72_54 rfl ?_
      refine q_iconstN (z := 1) d72_56 ?_
      refine q_v4 d72_57 rfl rfl (hS1.pu hw).1 (Nat.le_of_ble_eq_true rfl) (c51 (P := X.1.1) (hS1.pu hw) hR1.1 (hS1.pr (by omega)) (hT1 _ hx) ho hi (by omega) (fun M2 hP2 f2 => ?_))
      have g2 : Fi (FW lo) M1 M2 := f2.mono (Fb_m (by omega) (by omega))
      have hC2 := hC1'.up (RW_pu hw hR1 hP2 f2.fr) ⟨hO1.1, OKP_ch ho hi hO1.2.1 h42, hO1.2.2⟩ g2
      have hC2' := hC2
      obtain ⟨hS2, -, hT2, hO2, hR2⟩ := hC2
      have hwo2 := hS2.wo hw
      have hs2 := hS2.sg hsa
      have hR2s := RS_fr hRs1 f2.fr (fun b k h1 h2 q => by have := q.2; omega)
      have e22 : zr M2 (u + 3 + 8 * s) 2 = some (20 + 7 * gx (yxs X s)) := (f2.r _ _).trans e21
      refine q_aload_n d72_60 rfl ?_
      refine q_iload_n d72_61 rfl ?_
      refine q_v1 d72_62 rfl rfl hs2.1 (Nat.le_of_ble_eq_true rfl) (c75 hs2 hR2s h0 (show i < gz T (yxs X s) by omega) (show gz T (yxs X s) ≤ 12 by omega) hlen (fun M3 hR3s f3 => ?_))
      have g3 : Fi (FW lo) M2 M3 := f3.mono (Fb_m (by omega) (by omega))
      have hR3 := RW_sg hw hR2 hs3 hR3s f3.fr
      rw [yss_p] at hR3
      have hC3 := hC2'.up hR3 (OKW_ss (X := ysp X _) ⟨hO1.1, hO2.2.1, hO.2.2⟩ (OKS_done (S := (gpS (yxs X s) (ysd (gp (yxs X s)) i))) hOs (show i < gz T (yxs X s) by omega) h0)) g3
      have hC3' := hC3
      obtain ⟨hS3, -, hT3, hO3, hR3⟩ := hC3
      have hwo3 := hS3.wo hw
      have hs3 := hS3.sg hsa
      have e23 : zr M3 (u + 3 + 8 * s) 2 = some (20 + 7 * gx (yxs X s)) := (f3.r _ _).trans e22
      have hjk3 : zk M3 j = (0, 0) := by
        obtain ⟨_, _, _, h1, h2, _⟩ := hS3
        rcases hw with ⟨-, -, -, rfl⟩ | ⟨-, -, -, rfl⟩
        · exact h1.1
        · exact h2.1
      refine q_aload_n d72_65 rfl ?_
      refine q_getr (c := 6) (f := 1) d72_66 ⟨rfl, rfl⟩ hwo3.1 hwo3.2.2.1 ?_
      refine q_iconstN (z := 1) d72_69 ?_
      refine q_iload_n d72_70 rfl ?_
      refine q_iload_n d72_71 rfl ?_
      refine q_v3 d72_72 rfl rfl hjk3 (Nat.le_of_ble_eq_true rfl) (c65 hS3 hR3.2.2 (by show yln X.2 + 1 ≤ 240; omega) (fun M4 hJ4 f4 => ?_))
      have g4 : Fi (FW lo) M3 M4 := f4.mono (Fb_m (by omega) (by omega))
      have hC4 := hC3'.up (RW_lg hw hR3 hJ4 f4.fr) hO3 g4
      rw [ytr_A hpl h42] at k
      refine q_ret d72_75 rfl ?_
      exact k _ hC4 (((g1.trans g2).trans g3).trans g4)
/-! ===== contracts: the way back ===== -/
theorem nI_m1 {i : Nat} (h : i < 2147483648) : ¬ nI i = -1 := by
  intro e
  have h1 := congrArg Int32.toInt e
  rw [nI_toInt h, show (-1 : Int32).toInt = -1 from rfl] at h1
  omega
theorem yun_N {T : yT} {s : Nat} {X : yX} (hg : go (yxs X s) = []) : yun T s X = X := by
  unfold yun
  simp only [hg]
theorem d83_0 : decode (zB 83) 0 = .ok (.aload_n 2, 1) := (congrArg (fun c => decode c 0) zeq83).trans (by decide +kernel)
theorem d83_1 : decode (zB 83) 1 = .ok (.iload_n 3, 1) := (congrArg (fun c => decode c 1) zeq83).trans (by decide +kernel)
theorem d83_2 : decode (zB 83) 2 = .ok (.iconst (-1), 1) := (congrArg (fun c => decode c 2) zeq83).trans (by decide +kernel)
theorem d83_3 : decode (zB 83) 3 = .ok (.invokevirtual 102, 3) := (congrArg (fun c => decode c 3) zeq83).trans (by decide +kernel)
theorem d83_6 : decode (zB 83) 6 = .ok (.istore 4, 2) := (congrArg (fun c => decode c 6) zeq83).trans (by decide +kernel)
theorem d83_8 : decode (zB 83) 8 = .ok (.aload_n 2, 1) := (congrArg (fun c => decode c 8) zeq83).trans (by decide +kernel)
theorem d83_9 : decode (zB 83) 9 = .ok (.getfield 148, 3) := (congrArg (fun c => decode c 9) zeq83).trans (by decide +kernel)
theorem d83_12 : decode (zB 83) 12 = .ok (.iload_n 3, 1) := (congrArg (fun c => decode c 12) zeq83).trans (by decide +kernel)
theorem d83_13 : decode (zB 83) 13 = .ok (.invokestatic 109, 3) := (congrArg (fun c => decode c 13) zeq83).trans (by decide +kernel)
theorem d83_16 : decode (zB 83) 16 = .ok (.istore 5, 2) := (congrArg (fun c => decode c 16) zeq83).trans (by decide +kernel)
theorem d83_18 : decode (zB 83) 18 = .ok (.iload 5, 2) := (congrArg (fun c => decode c 18) zeq83).trans (by decide +kernel)
theorem d83_20 : decode (zB 83) 20 = .ok (.ifCond .ne 20, 3) := (congrArg (fun c => decode c 20) zeq83).trans (by decide +kernel)
theorem d83_23 : decode (zB 83) 23 = .ok (.aload_n 0, 1) := (congrArg (fun c => decode c 23) zeq83).trans (by decide +kernel)
theorem d83_24 : decode (zB 83) 24 = .ok (.getfield 12, 3) := (congrArg (fun c => decode c 24) zeq83).trans (by decide +kernel)
theorem d83_27 : decode (zB 83) 27 = .ok (.aload_n 2, 1) := (congrArg (fun c => decode c 27) zeq83).trans (by decide +kernel)
theorem d83_28 : decode (zB 83) 28 = .ok (.getfield 113, 3) := (congrArg (fun c => decode c 28) zeq83).trans (by decide +kernel)
theorem d83_31 : decode (zB 83) 31 = .ok (.iload_n 3, 1) := (congrArg (fun c => decode c 31) zeq83).trans (by decide +kernel)
theorem d83_32 : decode (zB 83) 32 = .ok (.iload 4, 2) := (congrArg (fun c => decode c 32) zeq83).trans (by decide +kernel)
theorem d83_34 : decode (zB 83) 34 = .ok (.iconst (-1), 1) := (congrArg (fun c => decode c 34) zeq83).trans (by decide +kernel)
theorem d83_35 : decode (zB 83) 35 = .ok (.invokevirtual 117, 3) := (congrArg (fun c => decode c 35) zeq83).trans (by decide +kernel)
theorem d83_38 : decode (zB 83) 38 = .ok (.istore 5, 2) := (congrArg (fun c => decode c 38) zeq83).trans (by decide +kernel)
theorem d83_40 : decode (zB 83) 40 = .ok (.iload 5, 2) := (congrArg (fun c => decode c 40) zeq83).trans (by decide +kernel)
theorem d83_42 : decode (zB 83) 42 = .ok (.ifCond .ne 34, 3) := (congrArg (fun c => decode c 42) zeq83).trans (by decide +kernel)
theorem d83_45 : decode (zB 83) 45 = .ok (.aload_n 0, 1) := (congrArg (fun c => decode c 45) zeq83).trans (by decide +kernel)
theorem d83_46 : decode (zB 83) 46 = .ok (.getfield 12, 3) := (congrArg (fun c => decode c 46) zeq83).trans (by decide +kernel)
theorem d83_49 : decode (zB 83) 49 = .ok (.aload_n 2, 1) := (congrArg (fun c => decode c 49) zeq83).trans (by decide +kernel)
theorem d83_50 : decode (zB 83) 50 = .ok (.getfield 113, 3) := (congrArg (fun c => decode c 50) zeq83).trans (by decide +kernel)
theorem d83_53 : decode (zB 83) 53 = .ok (.iload_n 3, 1) := (congrArg (fun c => decode c 53) zeq83).trans (by decide +kernel)
theorem d83_54 : decode (zB 83) 54 = .ok (.iload 4, 2) := (congrArg (fun c => decode c 54) zeq83).trans (by decide +kernel)
theorem d83_56 : decode (zB 83) 56 = .ok (.iconst (-1), 1) := (congrArg (fun c => decode c 56) zeq83).trans (by decide +kernel)
theorem d83_57 : decode (zB 83) 57 = .ok (.invokevirtual 121, 3) := (congrArg (fun c => decode c 57) zeq83).trans (by decide +kernel)
theorem d83_60 : decode (zB 83) 60 = .ok (.aload_n 2, 1) := (congrArg (fun c => decode c 60) zeq83).trans (by decide +kernel)
theorem d83_61 : decode (zB 83) 61 = .ok (.iload_n 3, 1) := (congrArg (fun c => decode c 61) zeq83).trans (by decide +kernel)
theorem d83_62 : decode (zB 83) 62 = .ok (.invokevirtual 151, 3) := (congrArg (fun c => decode c 62) zeq83).trans (by decide +kernel)
theorem d83_65 : decode (zB 83) 65 = .ok (.aload_n 0, 1) := (congrArg (fun c => decode c 65) zeq83).trans (by decide +kernel)
theorem d83_66 : decode (zB 83) 66 = .ok (.getfield 28, 3) := (congrArg (fun c => decode c 66) zeq83).trans (by decide +kernel)
theorem d83_69 : decode (zB 83) 69 = .ok (.iconst 3, 1) := (congrArg (fun c => decode c 69) zeq83).trans (by decide +kernel)
theorem d83_70 : decode (zB 83) 70 = .ok (.iload_n 1, 1) := (congrArg (fun c => decode c 70) zeq83).trans (by decide +kernel)
theorem d83_71 : decode (zB 83) 71 = .ok (.iload_n 3, 1) := (congrArg (fun c => decode c 71) zeq83).trans (by decide +kernel)
theorem d83_72 : decode (zB 83) 72 = .ok (.invokevirtual 129, 3) := (congrArg (fun c => decode c 72) zeq83).trans (by decide +kernel)
theorem d83_75 : decode (zB 83) 75 = .ok (.return_, 1) := (congrArg (fun c => decode c 75) zeq83).trans (by decide +kernel)
theorem d83_76 : decode (zB 83) 76 = .ok (.aload_n 2, 1) := (congrArg (fun c => decode c 76) zeq83).trans (by decide +kernel)
theorem d83_77 : decode (zB 83) 77 = .ok (.iload_n 3, 1) := (congrArg (fun c => decode c 77) zeq83).trans (by decide +kernel)
theorem d83_78 : decode (zB 83) 78 = .ok (.iload 5, 2) := (congrArg (fun c => decode c 78) zeq83).trans (by decide +kernel)
theorem d83_80 : decode (zB 83) 80 = .ok (.invokevirtual 154, 3) := (congrArg (fun c => decode c 80) zeq83).trans (by decide +kernel)
theorem d83_83 : decode (zB 83) 83 = .ok (.aload_n 0, 1) := (congrArg (fun c => decode c 83) zeq83).trans (by decide +kernel)
theorem d83_84 : decode (zB 83) 84 = .ok (.getfield 28, 3) := (congrArg (fun c => decode c 84) zeq83).trans (by decide +kernel)
theorem d83_87 : decode (zB 83) 87 = .ok (.iconst 4, 1) := (congrArg (fun c => decode c 87) zeq83).trans (by decide +kernel)
theorem d83_88 : decode (zB 83) 88 = .ok (.iload_n 1, 1) := (congrArg (fun c => decode c 88) zeq83).trans (by decide +kernel)
theorem d83_89 : decode (zB 83) 89 = .ok (.iload_n 3, 1) := (congrArg (fun c => decode c 89) zeq83).trans (by decide +kernel)
theorem d83_90 : decode (zB 83) 90 = .ok (.invokevirtual 129, 3) := (congrArg (fun c => decode c 90) zeq83).trans (by decide +kernel)
theorem d83_93 : decode (zB 83) 93 = .ok (.return_, 1) := (congrArg (fun c => decode c 93) zeq83).trans (by decide +kernel)
theorem c83 {d : Nat} {M : zM} {Q : Option Value → zM → Prop} {lo w u j c : Nat} {T : Nat → yT} {nm : Nat → Nat → Int32} {X : yX} {s : Nat} {i : Nat} {t : List Nat} (hC : CW M lo w u j T c nm X) (hs3 : s < 3) (h1 : gt (yxs X s) = 2) (hgo : go (yxs X s) = i :: t) (hl : yln X.2 + 1 ≤ 240) (k : ∀ M', CW M' lo w u j T c nm (yun (T (gx (yxs X s))) s X) → Fi (FW lo) M M' → Q none M') : qC (d + 3) 83 [.ref w, .int (nI s), .ref (u + 3 + 8 * s), .int (nI i)] M Q := by
  refine qC_of (by decide) (Nat.le_of_ble_eq_true rfl) ?_
  have hC0 := hC
  obtain ⟨hS, hw, hT, hO, hR⟩ := hC
  have hwo := hS.wo hw
  have hsa := hw.sg hs3
  have hs := hS.sg hsa
  have hd := hw.d
  have hRs : RS M (u + 3 + 8 * s) T (nm s) (yxs X s) := hR.2.1 s hs3
  have hRs' := hRs
  have hOs : OKS T c (yxs X s) := hO.2.2 s hs3
  have hx : gx (yxs X s) < c := hOs.2.1 (by show gt (yxs X s) ≠ 0; omega)
  have hc6 := hO.1.1
  have ho := hO.1.2 _ hx
  have hn := ho.n
  have hz : gz T (yxs X s) = tn (T (gx (yxs X s))) := by unfold gz; rw [if_neg (by omega)]
  obtain ⟨⟨q0, q1, q2⟩, ⟨q3, q4, q5⟩, ⟨q7, q8⟩, q9, qa, qb⟩ := hRs
  have e2 : zr M (u + 3 + 8 * s) 2 = some (20 + 7 * gx (yxs X s)) := q2.trans (if_neg (by show ¬ gt (yxs X s) = 0; omega))
  have hgd : gd (yxs X s) i = 1 := (hOs.2.2.2.1 i).mp (by rw [hgo]; exact List.mem_cons_self)
  have hi : i < tn (T (gx (yxs X s))) := Nat.lt_of_not_le (fun q => by have := hOs.2.2.2.2.1 i (by omega); omega)
  have hlen : (go (yxs X s)).length ≤ 12 := Nat.le_trans (OKS_len hOs (by omega)) (by omega)
  cases hpl : ypl (gq (yxs X s)) i with
  | true =>
    refine q_aload_n d83_0 rfl ?_
    refine q_iload_n d83_1 rfl ?_
    refine q_iconst (x := (-1)) d83_2 rfl ?_
    refine q_v2 d83_3 rfl rfl hs.1 (Nat.le_of_ble_eq_true rfl) (c73b hs (by omega) (qa i (by omega) hgd) ?_)
    refine q_istore d83_6 (by decide) rfl ?_
    refine q_aload_n d83_8 rfl ?_
    refine q_getr (c := 5) (f := 11) d83_9 ⟨rfl, rfl⟩ hs.1 (hs.2.2.1 3 (by decide)) ?_
    refine q_iload_n d83_12 rfl ?_
    refine q_s2 d83_13 (Or.inl rfl) rfl (Nat.le_of_ble_eq_true rfl) (c74t (hs.2.2.2 4 (by decide)) (by omega) (fun j hj => (qb j hj).2.1) hpl (fun M1 hp1 f1 => ?_))
    have g1 : Fi (FW lo) M M1 := f1.mono (fun b _ q => ⟨by omega, by omega⟩)
    have hRs1 : RS M1 (u + 3 + 8 * s) T (nm s) (gqS (yxs X s) (ysd (gq (yxs X s)) i)) := RS_gq hRs' hp1 f1
    have hC1 := hC0.up (X' := yss X s (gqS (yxs X s) (ysd (gq (yxs X s)) i))) (RW_sg hw hR hs3 hRs1 (f1.mono (fun b _ q => FS_x (by omega) (by omega))).fr) (OKW_ss hO hOs) g1
    have hC1' := hC1
    obtain ⟨hS1, -, hT1, hO1, hR1⟩ := hC1
    have hwo1 := hS1.wo hw
    have hs1 := hS1.sg hsa
    have e21 : zr M1 (u + 3 + 8 * s) 2 = some (20 + 7 * gx (yxs X s)) := (f1.r _ _).trans e2
    refine q_istore d83_16 (by decide) rfl ?_
    refine q_iload d83_18 rfl ?_
    refine n0_ne 40 d83_20 (by decide) (by decide) (fun _ => ?_) (fun q => absurd q (by decide))
    refine q_iload d83_40 rfl ?_
    refine n0_ne 76 d83_42 (by decide) (by decide) (fun _ => ?_) (fun q => absurd q (by decide))
    refine q_aload_n d83_76 rfl ?_
    refine q_iload_n d83_77 rfl ?_
    refine q_iload d83_78 rfl ?_
    refine q_v2 d83_80 rfl rfl hs1.1 (Nat.le_of_ble_eq_true rfl) (c86 hs1 hRs1 hgo hgd (by omega) hlen (fun M2 hR2s f2 => ?_))
    have g2 : Fi (FW lo) M1 M2 := f2.mono (Fb_m (by omega) (by omega))
    have hR2 := RW_sg hw hR1 hs3 hR2s f2.fr
    rw [yss_yss] at hR2
    have hC2 := hC1'.up (X' := yss X s (gwS (goS (gdS (gqS (yxs X s) (ysd (gq (yxs X s)) i)) (yu (gd (yxs X s)) i 3)) t) (yu (gw (yxs X s)) i (nI 1)))) hR2 (OKW_ss hO (OKS_undo (S := (gqS (yxs X s) (ysd (gq (yxs X s)) i))) hOs hgo (Or.inr rfl))) g2
    have hC2' := hC2
    obtain ⟨hS2, -, hT2, hO2, hR2⟩ := hC2
    have hwo2 := hS2.wo hw
    have hs2 := hS2.sg hsa
    have e22 : zr M2 (u + 3 + 8 * s) 2 = some (20 + 7 * gx (yxs X s)) := (f2.r _ _).trans e21
    have hjk2 : zk M2 j = (0, 0) := by
      obtain ⟨_, _, _, h1, h2, _⟩ := hS2
      rcases hw with ⟨-, -, -, rfl⟩ | ⟨-, -, -, rfl⟩
      · exact h1.1
      · exact h2.1
    refine q_aload_n d83_83 rfl ?_
    refine q_getr (c := 6) (f := 1) d83_84 ⟨rfl, rfl⟩ hwo2.1 hwo2.2.2.1 ?_
    refine q_iconstN (z := 4) d83_87 ?_
    refine q_iload_n d83_88 rfl ?_
    refine q_iload_n d83_89 rfl ?_
    refine q_v3 d83_90 rfl rfl hjk2 (Nat.le_of_ble_eq_true rfl) (c65 hS2 hR2.2.2 (by show yln X.2 + 1 ≤ 240; omega) (fun M3 hJ3 f3 => ?_))
    have g3 : Fi (FW lo) M2 M3 := f3.mono (Fb_m (by omega) (by omega))
    have hC3 := hC2'.up (RW_lg hw hR2 hJ3 f3.fr) hO2 g3
    rw [yun_B (r := (nI 1)) hgo (by rw [hpl]; rfl) (by decide)] at k
    refine q_ret d83_93 rfl ?_
    exact k _ hC3 ((g1.trans g2).trans g3)
  | false =>
    refine q_aload_n d83_0 rfl ?_
    refine q_iload_n d83_1 rfl ?_
    refine q_iconst (x := (-1)) d83_2 rfl ?_
    refine q_v2 d83_3 rfl rfl hs.1 (Nat.le_of_ble_eq_true rfl) (c73b hs (by omega) (qa i (by omega) hgd) ?_)
    refine q_istore d83_6 (by decide) rfl ?_
    refine q_aload_n d83_8 rfl ?_
    refine q_getr (c := 5) (f := 11) d83_9 ⟨rfl, rfl⟩ hs.1 (hs.2.2.1 3 (by decide)) ?_
    refine q_iload_n d83_12 rfl ?_
    refine q_s2 d83_13 (Or.inl rfl) rfl (Nat.le_of_ble_eq_true rfl) (c74f (hs.2.2.2 4 (by decide)) (by omega) (fun j hj => (qb j hj).2.1) hpl (fun M1 hp1 f1 => ?_))
    have g1 : Fi (FW lo) M M1 := f1.mono (fun b _ q => ⟨by omega, by omega⟩)
    have hRs1 : RS M1 (u + 3 + 8 * s) T (nm s) (gqS (yxs X s) (ysd (gq (yxs X s)) i)) := RS_gq hRs' hp1 f1
    have hC1 := hC0.up (X' := yss X s (gqS (yxs X s) (ysd (gq (yxs X s)) i))) (RW_sg hw hR hs3 hRs1 (f1.mono (fun b _ q => FS_x (by omega) (by omega))).fr) (OKW_ss hO hOs) g1
    have hC1' := hC1
    obtain ⟨hS1, -, hT1, hO1, hR1⟩ := hC1
    have hwo1 := hS1.wo hw
    have hs1 := hS1.sg hsa
    have e21 : zr M1 (u + 3 + 8 * s) 2 = some (20 + 7 * gx (yxs X s)) := (f1.r _ _).trans e2
    refine q_istore d83_16 (by decide) rfl ?_
    refine q_iload d83_18 rfl ?_
    refine n0_ne 40 d83_20 (by decide) (by decide) (fun q => absurd q (by decide)) (fun _ => ?_)
    refine q_aload_n d83_23 rfl ?_
    refine q_getr (c := 6) (f := 2) d83_24 ⟨rfl, rfl⟩ hwo1.1 hwo1.2.2.2.1 ?_
    refine q_aload_n d83_27 rfl ?_
    refine q_getr (c := 5) (f := 2) d83_28 ⟨rfl, rfl⟩ hs1.1 e21 ?_
    refine q_iload_n d83_31 rfl ?_
    refine q_iload d83_32 rfl ?_
    refine q_iconst (x := (-1)) d83_34 rfl ?_
    refine q_v4 d83_35 rfl rfl (hS1.pu hw).1 (Nat.le_of_ble_eq_true rfl) (c46 (P := X.1.1) (hS1.pu hw) hR1.1 (hS1.pr (by omega)) (hT1 _ hx) ho hi ?_)
    refine q_istore d83_38 (by decide) rfl ?_
    refine q_iload d83_40 rfl ?_
    refine i0_ne 76 d83_42 (by decide) (fun h42 => ?_) (fun h42 => ?_)
    · refine q_aload_n d83_76 rfl ?_
      refine q_iload_n d83_77 rfl ?_
      refine q_iload d83_78 rfl ?_
      refine q_v2 d83_80 rfl rfl hs1.1 (Nat.le_of_ble_eq_true rfl) (c86 hs1 hRs1 hgo hgd (by omega) hlen (fun M2 hR2s f2 => ?_))
      have g2 : Fi (FW lo) M1 M2 := f2.mono (Fb_m (by omega) (by omega))
      have hR2 := RW_sg hw hR1 hs3 hR2s f2.fr
      rw [yss_yss] at hR2
      have hC2 := hC1'.up (X' := yss X s (gwS (goS (gdS (gqS (yxs X s) (ysd (gq (yxs X s)) i)) (yu (gd (yxs X s)) i 3)) t) (yu (gw (yxs X s)) i (yob (T (gx (yxs X s))) X.1.1 i (gb (yxs X s) i) (-1))))) hR2 (OKW_ss hO (OKS_undo (S := (gqS (yxs X s) (ysd (gq (yxs X s)) i))) hOs hgo (Or.inr rfl))) g2
      have hC2' := hC2
      obtain ⟨hS2, -, hT2, hO2, hR2⟩ := hC2
      have hwo2 := hS2.wo hw
      have hs2 := hS2.sg hsa
      have e22 : zr M2 (u + 3 + 8 * s) 2 = some (20 + 7 * gx (yxs X s)) := (f2.r _ _).trans e21
      have hjk2 : zk M2 j = (0, 0) := by
        obtain ⟨_, _, _, h1, h2, _⟩ := hS2
        rcases hw with ⟨-, -, -, rfl⟩ | ⟨-, -, -, rfl⟩
        · exact h1.1
        · exact h2.1
      refine q_aload_n d83_83 rfl ?_
      refine q_getr (c := 6) (f := 1) d83_84 ⟨rfl, rfl⟩ hwo2.1 hwo2.2.2.1 ?_
      refine q_iconstN (z := 4) d83_87 ?_
      refine q_iload_n d83_88 rfl ?_
      refine q_iload_n d83_89 rfl ?_
      refine q_v3 d83_90 rfl rfl hjk2 (Nat.le_of_ble_eq_true rfl) (c65 hS2 hR2.2.2 (by show yln X.2 + 1 ≤ 240; omega) (fun M3 hJ3 f3 => ?_))
      have g3 : Fi (FW lo) M2 M3 := f3.mono (Fb_m (by omega) (by omega))
      have hC3 := hC2'.up (RW_lg hw hR2 hJ3 f3.fr) hO2 g3
      rw [yun_B (r := (yob (T (gx (yxs X s))) X.1.1 i (gb (yxs X s) i) (-1))) hgo (by rw [hpl]; rfl) h42] at k
      refine q_ret d83_93 rfl ?_
      exact k _ hC3 ((g1.trans g2).trans g3)
    · refine q_aload_n d83_45 rfl ?_
      refine q_getr (c := 6) (f := 2) d83_46 ⟨rfl, rfl⟩ hwo1.1 hwo1.2.2.2.1 ?_
      refine q_aload_n d83_49 rfl ?_
      refine q_getr (c := 5) (f := 2) d83_50 ⟨rfl, rfl⟩ hs1.1 e21 ?_
      refine q_iload_n d83_53 rfl ?_
      refine q_iload d83_54 rfl ?_
      refine q_iconst (x := (-1)) d83_56 rfl ?_
      refine q_v4 d83_57 rfl rfl (hS1.pu hw).1 (Nat.le_of_ble_eq_true rfl) (c51 (P := X.1.1) (hS1.pu hw) hR1.1 (hS1.pr (by omega)) (hT1 _ hx) ho hi (by omega) (fun M2 hP2 f2 => ?_))
      have g2 : Fi (FW lo) M1 M2 := f2.mono (Fb_m (by omega) (by omega))
      have hC2 := hC1'.up (RW_pu hw hR1 hP2 f2.fr) ⟨hO1.1, OKP_ch ho hi hO1.2.1 h42, hO1.2.2⟩ g2
      have hC2' := hC2
      obtain ⟨hS2, -, hT2, hO2, hR2⟩ := hC2
      have hwo2 := hS2.wo hw
      have hs2 := hS2.sg hsa
      have hR2s := RS_fr hRs1 f2.fr (fun b k h1 h2 q => by have := q.2; omega)
      have e22 : zr M2 (u + 3 + 8 * s) 2 = some (20 + 7 * gx (yxs X s)) := (f2.r _ _).trans e21
      refine q_aload_n d83_60 rfl ?_
      refine q_iload_n d83_61 rfl ?_
      refine q_v1 d83_62 rfl rfl hs2.1 (Nat.le_of_ble_eq_true rfl) (c84 hs2 hR2s hgo hgd (by omega) hlen (fun M3 hR3s f3 => ?_))
      have g3 : Fi (FW lo) M2 M3 := f3.mono (Fb_m (by omega) (by omega))
      have hR3 := RW_sg hw hR2 hs3 hR3s f3.fr
      rw [yss_p] at hR3
      have hC3 := hC2'.up (X' := yss (ysp X (ych (T (gx (yxs X s))) X.1.1 i (gb (yxs X s) i) (-1))) s (goS (gdS (gqS (yxs X s) (ysd (gq (yxs X s)) i)) (yu (gd (yxs X s)) i 2)) t)) hR3 (OKW_ss (X := ysp X _) ⟨hO1.1, hO2.2.1, hO.2.2⟩ (OKS_undo (S := (gqS (yxs X s) (ysd (gq (yxs X s)) i))) hOs hgo (Or.inl rfl))) g3
      have hC3' := hC3
      obtain ⟨hS3, -, hT3, hO3, hR3⟩ := hC3
      have hwo3 := hS3.wo hw
      have hs3 := hS3.sg hsa
      have e23 : zr M3 (u + 3 + 8 * s) 2 = some (20 + 7 * gx (yxs X s)) := (f3.r _ _).trans e22
      have hjk3 : zk M3 j = (0, 0) := by
        obtain ⟨_, _, _, h1, h2, _⟩ := hS3
        rcases hw with ⟨-, -, -, rfl⟩ | ⟨-, -, -, rfl⟩
        · exact h1.1
        · exact h2.1
      refine q_aload_n d83_65 rfl ?_
      refine q_getr (c := 6) (f := 1) d83_66 ⟨rfl, rfl⟩ hwo3.1 hwo3.2.2.1 ?_
      refine q_iconstN (z := 3) d83_69 ?_
      refine q_iload_n d83_70 rfl ?_
      refine q_iload_n d83_71 rfl ?_
      refine q_v3 d83_72 rfl rfl hjk3 (Nat.le_of_ble_eq_true rfl) (c65 hS3 hR3.2.2 (by show yln X.2 + 1 ≤ 240; omega) (fun M4 hJ4 f4 => ?_))
      have g4 : Fi (FW lo) M3 M4 := f4.mono (Fb_m (by omega) (by omega))
      have hC4 := hC3'.up (RW_lg hw hR3 hJ4 f4.fr) hO3 g4
      rw [yun_A hgo hpl h42] at k
      refine q_ret d83_75 rfl ?_
      exact k _ hC4 (((g1.trans g2).trans g3).trans g4)
theorem d81_0 : decode (zB 81) 0 = .ok (.aload_n 2, 1) := (congrArg (fun c => decode c 0) zeq81).trans (by decide +kernel)
theorem d81_1 : decode (zB 81) 1 = .ok (.invokevirtual 142, 3) := (congrArg (fun c => decode c 1) zeq81).trans (by decide +kernel)
theorem d81_4 : decode (zB 81) 4 = .ok (.istore_n 3, 1) := (congrArg (fun c => decode c 4) zeq81).trans (by decide +kernel)
theorem d81_5 : decode (zB 81) 5 = .ok (.iload_n 3, 1) := (congrArg (fun c => decode c 5) zeq81).trans (by decide +kernel)
theorem d81_6 : decode (zB 81) 6 = .ok (.iconst (-1), 1) := (congrArg (fun c => decode c 6) zeq81).trans (by decide +kernel)
theorem d81_7 : decode (zB 81) 7 = .ok (.if_icmp .eq 10, 3) := (congrArg (fun c => decode c 7) zeq81).trans (by decide +kernel)
theorem d81_10 : decode (zB 81) 10 = .ok (.aload_n 0, 1) := (congrArg (fun c => decode c 10) zeq81).trans (by decide +kernel)
theorem d81_11 : decode (zB 81) 11 = .ok (.iload_n 1, 1) := (congrArg (fun c => decode c 11) zeq81).trans (by decide +kernel)
theorem d81_12 : decode (zB 81) 12 = .ok (.aload_n 2, 1) := (congrArg (fun c => decode c 12) zeq81).trans (by decide +kernel)
theorem d81_13 : decode (zB 81) 13 = .ok (.iload_n 3, 1) := (congrArg (fun c => decode c 13) zeq81).trans (by decide +kernel)
theorem d81_14 : decode (zB 81) 14 = .ok (.invokevirtual 145, 3) := (congrArg (fun c => decode c 14) zeq81).trans (by decide +kernel)
theorem d81_17 : decode (zB 81) 17 = .ok (.aload_n 2, 1) := (congrArg (fun c => decode c 17) zeq81).trans (by decide +kernel)
theorem d81_18 : decode (zB 81) 18 = .ok (.getfield 68, 3) := (congrArg (fun c => decode c 18) zeq81).trans (by decide +kernel)
theorem d81_21 : decode (zB 81) 21 = .ok (.ifCond .ne 10, 3) := (congrArg (fun c => decode c 21) zeq81).trans (by decide +kernel)
theorem d81_24 : decode (zB 81) 24 = .ok (.aload_n 0, 1) := (congrArg (fun c => decode c 24) zeq81).trans (by decide +kernel)
theorem d81_25 : decode (zB 81) 25 = .ok (.iload_n 1, 1) := (congrArg (fun c => decode c 25) zeq81).trans (by decide +kernel)
theorem d81_26 : decode (zB 81) 26 = .ok (.aload_n 2, 1) := (congrArg (fun c => decode c 26) zeq81).trans (by decide +kernel)
theorem d81_27 : decode (zB 81) 27 = .ok (.iconst 4, 1) := (congrArg (fun c => decode c 27) zeq81).trans (by decide +kernel)
theorem d81_28 : decode (zB 81) 28 = .ok (.invokevirtual 99, 3) := (congrArg (fun c => decode c 28) zeq81).trans (by decide +kernel)
theorem d81_31 : decode (zB 81) 31 = .ok (.return_, 1) := (congrArg (fun c => decode c 31) zeq81).trans (by decide +kernel)
theorem yba_eq {T : yT} {s : Nat} {X : yX} : yba T s X = if gm (yxs (yun T s X) s) 1 = 0 then yen (yun T s X) s 4 else yun T s X := rfl
theorem c81 {d : Nat} {M : zM} {Q : Option Value → zM → Prop} {lo w u j c : Nat} {T : Nat → yT} {nm : Nat → Nat → Int32} {X : yX} {s : Nat} (hC : CW M lo w u j T c nm X) (hs3 : s < 3) (h1 : gt (yxs X s) = 2) (hl : yln X.2 + 2 ≤ 240) (k : ∀ M', CW M' lo w u j T c nm (yba (T (gx (yxs X s))) s X) → Fi (FW lo) M M' → Q none M') : qC (d + 4) 81 [.ref w, .int (nI s), .ref (u + 3 + 8 * s)] M Q := by
  refine qC_of (by decide) (Nat.le_of_ble_eq_true rfl) ?_
  have hC0 := hC
  obtain ⟨hS, hw, hT, hO, hR⟩ := hC
  have hwo := hS.wo hw
  have hsa := hw.sg hs3
  have hs := hS.sg hsa
  have hd := hw.d
  have hRs : RS M (u + 3 + 8 * s) T (nm s) (yxs X s) := hR.2.1 s hs3
  have hRs' := hRs
  have hOs : OKS T c (yxs X s) := hO.2.2 s hs3
  have hx : gx (yxs X s) < c := hOs.2.1 (by show gt (yxs X s) ≠ 0; omega)
  have hc6 := hO.1.1
  have ho := hO.1.2 _ hx
  have hn := ho.n
  have hz : gz T (yxs X s) = tn (T (gx (yxs X s))) := by unfold gz; rw [if_neg (by omega)]
  obtain ⟨⟨q0, q1, q2⟩, ⟨q3, q4, q5⟩, ⟨q7, q8⟩, q9, qa, qb⟩ := hRs
  have e2 : zr M (u + 3 + 8 * s) 2 = some (20 + 7 * gx (yxs X s)) := q2.trans (if_neg (by show ¬ gt (yxs X s) = 0; omega))
  have hb0 := gm_lt (yxs X s) 1
  cases hgo : go (yxs X s) with
  | nil =>
    refine q_aload_n d81_0 rfl ?_
    refine q_v0 d81_1 rfl rfl hs.1 (Nat.le_of_ble_eq_true rfl) (c82 (l := []) hs (by rw [q7, hgo]) (by decide) (fun j hj => absurd hj (Nat.not_lt_zero _)) ?_)
    refine q_istore_n d81_4 (by decide) rfl ?_
    refine q_iload_n d81_5 rfl ?_
    refine q_iconst (x := (-1)) d81_6 rfl ?_
    refine ic_eq 17 d81_7 (by decide) (fun h7 => ?_) (fun h7 => (False.elim (h7 rfl)))
    refine q_aload_n d81_17 rfl ?_
    refine q_getv (c := 5) (f := 3) d81_18 ⟨rfl, by decide⟩ hs.1 q3 ?_
    refine n0_ne 31 d81_21 (by decide) (by omega) (fun h21 => ?_) (fun h21 => ?_)
    · refine q_ret d81_31 rfl ?_
      rw [yba_eq, yun_N hgo] at k
      first
      | (rw [if_pos h21] at k; exact k _ hC2 f2)
      | (rw [if_neg h21] at k; exact k _ hC0 (Fi.refl _ _))
    · refine q_aload_n d81_24 rfl ?_
      refine q_iload_n d81_25 rfl ?_
      refine q_aload_n d81_26 rfl ?_
      refine q_iconstN (z := 4) d81_27 ?_
      refine q_v3 d81_28 rfl rfl hwo.1 (Nat.le_of_ble_eq_true rfl) (c79 hC0 hs3 (by omega) (by decide) (by decide) (by omega) (fun M2 hC2 f2 => ?_))
      refine q_ret d81_31 rfl ?_
      rw [yba_eq, yun_N hgo] at k
      first
      | (rw [if_pos h21] at k; exact k _ hC2 f2)
      | (rw [if_neg h21] at k; exact k _ hC0 (Fi.refl _ _))
  | cons i t =>
    have hlen : (go (yxs X s)).length ≤ 12 := Nat.le_trans (OKS_len hOs (by omega)) (by omega)
    have hgd : gd (yxs X s) i = 1 := (hOs.2.2.2.1 i).mp (by rw [hgo]; exact List.mem_cons_self)
    have hi : i < tn (T (gx (yxs X s))) := Nat.lt_of_not_le (fun q => by have := hOs.2.2.2.2.1 i (by omega); omega)
    refine q_aload_n d81_0 rfl ?_
    refine q_v0 d81_1 rfl rfl hs.1 (Nat.le_of_ble_eq_true rfl) (c82 (l := i :: t) hs (by rw [q7, hgo]) (by rw [← hgo]; exact hlen) (fun j hj => by rw [hgo] at q8; exact q8 j hj) ?_)
    refine q_istore_n d81_4 (by decide) rfl ?_
    refine q_iload_n d81_5 rfl ?_
    refine q_iconst (x := (-1)) d81_6 rfl ?_
    refine ic_eq 17 d81_7 (by decide) (fun h7 => (False.elim (nI_m1 (by omega) h7))) (fun h7 => ?_)
    refine q_aload_n d81_10 rfl ?_
    refine q_iload_n d81_11 rfl ?_
    refine q_aload_n d81_12 rfl ?_
    refine q_iload_n d81_13 rfl ?_
    refine q_v3 d81_14 rfl rfl hwo.1 (Nat.le_of_ble_eq_true rfl) (c83 hC0 hs3 h1 hgo (by omega) (fun M1 hC1 f1 => ?_))
    have hy := yun_ok hO hs3 (show gt (yxs X s) ≠ 0 by omega)
    have hR1 : RS M1 (u + 3 + 8 * s) T (nm s) (yxs (yun (T (gx (yxs X s))) s X) s) := hC1.2.2.2.2.2.1 s hs3
    have hs1 := hC1.1.sg hsa
    have hwo1 := hC1.1.wo hw
    have hq3 := hR1.2.1.1
    have hb := gm_lt (yxs (yun (T (gx (yxs X s))) s X) s) 1
    refine q_aload_n d81_17 rfl ?_
    refine q_getv (c := 5) (f := 3) d81_18 ⟨rfl, by decide⟩ hs1.1 hq3 ?_
    refine n0_ne 31 d81_21 (by decide) (by omega) (fun h21 => ?_) (fun h21 => ?_)
    · refine q_ret d81_31 rfl ?_
      rw [yba_eq] at k
      first
      | (rw [if_pos h21] at k; exact k _ hC2 (f1.trans f2))
      | (rw [if_neg h21] at k; exact k _ hC1 f1)
    · refine q_aload_n d81_24 rfl ?_
      refine q_iload_n d81_25 rfl ?_
      refine q_aload_n d81_26 rfl ?_
      refine q_iconstN (z := 4) d81_27 ?_
      refine q_v3 d81_28 rfl rfl hwo1.1 (Nat.le_of_ble_eq_true rfl) (c79 hC1 hs3 (by omega) (by decide) (by decide) (by omega) (fun M2 hC2 f2 => ?_))
      refine q_ret d81_31 rfl ?_
      rw [yba_eq] at k
      first
      | (rw [if_pos h21] at k; exact k _ hC2 (f1.trans f2))
      | (rw [if_neg h21] at k; exact k _ hC1 f1)
