/-! ===== the reference: chance ===== -/
theorem d205_0 : decode (zB 205) 0 = .ok (.iload_n 1, 1) := by decide +kernel
theorem d205_1 : decode (zB 205) 1 = .ok (.ifCond .ne 7, 3) := by decide +kernel
theorem d205_4 : decode (zB 205) 4 = .ok (.iload_n 0, 1) := by decide +kernel
theorem d205_5 : decode (zB 205) 5 = .ok (.goto 10, 3) := by decide +kernel
theorem d205_8 : decode (zB 205) 8 = .ok (.iload_n 1, 1) := by decide +kernel
theorem d205_9 : decode (zB 205) 9 = .ok (.iload_n 0, 1) := by decide +kernel
theorem d205_10 : decode (zB 205) 10 = .ok (.iload_n 1, 1) := by decide +kernel
theorem d205_11 : decode (zB 205) 11 = .ok (.irem, 1) := by decide +kernel
theorem d205_12 : decode (zB 205) 12 = .ok (.invokestatic 386, 3) := by decide +kernel
theorem d205_15 : decode (zB 205) 15 = .ok (.ireturn, 1) := by decide +kernel
theorem c205g {d : Nat} : ∀ (n a b : Nat) (M : zM) (Q : Option Value → zM → Prop), b ≤ n → a < 2147483648 → b < 2147483648 → Q (some (.int (nI (Nat.gcd b a)))) M → qC (d + (n + 1)) 205 [.int (nI a), .int (nI b)] M Q := by
  intro n
  induction n with
  | zero =>
    intro a b M Q q1 ha hb k
    obtain rfl : b = 0 := by omega
    rw [Nat.gcd_zero_left] at k
    refine qC_of (by decide) (Nat.le_of_ble_eq_true rfl) ?_
    refine q_iload_n d205_0 rfl ?_
    refine n0_ne 8 d205_1 (by decide) (by decide) (fun q => absurd q (by decide)) (fun _ => ?_)
    refine q_iload_n d205_4 rfl ?_
    refine q_goto 15 d205_5 (by decide) ?_
    refine q_iret d205_15 rfl ?_
    exact k
  | succ n ih =>
    intro a b M Q q1 ha hb k
    by_cases h0 : b = 0
    · subst h0
      rw [Nat.gcd_zero_left] at k
      refine qC_of (by decide) (Nat.le_of_ble_eq_true rfl) ?_
      refine q_iload_n d205_0 rfl ?_
      refine n0_ne 8 d205_1 (by decide) (by decide) (fun q => absurd q (by decide)) (fun _ => ?_)
      refine q_iload_n d205_4 rfl ?_
      refine q_goto 15 d205_5 (by decide) ?_
      refine q_iret d205_15 rfl ?_
      exact k
    · have hm := Nat.mod_lt a (Nat.pos_of_ne_zero h0)
      rw [Nat.gcd_rec] at k
      refine qC_of (by decide) (Nat.le_of_ble_eq_true rfl) ?_
      refine q_iload_n d205_0 rfl ?_
      refine n0_ne 8 d205_1 (by decide) (by omega) (fun h1 => ?_) (fun h1 => (False.elim (h0 h1)))
      refine q_iload_n d205_8 rfl ?_
      refine q_iload_n d205_9 rfl ?_
      refine q_iload_n d205_10 rfl ?_
      refine n_irem d205_11 (by omega) (by omega) (by omega) ?_
      refine q_s2 d205_12 (Or.inl rfl) rfl (Nat.le_of_ble_eq_true rfl) (ih _ _ _ _ (Nat.le_of_lt_succ (Nat.lt_of_lt_of_le hm q1)) hb (Nat.lt_trans hm hb) ?_)
      refine q_iret d205_15 rfl ?_
      exact k
theorem c205 {d : Nat} {M : zM} {Q : Option Value → zM → Prop} {a b : Nat} (ha : a < 21) (hb : b < 21) (k : Q (some (.int (nI (Nat.gcd a b)))) M) : qC (d + 21) 205 [.int (nI a), .int (nI b)] M Q := c205g 20 a b M Q (by omega) (by omega) (by omega) (by rw [Nat.gcd_comm]; exact k)
theorem d204_0 : decode (zB 204) 0 = .ok (.iload_n 1, 1) := by decide +kernel
theorem d204_1 : decode (zB 204) 1 = .ok (.invokestatic 345, 3) := by decide +kernel
theorem d204_4 : decode (zB 204) 4 = .ok (.ifCond .eq 23, 3) := by decide +kernel
theorem d204_7 : decode (zB 204) 7 = .ok (.iload_n 3, 1) := by decide +kernel
theorem d204_8 : decode (zB 204) 8 = .ok (.iconst 1, 1) := by decide +kernel
theorem d204_9 : decode (zB 204) 9 = .ok (.bipush 20, 2) := by decide +kernel
theorem d204_11 : decode (zB 204) 11 = .ok (.invokestatic 112, 3) := by decide +kernel
theorem d204_14 : decode (zB 204) 14 = .ok (.ifCond .eq 13, 3) := by decide +kernel
theorem d204_17 : decode (zB 204) 17 = .ok (.iload 4, 2) := by decide +kernel
theorem d204_19 : decode (zB 204) 19 = .ok (.iconst 0, 1) := by decide +kernel
theorem d204_20 : decode (zB 204) 20 = .ok (.iconst 1, 1) := by decide +kernel
theorem d204_21 : decode (zB 204) 21 = .ok (.invokestatic 112, 3) := by decide +kernel
theorem d204_24 : decode (zB 204) 24 = .ok (.ifCond .ne 6, 3) := by decide +kernel
theorem d204_27 : decode (zB 204) 27 = .ok (.bipush (-2), 2) := by decide +kernel
theorem d204_29 : decode (zB 204) 29 = .ok (.ireturn, 1) := by decide +kernel
theorem d204_30 : decode (zB 204) 30 = .ok (.aload_n 0, 1) := by decide +kernel
theorem d204_31 : decode (zB 204) 31 = .ok (.getfield 36, 3) := by decide +kernel
theorem d204_34 : decode (zB 204) 34 = .ok (.iload_n 1, 1) := by decide +kernel
theorem d204_35 : decode (zB 204) 35 = .ok (.iaload, 1) := by decide +kernel
theorem d204_36 : decode (zB 204) 36 = .ok (.ifCond .ne 6, 3) := by decide +kernel
theorem d204_39 : decode (zB 204) 39 = .ok (.bipush (-3), 2) := by decide +kernel
theorem d204_41 : decode (zB 204) 41 = .ok (.ireturn, 1) := by decide +kernel
theorem d204_42 : decode (zB 204) 42 = .ok (.iconst 0, 1) := by decide +kernel
theorem d204_43 : decode (zB 204) 43 = .ok (.istore 5, 2) := by decide +kernel
theorem d204_45 : decode (zB 204) 45 = .ok (.iconst 0, 1) := by decide +kernel
theorem d204_46 : decode (zB 204) 46 = .ok (.istore 6, 2) := by decide +kernel
theorem d204_48 : decode (zB 204) 48 = .ok (.iload 6, 2) := by decide +kernel
theorem d204_50 : decode (zB 204) 50 = .ok (.iload_n 3, 1) := by decide +kernel
theorem d204_51 : decode (zB 204) 51 = .ok (.if_icmp .ge 25, 3) := by decide +kernel
theorem d204_54 : decode (zB 204) 54 = .ok (.aload_n 0, 1) := by decide +kernel
theorem d204_55 : decode (zB 204) 55 = .ok (.iload_n 1, 1) := by decide +kernel
theorem d204_56 : decode (zB 204) 56 = .ok (.iload_n 2, 1) := by decide +kernel
theorem d204_57 : decode (zB 204) 57 = .ok (.iload 6, 2) := by decide +kernel
theorem d204_59 : decode (zB 204) 59 = .ok (.iadd, 1) := by decide +kernel
theorem d204_60 : decode (zB 204) 60 = .ok (.invokevirtual 383, 3) := by decide +kernel
theorem d204_63 : decode (zB 204) 63 = .ok (.iconst 3, 1) := by decide +kernel
theorem d204_64 : decode (zB 204) 64 = .ok (.if_icmp .ne 6, 3) := by decide +kernel
theorem d204_67 : decode (zB 204) 67 = .ok (.iinc 5 1, 3) := by decide +kernel
theorem d204_70 : decode (zB 204) 70 = .ok (.iinc 6 1, 3) := by decide +kernel
theorem d204_73 : decode (zB 204) 73 = .ok (.goto (-25), 3) := by decide +kernel
theorem d204_76 : decode (zB 204) 76 = .ok (.iload 4, 2) := by decide +kernel
theorem d204_78 : decode (zB 204) 78 = .ok (.ifCond .ne 8, 3) := by decide +kernel
theorem d204_81 : decode (zB 204) 81 = .ok (.iload 5, 2) := by decide +kernel
theorem d204_83 : decode (zB 204) 83 = .ok (.goto 4, 3) := by decide +kernel
theorem d204_86 : decode (zB 204) 86 = .ok (.iload_n 3, 1) := by decide +kernel
theorem d204_87 : decode (zB 204) 87 = .ok (.iload 5, 2) := by decide +kernel
theorem d204_89 : decode (zB 204) 89 = .ok (.iload_n 3, 1) := by decide +kernel
theorem d204_90 : decode (zB 204) 90 = .ok (.invokestatic 386, 3) := by decide +kernel
theorem d204_93 : decode (zB 204) 93 = .ok (.idiv, 1) := by decide +kernel
theorem d204_94 : decode (zB 204) 94 = .ok (.ireturn, 1) := by decide +kernel
theorem l204 {d : Nat} {Q : Option Value → zM → Prop} {D : yD} {M0 : zM} {s m w κ : Nat} {z : Int32} (hκ : κ + 4000 < 2147483648) (hs : s < 3) (h0 : gt (dS D s) ≠ 0) (hm0 : 0 < m) (hm : m < 21) (hw : w < 2) (k : ∀ M', RX M' D κ → Fi FY M0 M' → Q (some (.int (if w = 0 then nI (ycn D s z m / Nat.gcd (ycn D s z m) m) else nI (m / Nat.gcd (ycn D s z m) m)))) M') : ∀ (r i : Nat) (M1 : zM), i ≤ m → m < i + r →  RX M1 D κ → Fi FY M0 M1 → qW (zEv (d + 21)) 204 Q 48 [(6, .int (nI i)), (5, .int (nI (ycn D s z i))), (0, .ref 136), (1, .int (nI s)), (2, .int z), (3, .int (nI m)), (4, .int (nI w))] [] M1 := by
  intro r
  induction r with
  | zero => intros; omega
  | succ r ih =>
    intro i M1 h1 h2 hR1 hF
    have hcl := ycn_le D s z i
    refine q_iload d204_48 rfl ?_
    refine q_iload_n d204_50 rfl ?_
    refine nc_ge 76 d204_51 (by decide) (by omega) (by omega) (fun h51 => ?_) (fun h51 => ?_)
    · have ei : i = m := by omega
      have hg1 := Nat.gcd_pos_of_pos_right (ycn D s z i) hm0
      have hg2 := Nat.le_of_dvd hm0 (Nat.gcd_dvd_right (ycn D s z i) m)
      refine q_iload d204_76 rfl ?_
      refine n0_ne 86 d204_78 (by decide) (by omega) (fun h78 => ?_) (fun h78 => ?_)
      · refine q_iload_n d204_86 rfl ?_
        refine q_iload d204_87 rfl ?_
        refine q_iload_n d204_89 rfl ?_
        refine q_s2 d204_90 (Or.inl rfl) rfl (Nat.le_of_ble_eq_true rfl) (c205 (by omega) (by omega) ?_)
        refine n_idiv d204_93 (by omega) (by omega) (by omega) ?_
        refine q_iret d204_94 rfl ?_
        have h := k _ hR1 hF
        rw [if_neg h78] at h
        rw [ei]
        exact h
      · refine q_iload d204_81 rfl ?_
        refine q_goto 87 d204_83 (by decide) ?_
        refine q_iload d204_87 rfl ?_
        refine q_iload_n d204_89 rfl ?_
        refine q_s2 d204_90 (Or.inl rfl) rfl (Nat.le_of_ble_eq_true rfl) (c205 (by omega) (by omega) ?_)
        refine n_idiv d204_93 (by omega) (by omega) (by omega) ?_
        refine q_iret d204_94 rfl ?_
        have h := k _ hR1 hF
        rw [if_pos h78] at h
        rw [ei]
        exact h
    · refine q_aload_n d204_54 rfl ?_
      refine q_iload_n d204_55 rfl ?_
      refine q_iload_n d204_56 rfl ?_
      refine q_iload d204_57 rfl ?_
      refine q_iadd d204_59 ?_
      refine q_v2 d204_60 rfl rfl (xk_136 hR1.1.1) (Nat.le_of_ble_eq_true rfl) (c202 hR1 hκ hs h0 (fun hy5 M2 hR2 g2 => ?_))
      refine q_iconstN (z := 3) d204_63 ?_
      refine nc_ne 70 d204_64 (by decide) (by omega) (by omega) (fun h64 => ?_) (fun h64 => ?_)
      · refine n_iinc 1 d204_70 (by decide) rfl rfl ?_
        refine q_goto 48 d204_73 (by decide) ?_
        rw [← ycn_f h64]
        exact ih (i + 1) _ (by omega) (by omega) hR2 (hF.trans g2)
      · refine n_iinc 1 d204_67 (by decide) rfl rfl ?_
        refine n_iinc 1 d204_70 (by decide) rfl rfl ?_
        refine q_goto 48 d204_73 (by decide) ?_
        rw [← ycn_t h64]
        exact ih (i + 1) _ (by omega) (by omega) hR2 (hF.trans g2)
theorem x204 {d : Nat} {M : zM} {Q : Option Value → zM → Prop} {D : yD} {κ : Nat} {x z y w : Int32} (hR : RX M D κ) (hD : OKD D) (hκ : κ + 4000 < 2147483648) (k : ∀ M', RX M' D κ → Fi FY M M' → Q (some (.int (sChance D x z y w))) M') : qC (d + 22) 204 [.ref 136, .int x, .int z, .int y, .int w] M Q := by
  refine qC_of (by decide) (Nat.le_of_ble_eq_true rfl) ?_
  have hC := hR.1
  have hX := hC.1
  have hO : OKW (dT D) (dc D) (dW D) := hC.2.2.1
  have hc6 := hO.1.1
  have hL : XLo [] M (some (dL D)) := hC.2.2.2.2.2.2.1
  have hSa : ∀ s, s < 3 → XSa M s (dS D s) κ := hC.2.2.2.2.1
  have hTk := hC.k
  have hck := hC.2.2.2.2.2.1
  have h240 := hD.2.1
  unfold sChance at k
  rcases zix_c x (n := 3) (by omega) with ⟨s, hs, rfl, es⟩ | ⟨es, ns⟩
  · rw [oz_s es] at k
    have hOs : OKS (dT D) (dc D) (dS D s) := hO.2.2 s hs
    have hg5 := hOs.1
    have hsa := hSa s hs
    rcases zix_c y (n := 21) (by omega) with ⟨m, hm, rfl, em⟩ | ⟨em, nm⟩
    · rw [oz_s em] at k
      by_cases hm0 : m = 0
      · subst hm0
        rw [if_pos rfl] at k
        refine q_iload_n d204_0 rfl ?_
        refine q_s1 d204_1 (Or.inl rfl) rfl (Nat.le_of_ble_eq_true rfl) (c169t (by omega) ?_)
        refine n0_eq 27 d204_4 (by decide) (by decide) (fun q => absurd q (by decide)) (fun _ => ?_)
        refine q_iload_n d204_7 rfl ?_
        refine q_iconstN (z := 1) d204_8 ?_
        refine q_bipush (x := nI 20) d204_9 rfl ?_
        refine q_s3 d204_11 (Or.inl rfl) rfl (Nat.le_of_ble_eq_true rfl) (c131n (by decide) (by decide) (by decide) (by decide) ?_)
        refine n0_eq 27 d204_14 (by decide) (by decide) (fun _ => ?_) (fun q => absurd q (by decide))
        refine q_bipush (x := (-2)) d204_27 rfl ?_
        refine q_iret d204_29 rfl ?_
        exact k _ hR (Fi.refl _ _)
      · rw [if_neg hm0] at k
        rcases zix_c w (n := 2) (by omega) with ⟨w, hw, rfl, ew⟩ | ⟨ew, nw⟩
        · rw [oz_s ew] at k
          by_cases h0 : gt (dS D s) = 0
          · rw [if_pos h0] at k
            refine q_iload_n d204_0 rfl ?_
            refine q_s1 d204_1 (Or.inl rfl) rfl (Nat.le_of_ble_eq_true rfl) (c169t (by omega) ?_)
            refine n0_eq 27 d204_4 (by decide) (by decide) (fun q => absurd q (by decide)) (fun _ => ?_)
            refine q_iload_n d204_7 rfl ?_
            refine q_iconstN (z := 1) d204_8 ?_
            refine q_bipush (x := nI 20) d204_9 rfl ?_
            refine q_s3 d204_11 (Or.inl rfl) rfl (Nat.le_of_ble_eq_true rfl) (c131t ⟨by omega, by omega⟩ (by decide) ?_)
            refine n0_eq 27 d204_14 (by decide) (by decide) (fun q => absurd q (by decide)) (fun _ => ?_)
            refine q_iload d204_17 rfl ?_
            refine q_iconstN (z := 0) d204_19 ?_
            refine q_iconstN (z := 1) d204_20 ?_
            refine q_s3 d204_21 (Or.inl rfl) rfl (Nat.le_of_ble_eq_true rfl) (c131t ⟨by omega, by omega⟩ (by omega) ?_)
            refine n0_ne 30 d204_24 (by decide) (by decide) (fun _ => ?_) (fun q => absurd q (by decide))
            refine q_aload_n d204_30 rfl ?_
            refine q_getr (c := 8) (f := 11) d204_31 ⟨rfl, rfl⟩ (xk_136 hX) (xf_states hX) ?_
            refine q_iload_n d204_34 rfl ?_
            refine n_iald d204_35 (xk_states hX) (by omega) (by decide) (hSa _ (by omega)).1.1 ?_
            refine n0_ne 42 d204_36 (by decide) (by omega) (fun h36 => (False.elim (h36 h0))) (fun h36 => ?_)
            refine q_bipush (x := (-3)) d204_39 rfl ?_
            refine q_iret d204_41 rfl ?_
            exact k _ hR (Fi.refl _ _)
          · rw [if_neg h0] at k
            refine q_iload_n d204_0 rfl ?_
            refine q_s1 d204_1 (Or.inl rfl) rfl (Nat.le_of_ble_eq_true rfl) (c169t (by omega) ?_)
            refine n0_eq 27 d204_4 (by decide) (by decide) (fun q => absurd q (by decide)) (fun _ => ?_)
            refine q_iload_n d204_7 rfl ?_
            refine q_iconstN (z := 1) d204_8 ?_
            refine q_bipush (x := nI 20) d204_9 rfl ?_
            refine q_s3 d204_11 (Or.inl rfl) rfl (Nat.le_of_ble_eq_true rfl) (c131t ⟨by omega, by omega⟩ (by decide) ?_)
            refine n0_eq 27 d204_14 (by decide) (by decide) (fun q => absurd q (by decide)) (fun _ => ?_)
            refine q_iload d204_17 rfl ?_
            refine q_iconstN (z := 0) d204_19 ?_
            refine q_iconstN (z := 1) d204_20 ?_
            refine q_s3 d204_21 (Or.inl rfl) rfl (Nat.le_of_ble_eq_true rfl) (c131t ⟨by omega, by omega⟩ (by omega) ?_)
            refine n0_ne 30 d204_24 (by decide) (by decide) (fun _ => ?_) (fun q => absurd q (by decide))
            refine q_aload_n d204_30 rfl ?_
            refine q_getr (c := 8) (f := 11) d204_31 ⟨rfl, rfl⟩ (xk_136 hX) (xf_states hX) ?_
            refine q_iload_n d204_34 rfl ?_
            refine n_iald d204_35 (xk_states hX) (by omega) (by decide) (hSa _ (by omega)).1.1 ?_
            refine n0_ne 42 d204_36 (by decide) (by omega) (fun h36 => ?_) (fun h36 => (False.elim (h0 h36)))
            refine q_iconstN (z := 0) d204_42 ?_
            refine q_istore d204_43 (by decide) rfl ?_
            refine q_iconstN (z := 0) d204_45 ?_
            refine q_istore d204_46 (by decide) rfl ?_
            exact l204 hκ hs h0 (by omega) hm hw (fun M' g1 g2 => k M' g1 g2) (m + 1) 0 M (by omega) (by omega) hR (Fi.refl _ _)
        · rw [oz_n ew] at k
          refine q_iload_n d204_0 rfl ?_
          refine q_s1 d204_1 (Or.inl rfl) rfl (Nat.le_of_ble_eq_true rfl) (c169t (by omega) ?_)
          refine n0_eq 27 d204_4 (by decide) (by decide) (fun q => absurd q (by decide)) (fun _ => ?_)
          refine q_iload_n d204_7 rfl ?_
          refine q_iconstN (z := 1) d204_8 ?_
          refine q_bipush (x := nI 20) d204_9 rfl ?_
          refine q_s3 d204_11 (Or.inl rfl) rfl (Nat.le_of_ble_eq_true rfl) (c131t ⟨by omega, by omega⟩ (by decide) ?_)
          refine n0_eq 27 d204_14 (by decide) (by decide) (fun q => absurd q (by decide)) (fun _ => ?_)
          refine q_iload d204_17 rfl ?_
          refine q_iconstN (z := 0) d204_19 ?_
          refine q_iconstN (z := 1) d204_20 ?_
          refine q_s3 d204_21 (Or.inl rfl) rfl (Nat.le_of_ble_eq_true rfl) (c131f (by decide) (by have := zix_none ew; omega) (by decide) ?_)
          refine n0_ne 30 d204_24 (by decide) (by decide) (fun q => absurd q (by decide)) (fun _ => ?_)
          refine q_bipush (x := (-2)) d204_27 rfl ?_
          refine q_iret d204_29 rfl ?_
          exact k _ hR (Fi.refl _ _)
    · rw [oz_n em] at k
      refine q_iload_n d204_0 rfl ?_
      refine q_s1 d204_1 (Or.inl rfl) rfl (Nat.le_of_ble_eq_true rfl) (c169t (by omega) ?_)
      refine n0_eq 27 d204_4 (by decide) (by decide) (fun q => absurd q (by decide)) (fun _ => ?_)
      refine q_iload_n d204_7 rfl ?_
      refine q_iconstN (z := 1) d204_8 ?_
      refine q_bipush (x := nI 20) d204_9 rfl ?_
      refine q_s3 d204_11 (Or.inl rfl) rfl (Nat.le_of_ble_eq_true rfl) (c131f (by decide) (by have := zix_none em; omega) (by decide) ?_)
      refine n0_eq 27 d204_14 (by decide) (by decide) (fun _ => ?_) (fun q => absurd q (by decide))
      refine q_bipush (x := (-2)) d204_27 rfl ?_
      refine q_iret d204_29 rfl ?_
      exact k _ hR (Fi.refl _ _)
  · rw [oz_n es] at k
    refine q_iload_n d204_0 rfl ?_
    refine q_s1 d204_1 (Or.inl rfl) rfl (Nat.le_of_ble_eq_true rfl) (c169f es ?_)
    refine n0_eq 27 d204_4 (by decide) (by decide) (fun _ => ?_) (fun q => absurd q (by decide))
    refine q_bipush (x := (-2)) d204_27 rfl ?_
    refine q_iret d204_29 rfl ?_
    exact k _ hR (Fi.refl _ _)
