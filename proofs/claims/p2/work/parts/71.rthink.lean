/-! ===== the reference: views, replays ===== -/
theorem d192_0 : decode (zB 192) 0 = .ok (.iload_n 0, 1) := by decide +kernel
theorem d192_1 : decode (zB 192) 1 = .ok (.iconst 0, 1) := by decide +kernel
theorem d192_2 : decode (zB 192) 2 = .ok (.bipush 7, 2) := by decide +kernel
theorem d192_4 : decode (zB 192) 4 = .ok (.invokestatic 112, 3) := by decide +kernel
theorem d192_7 : decode (zB 192) 7 = .ok (.ifCond .ne 47, 3) := by decide +kernel
theorem d192_10 : decode (zB 192) 10 = .ok (.iload_n 0, 1) := by decide +kernel
theorem d192_11 : decode (zB 192) 11 = .ok (.bipush 10, 2) := by decide +kernel
theorem d192_13 : decode (zB 192) 13 = .ok (.bipush 12, 2) := by decide +kernel
theorem d192_15 : decode (zB 192) 15 = .ok (.invokestatic 112, 3) := by decide +kernel
theorem d192_18 : decode (zB 192) 18 = .ok (.ifCond .ne 36, 3) := by decide +kernel
theorem d192_21 : decode (zB 192) 21 = .ok (.iload_n 0, 1) := by decide +kernel
theorem d192_22 : decode (zB 192) 22 = .ok (.bipush 20, 2) := by decide +kernel
theorem d192_24 : decode (zB 192) 24 = .ok (.bipush 22, 2) := by decide +kernel
theorem d192_26 : decode (zB 192) 26 = .ok (.invokestatic 112, 3) := by decide +kernel
theorem d192_29 : decode (zB 192) 29 = .ok (.ifCond .ne 25, 3) := by decide +kernel
theorem d192_32 : decode (zB 192) 32 = .ok (.iload_n 0, 1) := by decide +kernel
theorem d192_33 : decode (zB 192) 33 = .ok (.bipush 30, 2) := by decide +kernel
theorem d192_35 : decode (zB 192) 35 = .ok (.bipush 32, 2) := by decide +kernel
theorem d192_37 : decode (zB 192) 37 = .ok (.invokestatic 112, 3) := by decide +kernel
theorem d192_40 : decode (zB 192) 40 = .ok (.ifCond .ne 14, 3) := by decide +kernel
theorem d192_43 : decode (zB 192) 43 = .ok (.iload_n 0, 1) := by decide +kernel
theorem d192_44 : decode (zB 192) 44 = .ok (.bipush 40, 2) := by decide +kernel
theorem d192_46 : decode (zB 192) 46 = .ok (.bipush 42, 2) := by decide +kernel
theorem d192_48 : decode (zB 192) 48 = .ok (.invokestatic 112, 3) := by decide +kernel
theorem d192_51 : decode (zB 192) 51 = .ok (.ifCond .eq 7, 3) := by decide +kernel
theorem d192_54 : decode (zB 192) 54 = .ok (.iconst 1, 1) := by decide +kernel
theorem d192_55 : decode (zB 192) 55 = .ok (.goto 4, 3) := by decide +kernel
theorem d192_58 : decode (zB 192) 58 = .ok (.iconst 0, 1) := by decide +kernel
theorem d192_59 : decode (zB 192) 59 = .ok (.ireturn, 1) := by decide +kernel
theorem c192 {d : Nat} {M : zM} {Q : Option Value → zM → Prop} {x : Int32} (k : Q (some (.int (bI (yvx x).isSome))) M) : qC (d + 2) 192 [.int x] M Q := by
  refine qC_of (by decide) (Nat.le_of_ble_eq_true rfl) ?_
  rcases zix_c x (n := 50) (by omega) with ⟨m, hm, rfl, e⟩ | ⟨e, hn⟩
  · by_cases h0 : 0 ≤ m ∧ m ≤ 7
    · have hw : ywv m = true := by
        simp only [ywv, Bool.or_eq_true, Bool.and_eq_true, decide_eq_true_eq]
        omega
      rw [yvx_n hw hm] at k
      refine q_iload_n d192_0 rfl ?_
      refine q_iconstN (z := 0) d192_1 ?_
      refine q_bipush (x := nI 7) d192_2 rfl ?_
      refine q_s3 d192_4 (Or.inl rfl) rfl (Nat.le_of_ble_eq_true rfl) (c131t ⟨by omega, by omega⟩ (by omega) ?_)
      refine n0_ne 54 d192_7 (by decide) (by decide) (fun _ => ?_) (fun q => absurd q (by decide))
      refine q_iconstN (z := 1) d192_54 ?_
      refine q_goto 59 d192_55 (by decide) ?_
      refine q_zret d192_59 rfl (by decide) ?_
      exact bK1 k rfl
    · by_cases h1 : 10 ≤ m ∧ m ≤ 12
      · have hw : ywv m = true := by
          simp only [ywv, Bool.or_eq_true, Bool.and_eq_true, decide_eq_true_eq]
          omega
        rw [yvx_n hw hm] at k
        refine q_iload_n d192_0 rfl ?_
        refine q_iconstN (z := 0) d192_1 ?_
        refine q_bipush (x := nI 7) d192_2 rfl ?_
        refine q_s3 d192_4 (Or.inl rfl) rfl (Nat.le_of_ble_eq_true rfl) (c131n (by omega) (by omega) (by omega) (by omega) ?_)
        refine n0_ne 54 d192_7 (by decide) (by decide) (fun q => absurd q (by decide)) (fun _ => ?_)
        refine q_iload_n d192_10 rfl ?_
        refine q_bipush (x := nI 10) d192_11 rfl ?_
        refine q_bipush (x := nI 12) d192_13 rfl ?_
        refine q_s3 d192_15 (Or.inl rfl) rfl (Nat.le_of_ble_eq_true rfl) (c131t ⟨by omega, by omega⟩ (by omega) ?_)
        refine n0_ne 54 d192_18 (by decide) (by decide) (fun _ => ?_) (fun q => absurd q (by decide))
        refine q_iconstN (z := 1) d192_54 ?_
        refine q_goto 59 d192_55 (by decide) ?_
        refine q_zret d192_59 rfl (by decide) ?_
        exact bK1 k rfl
      · by_cases h2 : 20 ≤ m ∧ m ≤ 22
        · have hw : ywv m = true := by
            simp only [ywv, Bool.or_eq_true, Bool.and_eq_true, decide_eq_true_eq]
            omega
          rw [yvx_n hw hm] at k
          refine q_iload_n d192_0 rfl ?_
          refine q_iconstN (z := 0) d192_1 ?_
          refine q_bipush (x := nI 7) d192_2 rfl ?_
          refine q_s3 d192_4 (Or.inl rfl) rfl (Nat.le_of_ble_eq_true rfl) (c131n (by omega) (by omega) (by omega) (by omega) ?_)
          refine n0_ne 54 d192_7 (by decide) (by decide) (fun q => absurd q (by decide)) (fun _ => ?_)
          refine q_iload_n d192_10 rfl ?_
          refine q_bipush (x := nI 10) d192_11 rfl ?_
          refine q_bipush (x := nI 12) d192_13 rfl ?_
          refine q_s3 d192_15 (Or.inl rfl) rfl (Nat.le_of_ble_eq_true rfl) (c131n (by omega) (by omega) (by omega) (by omega) ?_)
          refine n0_ne 54 d192_18 (by decide) (by decide) (fun q => absurd q (by decide)) (fun _ => ?_)
          refine q_iload_n d192_21 rfl ?_
          refine q_bipush (x := nI 20) d192_22 rfl ?_
          refine q_bipush (x := nI 22) d192_24 rfl ?_
          refine q_s3 d192_26 (Or.inl rfl) rfl (Nat.le_of_ble_eq_true rfl) (c131t ⟨by omega, by omega⟩ (by omega) ?_)
          refine n0_ne 54 d192_29 (by decide) (by decide) (fun _ => ?_) (fun q => absurd q (by decide))
          refine q_iconstN (z := 1) d192_54 ?_
          refine q_goto 59 d192_55 (by decide) ?_
          refine q_zret d192_59 rfl (by decide) ?_
          exact bK1 k rfl
        · by_cases h3 : 30 ≤ m ∧ m ≤ 32
          · have hw : ywv m = true := by
              simp only [ywv, Bool.or_eq_true, Bool.and_eq_true, decide_eq_true_eq]
              omega
            rw [yvx_n hw hm] at k
            refine q_iload_n d192_0 rfl ?_
            refine q_iconstN (z := 0) d192_1 ?_
            refine q_bipush (x := nI 7) d192_2 rfl ?_
            refine q_s3 d192_4 (Or.inl rfl) rfl (Nat.le_of_ble_eq_true rfl) (c131n (by omega) (by omega) (by omega) (by omega) ?_)
            refine n0_ne 54 d192_7 (by decide) (by decide) (fun q => absurd q (by decide)) (fun _ => ?_)
            refine q_iload_n d192_10 rfl ?_
            refine q_bipush (x := nI 10) d192_11 rfl ?_
            refine q_bipush (x := nI 12) d192_13 rfl ?_
            refine q_s3 d192_15 (Or.inl rfl) rfl (Nat.le_of_ble_eq_true rfl) (c131n (by omega) (by omega) (by omega) (by omega) ?_)
            refine n0_ne 54 d192_18 (by decide) (by decide) (fun q => absurd q (by decide)) (fun _ => ?_)
            refine q_iload_n d192_21 rfl ?_
            refine q_bipush (x := nI 20) d192_22 rfl ?_
            refine q_bipush (x := nI 22) d192_24 rfl ?_
            refine q_s3 d192_26 (Or.inl rfl) rfl (Nat.le_of_ble_eq_true rfl) (c131n (by omega) (by omega) (by omega) (by omega) ?_)
            refine n0_ne 54 d192_29 (by decide) (by decide) (fun q => absurd q (by decide)) (fun _ => ?_)
            refine q_iload_n d192_32 rfl ?_
            refine q_bipush (x := nI 30) d192_33 rfl ?_
            refine q_bipush (x := nI 32) d192_35 rfl ?_
            refine q_s3 d192_37 (Or.inl rfl) rfl (Nat.le_of_ble_eq_true rfl) (c131t ⟨by omega, by omega⟩ (by omega) ?_)
            refine n0_ne 54 d192_40 (by decide) (by decide) (fun _ => ?_) (fun q => absurd q (by decide))
            refine q_iconstN (z := 1) d192_54 ?_
            refine q_goto 59 d192_55 (by decide) ?_
            refine q_zret d192_59 rfl (by decide) ?_
            exact bK1 k rfl
          · by_cases h4 : 40 ≤ m ∧ m ≤ 42
            · have hw : ywv m = true := by
                simp only [ywv, Bool.or_eq_true, Bool.and_eq_true, decide_eq_true_eq]
                omega
              rw [yvx_n hw hm] at k
              refine q_iload_n d192_0 rfl ?_
              refine q_iconstN (z := 0) d192_1 ?_
              refine q_bipush (x := nI 7) d192_2 rfl ?_
              refine q_s3 d192_4 (Or.inl rfl) rfl (Nat.le_of_ble_eq_true rfl) (c131n (by omega) (by omega) (by omega) (by omega) ?_)
              refine n0_ne 54 d192_7 (by decide) (by decide) (fun q => absurd q (by decide)) (fun _ => ?_)
              refine q_iload_n d192_10 rfl ?_
              refine q_bipush (x := nI 10) d192_11 rfl ?_
              refine q_bipush (x := nI 12) d192_13 rfl ?_
              refine q_s3 d192_15 (Or.inl rfl) rfl (Nat.le_of_ble_eq_true rfl) (c131n (by omega) (by omega) (by omega) (by omega) ?_)
              refine n0_ne 54 d192_18 (by decide) (by decide) (fun q => absurd q (by decide)) (fun _ => ?_)
              refine q_iload_n d192_21 rfl ?_
              refine q_bipush (x := nI 20) d192_22 rfl ?_
              refine q_bipush (x := nI 22) d192_24 rfl ?_
              refine q_s3 d192_26 (Or.inl rfl) rfl (Nat.le_of_ble_eq_true rfl) (c131n (by omega) (by omega) (by omega) (by omega) ?_)
              refine n0_ne 54 d192_29 (by decide) (by decide) (fun q => absurd q (by decide)) (fun _ => ?_)
              refine q_iload_n d192_32 rfl ?_
              refine q_bipush (x := nI 30) d192_33 rfl ?_
              refine q_bipush (x := nI 32) d192_35 rfl ?_
              refine q_s3 d192_37 (Or.inl rfl) rfl (Nat.le_of_ble_eq_true rfl) (c131n (by omega) (by omega) (by omega) (by omega) ?_)
              refine n0_ne 54 d192_40 (by decide) (by decide) (fun q => absurd q (by decide)) (fun _ => ?_)
              refine q_iload_n d192_43 rfl ?_
              refine q_bipush (x := nI 40) d192_44 rfl ?_
              refine q_bipush (x := nI 42) d192_46 rfl ?_
              refine q_s3 d192_48 (Or.inl rfl) rfl (Nat.le_of_ble_eq_true rfl) (c131t ⟨by omega, by omega⟩ (by omega) ?_)
              refine n0_eq 58 d192_51 (by decide) (by decide) (fun q => absurd q (by decide)) (fun _ => ?_)
              refine q_iconstN (z := 1) d192_54 ?_
              refine q_goto 59 d192_55 (by decide) ?_
              refine q_zret d192_59 rfl (by decide) ?_
              exact bK1 k rfl
            · have hw : ¬ ywv m = true := fun q => by
                simp only [ywv, Bool.or_eq_true, Bool.and_eq_true, decide_eq_true_eq] at q
                omega
              have ev : yvx (nI m) = none := by
                unfold yvx
                rw [e]
                exact if_neg hw
              rw [ev] at k
              refine q_iload_n d192_0 rfl ?_
              refine q_iconstN (z := 0) d192_1 ?_
              refine q_bipush (x := nI 7) d192_2 rfl ?_
              refine q_s3 d192_4 (Or.inl rfl) rfl (Nat.le_of_ble_eq_true rfl) (c131n (by omega) (by omega) (by omega) (by omega) ?_)
              refine n0_ne 54 d192_7 (by decide) (by decide) (fun q => absurd q (by decide)) (fun _ => ?_)
              refine q_iload_n d192_10 rfl ?_
              refine q_bipush (x := nI 10) d192_11 rfl ?_
              refine q_bipush (x := nI 12) d192_13 rfl ?_
              refine q_s3 d192_15 (Or.inl rfl) rfl (Nat.le_of_ble_eq_true rfl) (c131n (by omega) (by omega) (by omega) (by omega) ?_)
              refine n0_ne 54 d192_18 (by decide) (by decide) (fun q => absurd q (by decide)) (fun _ => ?_)
              refine q_iload_n d192_21 rfl ?_
              refine q_bipush (x := nI 20) d192_22 rfl ?_
              refine q_bipush (x := nI 22) d192_24 rfl ?_
              refine q_s3 d192_26 (Or.inl rfl) rfl (Nat.le_of_ble_eq_true rfl) (c131n (by omega) (by omega) (by omega) (by omega) ?_)
              refine n0_ne 54 d192_29 (by decide) (by decide) (fun q => absurd q (by decide)) (fun _ => ?_)
              refine q_iload_n d192_32 rfl ?_
              refine q_bipush (x := nI 30) d192_33 rfl ?_
              refine q_bipush (x := nI 32) d192_35 rfl ?_
              refine q_s3 d192_37 (Or.inl rfl) rfl (Nat.le_of_ble_eq_true rfl) (c131n (by omega) (by omega) (by omega) (by omega) ?_)
              refine n0_ne 54 d192_40 (by decide) (by decide) (fun q => absurd q (by decide)) (fun _ => ?_)
              refine q_iload_n d192_43 rfl ?_
              refine q_bipush (x := nI 40) d192_44 rfl ?_
              refine q_bipush (x := nI 42) d192_46 rfl ?_
              refine q_s3 d192_48 (Or.inl rfl) rfl (Nat.le_of_ble_eq_true rfl) (c131n (by omega) (by omega) (by omega) (by omega) ?_)
              refine n0_eq 58 d192_51 (by decide) (by decide) (fun _ => ?_) (fun q => absurd q (by decide))
              refine q_iconstN (z := 0) d192_58 ?_
              refine q_zret d192_59 rfl (by decide) ?_
              exact bK0 k rfl
  · have ev : yvx x = none := by unfold yvx; rw [e]
    rw [ev] at k
    refine q_iload_n d192_0 rfl ?_
    refine q_iconstN (z := 0) d192_1 ?_
    refine q_bipush (x := nI 7) d192_2 rfl ?_
    refine q_s3 d192_4 (Or.inl rfl) rfl (Nat.le_of_ble_eq_true rfl) (c131f (by decide) (by omega) (by decide) ?_)
    refine n0_ne 54 d192_7 (by decide) (by decide) (fun q => absurd q (by decide)) (fun _ => ?_)
    refine q_iload_n d192_10 rfl ?_
    refine q_bipush (x := nI 10) d192_11 rfl ?_
    refine q_bipush (x := nI 12) d192_13 rfl ?_
    refine q_s3 d192_15 (Or.inl rfl) rfl (Nat.le_of_ble_eq_true rfl) (c131f (by decide) (by omega) (by decide) ?_)
    refine n0_ne 54 d192_18 (by decide) (by decide) (fun q => absurd q (by decide)) (fun _ => ?_)
    refine q_iload_n d192_21 rfl ?_
    refine q_bipush (x := nI 20) d192_22 rfl ?_
    refine q_bipush (x := nI 22) d192_24 rfl ?_
    refine q_s3 d192_26 (Or.inl rfl) rfl (Nat.le_of_ble_eq_true rfl) (c131f (by decide) (by omega) (by decide) ?_)
    refine n0_ne 54 d192_29 (by decide) (by decide) (fun q => absurd q (by decide)) (fun _ => ?_)
    refine q_iload_n d192_32 rfl ?_
    refine q_bipush (x := nI 30) d192_33 rfl ?_
    refine q_bipush (x := nI 32) d192_35 rfl ?_
    refine q_s3 d192_37 (Or.inl rfl) rfl (Nat.le_of_ble_eq_true rfl) (c131f (by decide) (by omega) (by decide) ?_)
    refine n0_ne 54 d192_40 (by decide) (by decide) (fun q => absurd q (by decide)) (fun _ => ?_)
    refine q_iload_n d192_43 rfl ?_
    refine q_bipush (x := nI 40) d192_44 rfl ?_
    refine q_bipush (x := nI 42) d192_46 rfl ?_
    refine q_s3 d192_48 (Or.inl rfl) rfl (Nat.le_of_ble_eq_true rfl) (c131f (by decide) (by omega) (by decide) ?_)
    refine n0_eq 58 d192_51 (by decide) (by decide) (fun _ => ?_) (fun q => absurd q (by decide))
    refine q_iconstN (z := 0) d192_58 ?_
    refine q_zret d192_59 rfl (by decide) ?_
    exact bK0 k rfl
theorem c192t {d m : Nat} {M : zM} {Q : Option Value → zM → Prop} {x : Int32} (h : yvx x = some m) (k : Q (some (.int (nI 1))) M) : qC (d + 2) 192 [.int x] M Q := c192 (by rw [h]; exact k)
theorem c192f {d : Nat} {M : zM} {Q : Option Value → zM → Prop} {x : Int32} (h : yvx x = none) (k : Q (some (.int (nI 0))) M) : qC (d + 2) 192 [.int x] M Q := c192 (by rw [h]; exact k)
theorem CX.w {G : List yL} {M : zM} {T : Nat → yT} {c κ : Nat} {nm : Nat → Nat → Int32} {X : yX} (h : CX G M T c nm X κ) : WX M T c X.1 κ := ⟨h.1, h.2.1, h.2.2.1, h.2.2.2.1, h.2.2.2.2.1, h.2.2.2.2.2.1⟩
theorem d195_0 : decode (zB 195) 0 = .ok (.iload_n 1, 1) := by decide +kernel
theorem d195_1 : decode (zB 195) 1 = .ok (.bipush 6, 2) := by decide +kernel
theorem d195_3 : decode (zB 195) 3 = .ok (.if_icmp .ge 10, 3) := by decide +kernel
theorem d195_6 : decode (zB 195) 6 = .ok (.aload_n 0, 1) := by decide +kernel
theorem d195_7 : decode (zB 195) 7 = .ok (.getfield 33, 3) := by decide +kernel
theorem d195_10 : decode (zB 195) 10 = .ok (.iload_n 1, 1) := by decide +kernel
theorem d195_11 : decode (zB 195) 11 = .ok (.iaload, 1) := by decide +kernel
theorem d195_12 : decode (zB 195) 12 = .ok (.ireturn, 1) := by decide +kernel
theorem d195_13 : decode (zB 195) 13 = .ok (.iload_n 1, 1) := by decide +kernel
theorem d195_14 : decode (zB 195) 14 = .ok (.bipush 8, 2) := by decide +kernel
theorem d195_16 : decode (zB 195) 16 = .ok (.if_icmp .ge 21, 3) := by decide +kernel
theorem d195_19 : decode (zB 195) 19 = .ok (.iload_n 1, 1) := by decide +kernel
theorem d195_20 : decode (zB 195) 20 = .ok (.bipush 6, 2) := by decide +kernel
theorem d195_22 : decode (zB 195) 22 = .ok (.if_icmp .ne 10, 3) := by decide +kernel
theorem d195_25 : decode (zB 195) 25 = .ok (.aload_n 0, 1) := by decide +kernel
theorem d195_26 : decode (zB 195) 26 = .ok (.getfield 276, 3) := by decide +kernel
theorem d195_29 : decode (zB 195) 29 = .ok (.goto 7, 3) := by decide +kernel
theorem d195_32 : decode (zB 195) 32 = .ok (.aload_n 0, 1) := by decide +kernel
theorem d195_33 : decode (zB 195) 33 = .ok (.getfield 282, 3) := by decide +kernel
theorem d195_36 : decode (zB 195) 36 = .ok (.ireturn, 1) := by decide +kernel
theorem d195_37 : decode (zB 195) 37 = .ok (.iload_n 1, 1) := by decide +kernel
theorem d195_38 : decode (zB 195) 38 = .ok (.bipush 20, 2) := by decide +kernel
theorem d195_40 : decode (zB 195) 40 = .ok (.if_icmp .ge 13, 3) := by decide +kernel
theorem d195_43 : decode (zB 195) 43 = .ok (.aload_n 0, 1) := by decide +kernel
theorem d195_44 : decode (zB 195) 44 = .ok (.getfield 36, 3) := by decide +kernel
theorem d195_47 : decode (zB 195) 47 = .ok (.iload_n 1, 1) := by decide +kernel
theorem d195_48 : decode (zB 195) 48 = .ok (.bipush 10, 2) := by decide +kernel
theorem d195_50 : decode (zB 195) 50 = .ok (.isub, 1) := by decide +kernel
theorem d195_51 : decode (zB 195) 51 = .ok (.iaload, 1) := by decide +kernel
theorem d195_52 : decode (zB 195) 52 = .ok (.ireturn, 1) := by decide +kernel
theorem d195_53 : decode (zB 195) 53 = .ok (.aload_n 0, 1) := by decide +kernel
theorem d195_54 : decode (zB 195) 54 = .ok (.iload_n 1, 1) := by decide +kernel
theorem d195_55 : decode (zB 195) 55 = .ok (.bipush 10, 2) := by decide +kernel
theorem d195_57 : decode (zB 195) 57 = .ok (.irem, 1) := by decide +kernel
theorem d195_58 : decode (zB 195) 58 = .ok (.iload_n 1, 1) := by decide +kernel
theorem d195_59 : decode (zB 195) 59 = .ok (.bipush 10, 2) := by decide +kernel
theorem d195_61 : decode (zB 195) 61 = .ok (.idiv, 1) := by decide +kernel
theorem d195_62 : decode (zB 195) 62 = .ok (.iconst 1, 1) := by decide +kernel
theorem d195_63 : decode (zB 195) 63 = .ok (.isub, 1) := by decide +kernel
theorem d195_64 : decode (zB 195) 64 = .ok (.invokevirtual 304, 3) := by decide +kernel
theorem d195_67 : decode (zB 195) 67 = .ok (.ireturn, 1) := by decide +kernel
/-- a view of the world -/
theorem c195 {d : Nat} {M : zM} {Q : Option Value → zM → Prop} {T : Nat → yT} {c m κ : Nat} {W : yW} (hW : WX M T c W κ) (hm : ywv m = true) (h50 : m < 50) (k : Q (some (.int (yvw W m))) M) : qC (d + 2) 195 [.ref 136, .int (nI m)] M Q := by
  refine qC_of (by decide) (Nat.le_of_ble_eq_true rfl) ?_
  simp only [ywv, Bool.or_eq_true, Bool.and_eq_true, decide_eq_true_eq] at hm
  by_cases h6 : m < 6
  · rw [show yvw W m = W.1.1 m from if_pos h6] at k
    refine q_iload_n d195_0 rfl ?_
    refine q_bipush (x := nI 6) d195_1 rfl ?_
    refine nc_ge 13 d195_3 (by decide) (by omega) (by omega) (fun h3 => (False.elim (by omega))) (fun h3 => ?_)
    refine q_aload_n d195_6 rfl ?_
    refine q_getr (c := 8) (f := 8) d195_7 ⟨rfl, rfl⟩ (xk_136 hW.1) (xf_balances hW.1) ?_
    refine q_iload_n d195_10 rfl ?_
    refine n_iald d195_11 (xk_balances hW.1) (by omega) (by decide) (hW.2.2.2.1.1 _ (by omega)) ?_
    refine q_iret d195_12 rfl ?_
    exact k
  · rcases (show m = 6 ∨ m = 7 ∨ m = 10 ∨ m = 11 ∨ m = 12 ∨ m = 20 ∨ m = 21 ∨ m = 22 ∨ m = 30 ∨ m = 31 ∨ m = 32 ∨ m = 40 ∨ m = 41 ∨ m = 42 by omega) with rfl | rfl | rfl | rfl | rfl | rfl | rfl | rfl | rfl | rfl | rfl | rfl | rfl | rfl
    · refine q_iload_n d195_0 rfl ?_
      refine q_bipush (x := nI 6) d195_1 rfl ?_
      refine nc_ge 13 d195_3 (by decide) (by decide) (by decide) (fun _ => ?_) (fun q => absurd q (by decide))
      refine q_iload_n d195_13 rfl ?_
      refine q_bipush (x := nI 8) d195_14 rfl ?_
      refine nc_ge 37 d195_16 (by decide) (by decide) (by decide) (fun q => absurd q (by decide)) (fun _ => ?_)
      refine q_iload_n d195_19 rfl ?_
      refine q_bipush (x := nI 6) d195_20 rfl ?_
      refine nc_ne 32 d195_22 (by decide) (by decide) (by decide) (fun q => absurd q (by decide)) (fun _ => ?_)
      refine q_aload_n d195_25 rfl ?_
      refine q_getv (c := 8) (f := 9) d195_26 ⟨rfl, by decide⟩ (xk_136 hW.1) hW.2.2.2.1.2.1 ?_
      refine q_goto 36 d195_29 (by decide) ?_
      refine q_iret d195_36 rfl ?_
      exact k
    · refine q_iload_n d195_0 rfl ?_
      refine q_bipush (x := nI 6) d195_1 rfl ?_
      refine nc_ge 13 d195_3 (by decide) (by decide) (by decide) (fun _ => ?_) (fun q => absurd q (by decide))
      refine q_iload_n d195_13 rfl ?_
      refine q_bipush (x := nI 8) d195_14 rfl ?_
      refine nc_ge 37 d195_16 (by decide) (by decide) (by decide) (fun q => absurd q (by decide)) (fun _ => ?_)
      refine q_iload_n d195_19 rfl ?_
      refine q_bipush (x := nI 6) d195_20 rfl ?_
      refine nc_ne 32 d195_22 (by decide) (by decide) (by decide) (fun _ => ?_) (fun q => absurd q (by decide))
      refine q_aload_n d195_32 rfl ?_
      refine q_getv (c := 8) (f := 10) d195_33 ⟨rfl, by decide⟩ (xk_136 hW.1) hW.2.2.2.1.2.2 ?_
      refine q_iret d195_36 rfl ?_
      exact k
    · refine q_iload_n d195_0 rfl ?_
      refine q_bipush (x := nI 6) d195_1 rfl ?_
      refine nc_ge 13 d195_3 (by decide) (by decide) (by decide) (fun _ => ?_) (fun q => absurd q (by decide))
      refine q_iload_n d195_13 rfl ?_
      refine q_bipush (x := nI 8) d195_14 rfl ?_
      refine nc_ge 37 d195_16 (by decide) (by decide) (by decide) (fun _ => ?_) (fun q => absurd q (by decide))
      refine q_iload_n d195_37 rfl ?_
      refine q_bipush (x := nI 20) d195_38 rfl ?_
      refine nc_ge 53 d195_40 (by decide) (by decide) (by decide) (fun q => absurd q (by decide)) (fun _ => ?_)
      refine q_aload_n d195_43 rfl ?_
      refine q_getr (c := 8) (f := 11) d195_44 ⟨rfl, rfl⟩ (xk_136 hW.1) (xf_states hW.1) ?_
      refine q_iload_n d195_47 rfl ?_
      refine q_bipush (x := nI 10) d195_48 rfl ?_
      refine n_isub d195_50 (by omega) ?_
      refine n_iald d195_51 (xk_states hW.1) (by omega) (by decide) (hW.2.2.2.2.1 _ (by omega)).1.1 ?_
      refine q_iret d195_52 rfl ?_
      exact k
    · refine q_iload_n d195_0 rfl ?_
      refine q_bipush (x := nI 6) d195_1 rfl ?_
      refine nc_ge 13 d195_3 (by decide) (by decide) (by decide) (fun _ => ?_) (fun q => absurd q (by decide))
      refine q_iload_n d195_13 rfl ?_
      refine q_bipush (x := nI 8) d195_14 rfl ?_
      refine nc_ge 37 d195_16 (by decide) (by decide) (by decide) (fun _ => ?_) (fun q => absurd q (by decide))
      refine q_iload_n d195_37 rfl ?_
      refine q_bipush (x := nI 20) d195_38 rfl ?_
      refine nc_ge 53 d195_40 (by decide) (by decide) (by decide) (fun q => absurd q (by decide)) (fun _ => ?_)
      refine q_aload_n d195_43 rfl ?_
      refine q_getr (c := 8) (f := 11) d195_44 ⟨rfl, rfl⟩ (xk_136 hW.1) (xf_states hW.1) ?_
      refine q_iload_n d195_47 rfl ?_
      refine q_bipush (x := nI 10) d195_48 rfl ?_
      refine n_isub d195_50 (by omega) ?_
      refine n_iald d195_51 (xk_states hW.1) (by omega) (by decide) (hW.2.2.2.2.1 _ (by omega)).1.1 ?_
      refine q_iret d195_52 rfl ?_
      exact k
    · refine q_iload_n d195_0 rfl ?_
      refine q_bipush (x := nI 6) d195_1 rfl ?_
      refine nc_ge 13 d195_3 (by decide) (by decide) (by decide) (fun _ => ?_) (fun q => absurd q (by decide))
      refine q_iload_n d195_13 rfl ?_
      refine q_bipush (x := nI 8) d195_14 rfl ?_
      refine nc_ge 37 d195_16 (by decide) (by decide) (by decide) (fun _ => ?_) (fun q => absurd q (by decide))
      refine q_iload_n d195_37 rfl ?_
      refine q_bipush (x := nI 20) d195_38 rfl ?_
      refine nc_ge 53 d195_40 (by decide) (by decide) (by decide) (fun q => absurd q (by decide)) (fun _ => ?_)
      refine q_aload_n d195_43 rfl ?_
      refine q_getr (c := 8) (f := 11) d195_44 ⟨rfl, rfl⟩ (xk_136 hW.1) (xf_states hW.1) ?_
      refine q_iload_n d195_47 rfl ?_
      refine q_bipush (x := nI 10) d195_48 rfl ?_
      refine n_isub d195_50 (by omega) ?_
      refine n_iald d195_51 (xk_states hW.1) (by omega) (by decide) (hW.2.2.2.2.1 _ (by omega)).1.1 ?_
      refine q_iret d195_52 rfl ?_
      exact k
    · refine q_iload_n d195_0 rfl ?_
      refine q_bipush (x := nI 6) d195_1 rfl ?_
      refine nc_ge 13 d195_3 (by decide) (by decide) (by decide) (fun _ => ?_) (fun q => absurd q (by decide))
      refine q_iload_n d195_13 rfl ?_
      refine q_bipush (x := nI 8) d195_14 rfl ?_
      refine nc_ge 37 d195_16 (by decide) (by decide) (by decide) (fun _ => ?_) (fun q => absurd q (by decide))
      refine q_iload_n d195_37 rfl ?_
      refine q_bipush (x := nI 20) d195_38 rfl ?_
      refine nc_ge 53 d195_40 (by decide) (by decide) (by decide) (fun _ => ?_) (fun q => absurd q (by decide))
      refine q_aload_n d195_53 rfl ?_
      refine q_iload_n d195_54 rfl ?_
      refine q_bipush (x := nI 10) d195_55 rfl ?_
      refine n_irem d195_57 (by omega) (by omega) (by omega) ?_
      refine q_iload_n d195_58 rfl ?_
      refine q_bipush (x := nI 10) d195_59 rfl ?_
      refine n_idiv d195_61 (by omega) (by omega) (by omega) ?_
      refine q_iconstN (z := 1) d195_62 ?_
      refine n_isub d195_63 (by omega) ?_
      refine q_v2 d195_64 rfl rfl (xk_136 hW.1) (Nat.le_of_ble_eq_true rfl) (c179 (v := 1) hW.1 (by omega) (hW.2.2.2.2.1 0 (by omega)) ⟨hW.2.1, hW.2.2.1.1⟩ (hW.2.2.1.2.2 0 (by omega)) (by omega) ?_)
      refine q_iret d195_67 rfl ?_
      exact k
    · refine q_iload_n d195_0 rfl ?_
      refine q_bipush (x := nI 6) d195_1 rfl ?_
      refine nc_ge 13 d195_3 (by decide) (by decide) (by decide) (fun _ => ?_) (fun q => absurd q (by decide))
      refine q_iload_n d195_13 rfl ?_
      refine q_bipush (x := nI 8) d195_14 rfl ?_
      refine nc_ge 37 d195_16 (by decide) (by decide) (by decide) (fun _ => ?_) (fun q => absurd q (by decide))
      refine q_iload_n d195_37 rfl ?_
      refine q_bipush (x := nI 20) d195_38 rfl ?_
      refine nc_ge 53 d195_40 (by decide) (by decide) (by decide) (fun _ => ?_) (fun q => absurd q (by decide))
      refine q_aload_n d195_53 rfl ?_
      refine q_iload_n d195_54 rfl ?_
      refine q_bipush (x := nI 10) d195_55 rfl ?_
      refine n_irem d195_57 (by omega) (by omega) (by omega) ?_
      refine q_iload_n d195_58 rfl ?_
      refine q_bipush (x := nI 10) d195_59 rfl ?_
      refine n_idiv d195_61 (by omega) (by omega) (by omega) ?_
      refine q_iconstN (z := 1) d195_62 ?_
      refine n_isub d195_63 (by omega) ?_
      refine q_v2 d195_64 rfl rfl (xk_136 hW.1) (Nat.le_of_ble_eq_true rfl) (c179 (v := 1) hW.1 (by omega) (hW.2.2.2.2.1 1 (by omega)) ⟨hW.2.1, hW.2.2.1.1⟩ (hW.2.2.1.2.2 1 (by omega)) (by omega) ?_)
      refine q_iret d195_67 rfl ?_
      exact k
    · refine q_iload_n d195_0 rfl ?_
      refine q_bipush (x := nI 6) d195_1 rfl ?_
      refine nc_ge 13 d195_3 (by decide) (by decide) (by decide) (fun _ => ?_) (fun q => absurd q (by decide))
      refine q_iload_n d195_13 rfl ?_
      refine q_bipush (x := nI 8) d195_14 rfl ?_
      refine nc_ge 37 d195_16 (by decide) (by decide) (by decide) (fun _ => ?_) (fun q => absurd q (by decide))
      refine q_iload_n d195_37 rfl ?_
      refine q_bipush (x := nI 20) d195_38 rfl ?_
      refine nc_ge 53 d195_40 (by decide) (by decide) (by decide) (fun _ => ?_) (fun q => absurd q (by decide))
      refine q_aload_n d195_53 rfl ?_
      refine q_iload_n d195_54 rfl ?_
      refine q_bipush (x := nI 10) d195_55 rfl ?_
      refine n_irem d195_57 (by omega) (by omega) (by omega) ?_
      refine q_iload_n d195_58 rfl ?_
      refine q_bipush (x := nI 10) d195_59 rfl ?_
      refine n_idiv d195_61 (by omega) (by omega) (by omega) ?_
      refine q_iconstN (z := 1) d195_62 ?_
      refine n_isub d195_63 (by omega) ?_
      refine q_v2 d195_64 rfl rfl (xk_136 hW.1) (Nat.le_of_ble_eq_true rfl) (c179 (v := 1) hW.1 (by omega) (hW.2.2.2.2.1 2 (by omega)) ⟨hW.2.1, hW.2.2.1.1⟩ (hW.2.2.1.2.2 2 (by omega)) (by omega) ?_)
      refine q_iret d195_67 rfl ?_
      exact k
    · refine q_iload_n d195_0 rfl ?_
      refine q_bipush (x := nI 6) d195_1 rfl ?_
      refine nc_ge 13 d195_3 (by decide) (by decide) (by decide) (fun _ => ?_) (fun q => absurd q (by decide))
      refine q_iload_n d195_13 rfl ?_
      refine q_bipush (x := nI 8) d195_14 rfl ?_
      refine nc_ge 37 d195_16 (by decide) (by decide) (by decide) (fun _ => ?_) (fun q => absurd q (by decide))
      refine q_iload_n d195_37 rfl ?_
      refine q_bipush (x := nI 20) d195_38 rfl ?_
      refine nc_ge 53 d195_40 (by decide) (by decide) (by decide) (fun _ => ?_) (fun q => absurd q (by decide))
      refine q_aload_n d195_53 rfl ?_
      refine q_iload_n d195_54 rfl ?_
      refine q_bipush (x := nI 10) d195_55 rfl ?_
      refine n_irem d195_57 (by omega) (by omega) (by omega) ?_
      refine q_iload_n d195_58 rfl ?_
      refine q_bipush (x := nI 10) d195_59 rfl ?_
      refine n_idiv d195_61 (by omega) (by omega) (by omega) ?_
      refine q_iconstN (z := 1) d195_62 ?_
      refine n_isub d195_63 (by omega) ?_
      refine q_v2 d195_64 rfl rfl (xk_136 hW.1) (Nat.le_of_ble_eq_true rfl) (c179 (v := 2) hW.1 (by omega) (hW.2.2.2.2.1 0 (by omega)) ⟨hW.2.1, hW.2.2.1.1⟩ (hW.2.2.1.2.2 0 (by omega)) (by omega) ?_)
      refine q_iret d195_67 rfl ?_
      exact k
    · refine q_iload_n d195_0 rfl ?_
      refine q_bipush (x := nI 6) d195_1 rfl ?_
      refine nc_ge 13 d195_3 (by decide) (by decide) (by decide) (fun _ => ?_) (fun q => absurd q (by decide))
      refine q_iload_n d195_13 rfl ?_
      refine q_bipush (x := nI 8) d195_14 rfl ?_
      refine nc_ge 37 d195_16 (by decide) (by decide) (by decide) (fun _ => ?_) (fun q => absurd q (by decide))
      refine q_iload_n d195_37 rfl ?_
      refine q_bipush (x := nI 20) d195_38 rfl ?_
      refine nc_ge 53 d195_40 (by decide) (by decide) (by decide) (fun _ => ?_) (fun q => absurd q (by decide))
      refine q_aload_n d195_53 rfl ?_
      refine q_iload_n d195_54 rfl ?_
      refine q_bipush (x := nI 10) d195_55 rfl ?_
      refine n_irem d195_57 (by omega) (by omega) (by omega) ?_
      refine q_iload_n d195_58 rfl ?_
      refine q_bipush (x := nI 10) d195_59 rfl ?_
      refine n_idiv d195_61 (by omega) (by omega) (by omega) ?_
      refine q_iconstN (z := 1) d195_62 ?_
      refine n_isub d195_63 (by omega) ?_
      refine q_v2 d195_64 rfl rfl (xk_136 hW.1) (Nat.le_of_ble_eq_true rfl) (c179 (v := 2) hW.1 (by omega) (hW.2.2.2.2.1 1 (by omega)) ⟨hW.2.1, hW.2.2.1.1⟩ (hW.2.2.1.2.2 1 (by omega)) (by omega) ?_)
      refine q_iret d195_67 rfl ?_
      exact k
    · refine q_iload_n d195_0 rfl ?_
      refine q_bipush (x := nI 6) d195_1 rfl ?_
      refine nc_ge 13 d195_3 (by decide) (by decide) (by decide) (fun _ => ?_) (fun q => absurd q (by decide))
      refine q_iload_n d195_13 rfl ?_
      refine q_bipush (x := nI 8) d195_14 rfl ?_
      refine nc_ge 37 d195_16 (by decide) (by decide) (by decide) (fun _ => ?_) (fun q => absurd q (by decide))
      refine q_iload_n d195_37 rfl ?_
      refine q_bipush (x := nI 20) d195_38 rfl ?_
      refine nc_ge 53 d195_40 (by decide) (by decide) (by decide) (fun _ => ?_) (fun q => absurd q (by decide))
      refine q_aload_n d195_53 rfl ?_
      refine q_iload_n d195_54 rfl ?_
      refine q_bipush (x := nI 10) d195_55 rfl ?_
      refine n_irem d195_57 (by omega) (by omega) (by omega) ?_
      refine q_iload_n d195_58 rfl ?_
      refine q_bipush (x := nI 10) d195_59 rfl ?_
      refine n_idiv d195_61 (by omega) (by omega) (by omega) ?_
      refine q_iconstN (z := 1) d195_62 ?_
      refine n_isub d195_63 (by omega) ?_
      refine q_v2 d195_64 rfl rfl (xk_136 hW.1) (Nat.le_of_ble_eq_true rfl) (c179 (v := 2) hW.1 (by omega) (hW.2.2.2.2.1 2 (by omega)) ⟨hW.2.1, hW.2.2.1.1⟩ (hW.2.2.1.2.2 2 (by omega)) (by omega) ?_)
      refine q_iret d195_67 rfl ?_
      exact k
    · refine q_iload_n d195_0 rfl ?_
      refine q_bipush (x := nI 6) d195_1 rfl ?_
      refine nc_ge 13 d195_3 (by decide) (by decide) (by decide) (fun _ => ?_) (fun q => absurd q (by decide))
      refine q_iload_n d195_13 rfl ?_
      refine q_bipush (x := nI 8) d195_14 rfl ?_
      refine nc_ge 37 d195_16 (by decide) (by decide) (by decide) (fun _ => ?_) (fun q => absurd q (by decide))
      refine q_iload_n d195_37 rfl ?_
      refine q_bipush (x := nI 20) d195_38 rfl ?_
      refine nc_ge 53 d195_40 (by decide) (by decide) (by decide) (fun _ => ?_) (fun q => absurd q (by decide))
      refine q_aload_n d195_53 rfl ?_
      refine q_iload_n d195_54 rfl ?_
      refine q_bipush (x := nI 10) d195_55 rfl ?_
      refine n_irem d195_57 (by omega) (by omega) (by omega) ?_
      refine q_iload_n d195_58 rfl ?_
      refine q_bipush (x := nI 10) d195_59 rfl ?_
      refine n_idiv d195_61 (by omega) (by omega) (by omega) ?_
      refine q_iconstN (z := 1) d195_62 ?_
      refine n_isub d195_63 (by omega) ?_
      refine q_v2 d195_64 rfl rfl (xk_136 hW.1) (Nat.le_of_ble_eq_true rfl) (c179 (v := 3) hW.1 (by omega) (hW.2.2.2.2.1 0 (by omega)) ⟨hW.2.1, hW.2.2.1.1⟩ (hW.2.2.1.2.2 0 (by omega)) (by omega) ?_)
      refine q_iret d195_67 rfl ?_
      exact k
    · refine q_iload_n d195_0 rfl ?_
      refine q_bipush (x := nI 6) d195_1 rfl ?_
      refine nc_ge 13 d195_3 (by decide) (by decide) (by decide) (fun _ => ?_) (fun q => absurd q (by decide))
      refine q_iload_n d195_13 rfl ?_
      refine q_bipush (x := nI 8) d195_14 rfl ?_
      refine nc_ge 37 d195_16 (by decide) (by decide) (by decide) (fun _ => ?_) (fun q => absurd q (by decide))
      refine q_iload_n d195_37 rfl ?_
      refine q_bipush (x := nI 20) d195_38 rfl ?_
      refine nc_ge 53 d195_40 (by decide) (by decide) (by decide) (fun _ => ?_) (fun q => absurd q (by decide))
      refine q_aload_n d195_53 rfl ?_
      refine q_iload_n d195_54 rfl ?_
      refine q_bipush (x := nI 10) d195_55 rfl ?_
      refine n_irem d195_57 (by omega) (by omega) (by omega) ?_
      refine q_iload_n d195_58 rfl ?_
      refine q_bipush (x := nI 10) d195_59 rfl ?_
      refine n_idiv d195_61 (by omega) (by omega) (by omega) ?_
      refine q_iconstN (z := 1) d195_62 ?_
      refine n_isub d195_63 (by omega) ?_
      refine q_v2 d195_64 rfl rfl (xk_136 hW.1) (Nat.le_of_ble_eq_true rfl) (c179 (v := 3) hW.1 (by omega) (hW.2.2.2.2.1 1 (by omega)) ⟨hW.2.1, hW.2.2.1.1⟩ (hW.2.2.1.2.2 1 (by omega)) (by omega) ?_)
      refine q_iret d195_67 rfl ?_
      exact k
    · refine q_iload_n d195_0 rfl ?_
      refine q_bipush (x := nI 6) d195_1 rfl ?_
      refine nc_ge 13 d195_3 (by decide) (by decide) (by decide) (fun _ => ?_) (fun q => absurd q (by decide))
      refine q_iload_n d195_13 rfl ?_
      refine q_bipush (x := nI 8) d195_14 rfl ?_
      refine nc_ge 37 d195_16 (by decide) (by decide) (by decide) (fun _ => ?_) (fun q => absurd q (by decide))
      refine q_iload_n d195_37 rfl ?_
      refine q_bipush (x := nI 20) d195_38 rfl ?_
      refine nc_ge 53 d195_40 (by decide) (by decide) (by decide) (fun _ => ?_) (fun q => absurd q (by decide))
      refine q_aload_n d195_53 rfl ?_
      refine q_iload_n d195_54 rfl ?_
      refine q_bipush (x := nI 10) d195_55 rfl ?_
      refine n_irem d195_57 (by omega) (by omega) (by omega) ?_
      refine q_iload_n d195_58 rfl ?_
      refine q_bipush (x := nI 10) d195_59 rfl ?_
      refine n_idiv d195_61 (by omega) (by omega) (by omega) ?_
      refine q_iconstN (z := 1) d195_62 ?_
      refine n_isub d195_63 (by omega) ?_
      refine q_v2 d195_64 rfl rfl (xk_136 hW.1) (Nat.le_of_ble_eq_true rfl) (c179 (v := 3) hW.1 (by omega) (hW.2.2.2.2.1 2 (by omega)) ⟨hW.2.1, hW.2.2.1.1⟩ (hW.2.2.1.2.2 2 (by omega)) (by omega) ?_)
      refine q_iret d195_67 rfl ?_
      exact k
/-- what thoughts write -/
def FZ : Nat → Nat → Prop := fun b k => (b = 136 ∧ (k = 9 ∨ k = 10 ∨ (19 < k ∧ k < 26))) ∨ (173 < b ∧ b < 208) ∨ (208 < b ∧ b ≠ 319 ∧ b ≠ 320)
theorem FZ_Y {b k : Nat} (h : FZ b k) : FY b k := by unfold FZ at h; unfold FY; omega
theorem FX_Z {b k : Nat} (h : FX b k) : FZ b k := by unfold FX at h; unfold FZ; omega
theorem FB_Z {b k : Nat} (h : FB b k) : FZ b k := by unfold FB at h; unfold FZ; omega
theorem FA_Z {b k l : Nat} (hl : l < 4) (h : FA l b k) : FZ b k := by unfold FA at h; unfold FZ; omega
theorem XSa.kb {M M' : zM} {s κ : Nat} {S : yS} (h : XSa M s S κ) (hs : s < 3) (hg : ∀ i, i ∈ go S → i < 12) (hK : KB M M') : XSa M' s S κ := by
  obtain ⟨⟨h1, h2⟩, h3, h4, w, h5, h6⟩ := h
  refine ⟨⟨(hK.1.2.2.2.2.1 s hs).trans h1, (hK.1.2.2.2.2.2 s hs).trans h2⟩, fun k hk => ⟨(hK.2 0 s (by decide) hs k hk).trans (h3 k hk).1, (hK.2 3 s (by decide) hs k hk).trans (h3 k hk).2.1, (hK.2 4 s (by decide) hs k hk).trans (h3 k hk).2.2.1, (hK.2 5 s (by decide) hs k hk).trans (h3 k hk).2.2.2.1, (hK.2 6 s (by decide) hs k hk).trans (h3 k hk).2.2.2.2⟩, fun k hk q => (hK.2 2 s (by decide) hs k hk).trans (h4 k hk q), w, fun i hi => ⟨(hK.2 1 s (by decide) hs i (hg i hi)).trans (h5 i hi).1, (h5 i hi).2⟩, h6⟩
theorem OKS_m12 {T : Nat → yT} {c : Nat} {S : yS} (hT : ∀ i, i < c → OKT (T i)) (h : OKS T c S) : ∀ i, i ∈ go S → i < 12 := by
  intro i hi
  have h1 := (h.2.2.2.1 i).mp hi
  have h2 : i < gz T S := Nat.lt_of_not_le (fun q => by have := h.2.2.2.2.1 i q; omega)
  unfold gz at h2
  by_cases h0 : gt S = 0
  · rw [if_pos h0] at h2; omega
  · rw [if_neg h0] at h2
    have := (hT _ (h.2.1 h0)).n
    omega
/-- the desk is as it was -/
theorem RX.back {M M' : zM} {D : yD} {κ : Nat} (h : RX M D κ) (f : Fi FZ M M') (hK : KB M M') (h21 : zi M' 136 21 = -1) (hL : XLo [] M' (some (dL D))) : RX M' D κ := by
  obtain ⟨h1, h2, h3, ⟨h4, h5, h6⟩, h7⟩ := h
  have hO := h1.2.2.1
  refine ⟨⟨SX_fi h1.1 f, XTx_fi h1.2.1 hO.1.1 f (fun b k b1 b2 q => by unfold FZ at q; omega), hO, ⟨fun k hk => (hK.1.1 k hk).trans (h1.2.2.2.1.1 k hk), hK.1.2.1.trans h1.2.2.2.1.2.1, hK.1.2.2.1.trans h1.2.2.2.1.2.2⟩, fun s hs => (h1.2.2.2.2.1 s hs).kb hs (OKS_m12 hO.1.2 (hO.2.2 s hs)) hK, hK.1.2.2.2.1.trans h1.2.2.2.2.2.1, hL, ⟨none, h21, fun s hs h0 k hk => rfl⟩⟩, h21, (f.1 _ _ (by unfold FZ; omega)).trans h3, ⟨h4, (f.1 _ _ (by unfold FZ; omega)).trans h5, fun k hk => (f.1 _ _ (by unfold FZ; omega)).trans (h6 k hk)⟩, fun i hi => ⟨(f.1 _ _ (by unfold FZ; omega)).trans (h7 i hi).1, (f.1 _ _ (by unfold FZ; omega)).trans (h7 i hi).2⟩⟩
theorem c131g {d b : Nat} {M : zM} {Q : Option Value → zM → Prop} {x : Int32} (h : zix x (b + 1) = none) (hb : b + 1 < 2147483648) (k : Q (some (.int (nI 0))) M) : qC (d + 1) 131 [.int x, .int (nI 0), .int (nI b)] M Q :=
  c131f (by omega) (fun q => by have := zix_none h; omega) (by decide) k
theorem d191_0 : decode (zB 191) 0 = .ok (.iload_n 1, 1) := by decide +kernel
theorem d191_1 : decode (zB 191) 1 = .ok (.iconst 0, 1) := by decide +kernel
theorem d191_2 : decode (zB 191) 2 = .ok (.aload_n 0, 1) := by decide +kernel
theorem d191_3 : decode (zB 191) 3 = .ok (.getfield 301, 3) := by decide +kernel
theorem d191_6 : decode (zB 191) 6 = .ok (.invokestatic 112, 3) := by decide +kernel
theorem d191_9 : decode (zB 191) 9 = .ok (.ifCond .eq 10, 3) := by decide +kernel
theorem d191_12 : decode (zB 191) 12 = .ok (.iload_n 2, 1) := by decide +kernel
theorem d191_13 : decode (zB 191) 13 = .ok (.invokestatic 363, 3) := by decide +kernel
theorem d191_16 : decode (zB 191) 16 = .ok (.ifCond .ne 6, 3) := by decide +kernel
theorem d191_19 : decode (zB 191) 19 = .ok (.bipush (-2), 2) := by decide +kernel
theorem d191_21 : decode (zB 191) 21 = .ok (.ireturn, 1) := by decide +kernel
theorem d191_22 : decode (zB 191) 22 = .ok (.aload_n 0, 1) := by decide +kernel
theorem d191_23 : decode (zB 191) 23 = .ok (.iconst 0, 1) := by decide +kernel
theorem d191_24 : decode (zB 191) 24 = .ok (.invokevirtual 225, 3) := by decide +kernel
theorem d191_27 : decode (zB 191) 27 = .ok (.aload_n 0, 1) := by decide +kernel
theorem d191_28 : decode (zB 191) 28 = .ok (.iload_n 1, 1) := by decide +kernel
theorem d191_29 : decode (zB 191) 29 = .ok (.invokevirtual 366, 3) := by decide +kernel
theorem d191_32 : decode (zB 191) 32 = .ok (.aload_n 0, 1) := by decide +kernel
theorem d191_33 : decode (zB 191) 33 = .ok (.iload_n 2, 1) := by decide +kernel
theorem d191_34 : decode (zB 191) 34 = .ok (.invokevirtual 369, 3) := by decide +kernel
theorem d191_37 : decode (zB 191) 37 = .ok (.istore_n 3, 1) := by decide +kernel
theorem d191_38 : decode (zB 191) 38 = .ok (.aload_n 0, 1) := by decide +kernel
theorem d191_39 : decode (zB 191) 39 = .ok (.iconst 0, 1) := by decide +kernel
theorem d191_40 : decode (zB 191) 40 = .ok (.invokevirtual 233, 3) := by decide +kernel
theorem d191_43 : decode (zB 191) 43 = .ok (.iload_n 3, 1) := by decide +kernel
theorem d191_44 : decode (zB 191) 44 = .ok (.ireturn, 1) := by decide +kernel
theorem x191 {d : Nat} {M : zM} {Q : Option Value → zM → Prop} {D : yD} {κ : Nat} {x y : Int32} (hR : RX M D κ) (hD : OKD D) (hκ : κ + 4000 < 2147483648) (k : ∀ M', RX M' D κ → Fi FY M M' → Q (some (.int (sReplay D x y))) M') : qC (d + 6) 191 [.ref 136, .int x, .int y] M Q := by
  refine qC_of (by decide) (Nat.le_of_ble_eq_true rfl) ?_
  have hC := hR.1
  have hX := hC.1
  have hO : OKW (dT D) (dc D) (dW D) := hC.2.2.1
  have hc6 := hO.1.1
  have hL : XLo [] M (some (dL D)) := hC.2.2.2.2.2.2.1
  have hSa : ∀ s, s < 3 → XSa M s (dS D s) κ := hC.2.2.2.2.1
  have hTk := hC.k
  have hck := hC.2.2.2.2.2.1
  have h240 := hD.2.1
  unfold sReplay at k
  rcases zix_c x (n := (dL D).length + 1) (by omega) with ⟨n, hn, rfl, en⟩ | ⟨en, nn⟩
  · rw [oz_s en] at k
    cases hv : yvx y with
    | none =>
      rw [ov_n hv] at k
      refine q_iload_n d191_0 rfl ?_
      refine q_iconstN (z := 0) d191_1 ?_
      refine q_aload_n d191_2 rfl ?_
      refine q_getv (c := 8) (f := 24) d191_3 ⟨rfl, by decide⟩ (xk_136 hX) hL.2.1 ?_
      refine q_s3 d191_6 (Or.inl rfl) rfl (Nat.le_of_ble_eq_true rfl) (c131t ⟨by omega, by omega⟩ (by omega) ?_)
      refine n0_eq 19 d191_9 (by decide) (by decide) (fun q => absurd q (by decide)) (fun _ => ?_)
      refine q_iload_n d191_12 rfl ?_
      refine q_s1 d191_13 (Or.inl rfl) rfl (Nat.le_of_ble_eq_true rfl) (c192f hv ?_)
      refine n0_ne 22 d191_16 (by decide) (by decide) (fun q => absurd q (by decide)) (fun _ => ?_)
      refine q_bipush (x := (-2)) d191_19 rfl ?_
      refine q_iret d191_21 rfl ?_
      exact k _ hR (Fi.refl _ _)
    | some m =>
      rw [ov_s hv] at k
      obtain ⟨rfl, hm, h50⟩ := yvx_s hv
      refine q_iload_n d191_0 rfl ?_
      refine q_iconstN (z := 0) d191_1 ?_
      refine q_aload_n d191_2 rfl ?_
      refine q_getv (c := 8) (f := 24) d191_3 ⟨rfl, by decide⟩ (xk_136 hX) hL.2.1 ?_
      refine q_s3 d191_6 (Or.inl rfl) rfl (Nat.le_of_ble_eq_true rfl) (c131t ⟨by omega, by omega⟩ (by omega) ?_)
      refine n0_eq 19 d191_9 (by decide) (by decide) (fun q => absurd q (by decide)) (fun _ => ?_)
      refine q_iload_n d191_12 rfl ?_
      refine q_s1 d191_13 (Or.inl rfl) rfl (Nat.le_of_ble_eq_true rfl) (c192t hv ?_)
      refine n0_ne 22 d191_16 (by decide) (by decide) (fun _ => ?_) (fun q => absurd q (by decide))
      refine q_aload_n d191_22 rfl ?_
      refine q_iconstN (z := 0) d191_23 ?_
      refine q_v1 d191_24 rfl rfl (xk_136 hX) (Nat.le_of_ble_eq_true rfl) (c155 (l := 0) hX (by decide) (fun M1 hK f1 => ?_))
      have hX1 := SX_fi hX f1
      have hL1 : XLg M1 (dL D) := ⟨(f1.1 _ _ (by unfold FA; omega)).trans hL.2.1, fun q hq => ⟨(f1.1 _ _ (by unfold FA; omega)).trans (hL.2.2 q hq).1, (f1.1 _ _ (by unfold FA; omega)).trans (hL.2.2 q hq).2.1, (f1.1 _ _ (by unfold FA; omega)).trans (hL.2.2 q hq).2.2⟩⟩
      have hT1 := XTx_fi hTk.1 hc6 f1 (fun b k b1 b2 q => by unfold FA at q; omega)
      refine q_aload_n d191_27 rfl ?_
      refine q_iload_n d191_28 rfl ?_
      refine q_v1 d191_29 rfl rfl (xk_136 hX1) (Nat.le_of_ble_eq_true rfl) (c193 (κ := κ) (L := dL D) hX1 hT1 hO.1 hL1 (by omega) h240 hD.2.2.1 ((f1.1 _ _ (by unfold FA; omega)).trans hck) (by omega) (fun M2 κ2 hk2 hW2 f2 => ?_))
      have hX2 := SX_fi hX1 f2
      have hK2 := hK.fi f2 (fun b k q1 q2 => by unfold FA at q1; unfold FB at q2; omega)
      refine q_aload_n d191_32 rfl ?_
      refine q_iload_n d191_33 rfl ?_
      refine q_v1 d191_34 rfl rfl (xk_136 hX2) (Nat.le_of_ble_eq_true rfl) (c195 hW2 hm h50 ?_)
      refine q_istore_n d191_37 (by decide) rfl ?_
      refine q_aload_n d191_38 rfl ?_
      refine q_iconstN (z := 0) d191_39 ?_
      refine q_v1 d191_40 rfl rfl (xk_136 hX2) (Nat.le_of_ble_eq_true rfl) (c162 (l := 0) hX2 (by decide) hK2 (fun M3 hK3 f3 => ?_))
      refine q_iload_n d191_43 rfl ?_
      refine q_iret d191_44 rfl ?_
      have fz : Fi FZ M M3 := (f1.mono (fun b k q => FA_Z (by decide) q)).trans ((f2.mono (fun b k q => FB_Z q)).trans (f3.mono (fun b k q => FB_Z q)))
      exact k _ (hR.back fz hK3 ((f3.1 _ _ (by unfold FB; omega)).trans ((f2.1 _ _ (by unfold FB; omega)).trans ((f1.1 _ _ (by unfold FA; omega)).trans hR.2.1))) ⟨(f3.1 _ _ (by unfold FB; omega)).trans ((f2.1 _ _ (by unfold FB; omega)).trans ((f1.1 _ _ (by unfold FA; omega)).trans hL.1)), XLg_fb (XLg_fb hL1 f2) f3⟩) (fz.mono (fun b k q => FZ_Y q))
  · rw [oz_n en] at k
    refine q_iload_n d191_0 rfl ?_
    refine q_iconstN (z := 0) d191_1 ?_
    refine q_aload_n d191_2 rfl ?_
    refine q_getv (c := 8) (f := 24) d191_3 ⟨rfl, by decide⟩ (xk_136 hX) hL.2.1 ?_
    refine q_s3 d191_6 (Or.inl rfl) rfl (Nat.le_of_ble_eq_true rfl) (c131g en (by omega) ?_)
    refine n0_eq 19 d191_9 (by decide) (by decide) (fun _ => ?_) (fun q => absurd q (by decide))
    refine q_bipush (x := (-2)) d191_19 rfl ?_
    refine q_iret d191_21 rfl ?_
    exact k _ hR (Fi.refl _ _)
