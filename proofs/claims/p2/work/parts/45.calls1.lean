/-! ===== the calls of the class: texts, counts ===== -/
theorem d33_0 : decode (zB 33) 0 = .ok (.iload_n 1, 1) := by decide +kernel
theorem d33_1 : decode (zB 33) 1 = .ok (.iconst 0, 1) := by decide +kernel
theorem d33_2 : decode (zB 33) 2 = .ok (.aload_n 0, 1) := by decide +kernel
theorem d33_3 : decode (zB 33) 3 = .ok (.getfield 70, 3) := by decide +kernel
theorem d33_6 : decode (zB 33) 6 = .ok (.iconst 1, 1) := by decide +kernel
theorem d33_7 : decode (zB 33) 7 = .ok (.isub, 1) := by decide +kernel
theorem d33_8 : decode (zB 33) 8 = .ok (.invokestatic 55, 3) := by decide +kernel
theorem d33_11 : decode (zB 33) 11 = .ok (.ireturn, 1) := by decide +kernel
theorem c33 {d : Nat} {M : zM} {Q : Option Value → zM → Prop} {D : yD} {x : Int32} (hR : RC M D) (k : Q (some (.int (bI (zix x (dc D)).isSome))) M) : qC (d + 2) 33 [.ref 16, .int x] M Q := by
  have hc6 := hR.1.2.2.2.1.1.1
  refine qC_of (by decide) (Nat.le_of_ble_eq_true rfl) ?_
  refine q_iload_n d33_0 rfl ?_
  refine q_iconstN (z := 0) d33_1 ?_
  refine q_aload_n d33_2 rfl ?_
  refine q_getv (c := 7) (f := 2) d33_3 ⟨rfl, by decide⟩ hR.1.1.1.1 hR.2.1 ?_
  refine q_iconstN (z := 1) d33_6 ?_
  refine q_isub d33_7 ?_
  refine q_s3 d33_8 (Or.inl rfl) rfl (Nat.le_of_ble_eq_true rfl) (c10s (by omega) ?_)
  refine b_ret d33_11 rfl ?_
  exact k
theorem c33t {d t : Nat} {M : zM} {Q : Option Value → zM → Prop} {D : yD} (hR : RC M D) (h : t < dc D) (k : Q (some (.int (nI 1))) M) : qC (d + 2) 33 [.ref 16, .int (nI t)] M Q := c33 hR (by rw [zix_in h (by have := hR.1.2.2.2.1.1.1; omega)]; exact k)
theorem c33f {d : Nat} {M : zM} {Q : Option Value → zM → Prop} {D : yD} {x : Int32} (hR : RC M D) (h : zix x (dc D) = none) (k : Q (some (.int (nI 0))) M) : qC (d + 2) 33 [.ref 16, .int x] M Q := c33 hR (by rw [h]; exact k)
theorem d58_0 : decode (zB 58) 0 = .ok (.iload_n 0, 1) := by decide +kernel
theorem d58_1 : decode (zB 58) 1 = .ok (.istore_n 2, 1) := by decide +kernel
theorem d58_2 : decode (zB 58) 2 = .ok (.iconst 0, 1) := by decide +kernel
theorem d58_3 : decode (zB 58) 3 = .ok (.istore_n 3, 1) := by decide +kernel
theorem d58_4 : decode (zB 58) 4 = .ok (.iload_n 3, 1) := by decide +kernel
theorem d58_5 : decode (zB 58) 5 = .ok (.bipush 6, 2) := by decide +kernel
theorem d58_7 : decode (zB 58) 7 = .ok (.if_icmp .ge 31, 3) := by decide +kernel
theorem d58_10 : decode (zB 58) 10 = .ok (.iload_n 2, 1) := by decide +kernel
theorem d58_11 : decode (zB 58) 11 = .ok (.iconst 0, 1) := by decide +kernel
theorem d58_12 : decode (zB 58) 12 = .ok (.iconst 5, 1) := by decide +kernel
theorem d58_13 : decode (zB 58) 13 = .ok (.invokestatic 55, 3) := by decide +kernel
theorem d58_16 : decode (zB 58) 16 = .ok (.ifCond .eq 22, 3) := by decide +kernel
theorem d58_19 : decode (zB 58) 19 = .ok (.iload_n 2, 1) := by decide +kernel
theorem d58_20 : decode (zB 58) 20 = .ok (.iload_n 1, 1) := by decide +kernel
theorem d58_21 : decode (zB 58) 21 = .ok (.if_icmp .ne 5, 3) := by decide +kernel
theorem d58_24 : decode (zB 58) 24 = .ok (.iconst 1, 1) := by decide +kernel
theorem d58_25 : decode (zB 58) 25 = .ok (.ireturn, 1) := by decide +kernel
theorem d58_26 : decode (zB 58) 26 = .ok (.getstatic 300, 3) := by decide +kernel
theorem d58_29 : decode (zB 58) 29 = .ok (.iload_n 2, 1) := by decide +kernel
theorem d58_30 : decode (zB 58) 30 = .ok (.iaload, 1) := by decide +kernel
theorem d58_31 : decode (zB 58) 31 = .ok (.istore_n 2, 1) := by decide +kernel
theorem d58_32 : decode (zB 58) 32 = .ok (.iinc 3 1, 3) := by decide +kernel
theorem d58_35 : decode (zB 58) 35 = .ok (.goto (-31), 3) := by decide +kernel
theorem d58_38 : decode (zB 58) 38 = .ok (.iconst 0, 1) := by decide +kernel
theorem d58_39 : decode (zB 58) 39 = .ok (.ireturn, 1) := by decide +kernel
theorem c58 {d : Nat} {M : zM} {Q : Option Value → zM → Prop} {kd j : Nat} (hS : SC M) (hk : kd < 6) (hj : j < 6) (k : Q (some (.int (bI (yundr kd j)))) M) : qC (d + 2) 58 [.int (nI kd), .int (nI j)] M Q := by
  have hst := hS.st
  refine qC_of (by decide) (Nat.le_of_ble_eq_true rfl) ?_
  rcases (show kd = 0 ∨ kd = 1 ∨ kd = 2 ∨ kd = 3 ∨ kd = 4 ∨ kd = 5 by omega) with rfl | rfl | rfl | rfl | rfl | rfl
  · refine q_iload_n d58_0 rfl ?_
    refine q_istore_n d58_1 (by decide) rfl ?_
    refine q_iconstN (z := 0) d58_2 ?_
    refine q_istore_n d58_3 (by decide) rfl ?_
    refine q_iload_n d58_4 rfl ?_
    refine q_bipush (x := nI 6) d58_5 rfl ?_
    refine nc_ge 38 d58_7 (by decide) (by decide) (by decide) (fun q => absurd q (by decide)) (fun _ => ?_)
    refine q_iload_n d58_10 rfl ?_
    refine q_iconstN (z := 0) d58_11 ?_
    refine q_iconstN (z := 5) d58_12 ?_
    refine q_s3 d58_13 (Or.inl rfl) rfl (Nat.le_of_ble_eq_true rfl) (c10t ⟨by decide, by decide⟩ (by decide) ?_)
    refine n0_eq 38 d58_16 (by decide) (by decide) (fun q => absurd q (by decide)) (fun _ => ?_)
    refine q_iload_n d58_19 rfl ?_
    refine q_iload_n d58_20 rfl ?_
    refine nc_ne 26 d58_21 (by decide) (by omega) (by omega) (fun h21 => ?_) (fun h21 => ?_)
    · refine q_getst d58_26 rfl ?_
      refine q_iload_n d58_29 rfl ?_
      refine n_ialds d58_30 ⟨by decide, hst.1⟩ (by omega) (by decide) ((hst.2.2.1 0).trans (by decide : zUn 0 = -1)) ?_
      refine q_istore_n d58_31 (by decide) rfl ?_
      refine n_iinc 1 d58_32 (by decide) rfl rfl ?_
      refine q_goto 4 d58_35 (by decide) ?_
      refine q_iload_n d58_4 rfl ?_
      refine q_bipush (x := nI 6) d58_5 rfl ?_
      refine nc_ge 38 d58_7 (by decide) (by decide) (by decide) (fun q => absurd q (by decide)) (fun _ => ?_)
      refine q_iload_n d58_10 rfl ?_
      refine q_iconstN (z := 0) d58_11 ?_
      refine q_iconstN (z := 5) d58_12 ?_
      refine q_s3 d58_13 (Or.inl rfl) rfl (Nat.le_of_ble_eq_true rfl) (c10f (by decide) (by decide) (by decide) ?_)
      refine n0_eq 38 d58_16 (by decide) (by decide) (fun _ => ?_) (fun q => absurd q (by decide))
      refine q_iconstN (z := 0) d58_38 ?_
      refine q_zret d58_39 rfl (by decide) ?_
      exact bK0 k (by unfold yundr; simp; omega)
    · refine q_iconstN (z := 1) d58_24 ?_
      refine q_zret d58_25 rfl (by decide) ?_
      exact bK1 k (by unfold yundr; simp; omega)
  · refine q_iload_n d58_0 rfl ?_
    refine q_istore_n d58_1 (by decide) rfl ?_
    refine q_iconstN (z := 0) d58_2 ?_
    refine q_istore_n d58_3 (by decide) rfl ?_
    refine q_iload_n d58_4 rfl ?_
    refine q_bipush (x := nI 6) d58_5 rfl ?_
    refine nc_ge 38 d58_7 (by decide) (by decide) (by decide) (fun q => absurd q (by decide)) (fun _ => ?_)
    refine q_iload_n d58_10 rfl ?_
    refine q_iconstN (z := 0) d58_11 ?_
    refine q_iconstN (z := 5) d58_12 ?_
    refine q_s3 d58_13 (Or.inl rfl) rfl (Nat.le_of_ble_eq_true rfl) (c10t ⟨by decide, by decide⟩ (by decide) ?_)
    refine n0_eq 38 d58_16 (by decide) (by decide) (fun q => absurd q (by decide)) (fun _ => ?_)
    refine q_iload_n d58_19 rfl ?_
    refine q_iload_n d58_20 rfl ?_
    refine nc_ne 26 d58_21 (by decide) (by omega) (by omega) (fun h21 => ?_) (fun h21 => ?_)
    · refine q_getst d58_26 rfl ?_
      refine q_iload_n d58_29 rfl ?_
      refine n_ialds d58_30 ⟨by decide, hst.1⟩ (by omega) (by decide) ((hst.2.2.1 1).trans (by decide : zUn 1 = nI 0)) ?_
      refine q_istore_n d58_31 (by decide) rfl ?_
      refine n_iinc 1 d58_32 (by decide) rfl rfl ?_
      refine q_goto 4 d58_35 (by decide) ?_
      refine q_iload_n d58_4 rfl ?_
      refine q_bipush (x := nI 6) d58_5 rfl ?_
      refine nc_ge 38 d58_7 (by decide) (by decide) (by decide) (fun q => absurd q (by decide)) (fun _ => ?_)
      refine q_iload_n d58_10 rfl ?_
      refine q_iconstN (z := 0) d58_11 ?_
      refine q_iconstN (z := 5) d58_12 ?_
      refine q_s3 d58_13 (Or.inl rfl) rfl (Nat.le_of_ble_eq_true rfl) (c10t ⟨by decide, by decide⟩ (by decide) ?_)
      refine n0_eq 38 d58_16 (by decide) (by decide) (fun q => absurd q (by decide)) (fun _ => ?_)
      refine q_iload_n d58_19 rfl ?_
      refine q_iload_n d58_20 rfl ?_
      refine nc_ne 26 d58_21 (by decide) (by omega) (by omega) (fun h21 => ?_) (fun h21 => ?_)
      · refine q_getst d58_26 rfl ?_
        refine q_iload_n d58_29 rfl ?_
        refine n_ialds d58_30 ⟨by decide, hst.1⟩ (by omega) (by decide) ((hst.2.2.1 0).trans (by decide : zUn 0 = -1)) ?_
        refine q_istore_n d58_31 (by decide) rfl ?_
        refine n_iinc 1 d58_32 (by decide) rfl rfl ?_
        refine q_goto 4 d58_35 (by decide) ?_
        refine q_iload_n d58_4 rfl ?_
        refine q_bipush (x := nI 6) d58_5 rfl ?_
        refine nc_ge 38 d58_7 (by decide) (by decide) (by decide) (fun q => absurd q (by decide)) (fun _ => ?_)
        refine q_iload_n d58_10 rfl ?_
        refine q_iconstN (z := 0) d58_11 ?_
        refine q_iconstN (z := 5) d58_12 ?_
        refine q_s3 d58_13 (Or.inl rfl) rfl (Nat.le_of_ble_eq_true rfl) (c10f (by decide) (by decide) (by decide) ?_)
        refine n0_eq 38 d58_16 (by decide) (by decide) (fun _ => ?_) (fun q => absurd q (by decide))
        refine q_iconstN (z := 0) d58_38 ?_
        refine q_zret d58_39 rfl (by decide) ?_
        exact bK0 k (by unfold yundr; simp; omega)
      · refine q_iconstN (z := 1) d58_24 ?_
        refine q_zret d58_25 rfl (by decide) ?_
        exact bK1 k (by unfold yundr; simp; omega)
    · refine q_iconstN (z := 1) d58_24 ?_
      refine q_zret d58_25 rfl (by decide) ?_
      exact bK1 k (by unfold yundr; simp; omega)
  · refine q_iload_n d58_0 rfl ?_
    refine q_istore_n d58_1 (by decide) rfl ?_
    refine q_iconstN (z := 0) d58_2 ?_
    refine q_istore_n d58_3 (by decide) rfl ?_
    refine q_iload_n d58_4 rfl ?_
    refine q_bipush (x := nI 6) d58_5 rfl ?_
    refine nc_ge 38 d58_7 (by decide) (by decide) (by decide) (fun q => absurd q (by decide)) (fun _ => ?_)
    refine q_iload_n d58_10 rfl ?_
    refine q_iconstN (z := 0) d58_11 ?_
    refine q_iconstN (z := 5) d58_12 ?_
    refine q_s3 d58_13 (Or.inl rfl) rfl (Nat.le_of_ble_eq_true rfl) (c10t ⟨by decide, by decide⟩ (by decide) ?_)
    refine n0_eq 38 d58_16 (by decide) (by decide) (fun q => absurd q (by decide)) (fun _ => ?_)
    refine q_iload_n d58_19 rfl ?_
    refine q_iload_n d58_20 rfl ?_
    refine nc_ne 26 d58_21 (by decide) (by omega) (by omega) (fun h21 => ?_) (fun h21 => ?_)
    · refine q_getst d58_26 rfl ?_
      refine q_iload_n d58_29 rfl ?_
      refine n_ialds d58_30 ⟨by decide, hst.1⟩ (by omega) (by decide) ((hst.2.2.1 2).trans (by decide : zUn 2 = nI 0)) ?_
      refine q_istore_n d58_31 (by decide) rfl ?_
      refine n_iinc 1 d58_32 (by decide) rfl rfl ?_
      refine q_goto 4 d58_35 (by decide) ?_
      refine q_iload_n d58_4 rfl ?_
      refine q_bipush (x := nI 6) d58_5 rfl ?_
      refine nc_ge 38 d58_7 (by decide) (by decide) (by decide) (fun q => absurd q (by decide)) (fun _ => ?_)
      refine q_iload_n d58_10 rfl ?_
      refine q_iconstN (z := 0) d58_11 ?_
      refine q_iconstN (z := 5) d58_12 ?_
      refine q_s3 d58_13 (Or.inl rfl) rfl (Nat.le_of_ble_eq_true rfl) (c10t ⟨by decide, by decide⟩ (by decide) ?_)
      refine n0_eq 38 d58_16 (by decide) (by decide) (fun q => absurd q (by decide)) (fun _ => ?_)
      refine q_iload_n d58_19 rfl ?_
      refine q_iload_n d58_20 rfl ?_
      refine nc_ne 26 d58_21 (by decide) (by omega) (by omega) (fun h21 => ?_) (fun h21 => ?_)
      · refine q_getst d58_26 rfl ?_
        refine q_iload_n d58_29 rfl ?_
        refine n_ialds d58_30 ⟨by decide, hst.1⟩ (by omega) (by decide) ((hst.2.2.1 0).trans (by decide : zUn 0 = -1)) ?_
        refine q_istore_n d58_31 (by decide) rfl ?_
        refine n_iinc 1 d58_32 (by decide) rfl rfl ?_
        refine q_goto 4 d58_35 (by decide) ?_
        refine q_iload_n d58_4 rfl ?_
        refine q_bipush (x := nI 6) d58_5 rfl ?_
        refine nc_ge 38 d58_7 (by decide) (by decide) (by decide) (fun q => absurd q (by decide)) (fun _ => ?_)
        refine q_iload_n d58_10 rfl ?_
        refine q_iconstN (z := 0) d58_11 ?_
        refine q_iconstN (z := 5) d58_12 ?_
        refine q_s3 d58_13 (Or.inl rfl) rfl (Nat.le_of_ble_eq_true rfl) (c10f (by decide) (by decide) (by decide) ?_)
        refine n0_eq 38 d58_16 (by decide) (by decide) (fun _ => ?_) (fun q => absurd q (by decide))
        refine q_iconstN (z := 0) d58_38 ?_
        refine q_zret d58_39 rfl (by decide) ?_
        exact bK0 k (by unfold yundr; simp; omega)
      · refine q_iconstN (z := 1) d58_24 ?_
        refine q_zret d58_25 rfl (by decide) ?_
        exact bK1 k (by unfold yundr; simp; omega)
    · refine q_iconstN (z := 1) d58_24 ?_
      refine q_zret d58_25 rfl (by decide) ?_
      exact bK1 k (by unfold yundr; simp; omega)
  · refine q_iload_n d58_0 rfl ?_
    refine q_istore_n d58_1 (by decide) rfl ?_
    refine q_iconstN (z := 0) d58_2 ?_
    refine q_istore_n d58_3 (by decide) rfl ?_
    refine q_iload_n d58_4 rfl ?_
    refine q_bipush (x := nI 6) d58_5 rfl ?_
    refine nc_ge 38 d58_7 (by decide) (by decide) (by decide) (fun q => absurd q (by decide)) (fun _ => ?_)
    refine q_iload_n d58_10 rfl ?_
    refine q_iconstN (z := 0) d58_11 ?_
    refine q_iconstN (z := 5) d58_12 ?_
    refine q_s3 d58_13 (Or.inl rfl) rfl (Nat.le_of_ble_eq_true rfl) (c10t ⟨by decide, by decide⟩ (by decide) ?_)
    refine n0_eq 38 d58_16 (by decide) (by decide) (fun q => absurd q (by decide)) (fun _ => ?_)
    refine q_iload_n d58_19 rfl ?_
    refine q_iload_n d58_20 rfl ?_
    refine nc_ne 26 d58_21 (by decide) (by omega) (by omega) (fun h21 => ?_) (fun h21 => ?_)
    · refine q_getst d58_26 rfl ?_
      refine q_iload_n d58_29 rfl ?_
      refine n_ialds d58_30 ⟨by decide, hst.1⟩ (by omega) (by decide) ((hst.2.2.1 3).trans (by decide : zUn 3 = nI 1)) ?_
      refine q_istore_n d58_31 (by decide) rfl ?_
      refine n_iinc 1 d58_32 (by decide) rfl rfl ?_
      refine q_goto 4 d58_35 (by decide) ?_
      refine q_iload_n d58_4 rfl ?_
      refine q_bipush (x := nI 6) d58_5 rfl ?_
      refine nc_ge 38 d58_7 (by decide) (by decide) (by decide) (fun q => absurd q (by decide)) (fun _ => ?_)
      refine q_iload_n d58_10 rfl ?_
      refine q_iconstN (z := 0) d58_11 ?_
      refine q_iconstN (z := 5) d58_12 ?_
      refine q_s3 d58_13 (Or.inl rfl) rfl (Nat.le_of_ble_eq_true rfl) (c10t ⟨by decide, by decide⟩ (by decide) ?_)
      refine n0_eq 38 d58_16 (by decide) (by decide) (fun q => absurd q (by decide)) (fun _ => ?_)
      refine q_iload_n d58_19 rfl ?_
      refine q_iload_n d58_20 rfl ?_
      refine nc_ne 26 d58_21 (by decide) (by omega) (by omega) (fun h21 => ?_) (fun h21 => ?_)
      · refine q_getst d58_26 rfl ?_
        refine q_iload_n d58_29 rfl ?_
        refine n_ialds d58_30 ⟨by decide, hst.1⟩ (by omega) (by decide) ((hst.2.2.1 1).trans (by decide : zUn 1 = nI 0)) ?_
        refine q_istore_n d58_31 (by decide) rfl ?_
        refine n_iinc 1 d58_32 (by decide) rfl rfl ?_
        refine q_goto 4 d58_35 (by decide) ?_
        refine q_iload_n d58_4 rfl ?_
        refine q_bipush (x := nI 6) d58_5 rfl ?_
        refine nc_ge 38 d58_7 (by decide) (by decide) (by decide) (fun q => absurd q (by decide)) (fun _ => ?_)
        refine q_iload_n d58_10 rfl ?_
        refine q_iconstN (z := 0) d58_11 ?_
        refine q_iconstN (z := 5) d58_12 ?_
        refine q_s3 d58_13 (Or.inl rfl) rfl (Nat.le_of_ble_eq_true rfl) (c10t ⟨by decide, by decide⟩ (by decide) ?_)
        refine n0_eq 38 d58_16 (by decide) (by decide) (fun q => absurd q (by decide)) (fun _ => ?_)
        refine q_iload_n d58_19 rfl ?_
        refine q_iload_n d58_20 rfl ?_
        refine nc_ne 26 d58_21 (by decide) (by omega) (by omega) (fun h21 => ?_) (fun h21 => ?_)
        · refine q_getst d58_26 rfl ?_
          refine q_iload_n d58_29 rfl ?_
          refine n_ialds d58_30 ⟨by decide, hst.1⟩ (by omega) (by decide) ((hst.2.2.1 0).trans (by decide : zUn 0 = -1)) ?_
          refine q_istore_n d58_31 (by decide) rfl ?_
          refine n_iinc 1 d58_32 (by decide) rfl rfl ?_
          refine q_goto 4 d58_35 (by decide) ?_
          refine q_iload_n d58_4 rfl ?_
          refine q_bipush (x := nI 6) d58_5 rfl ?_
          refine nc_ge 38 d58_7 (by decide) (by decide) (by decide) (fun q => absurd q (by decide)) (fun _ => ?_)
          refine q_iload_n d58_10 rfl ?_
          refine q_iconstN (z := 0) d58_11 ?_
          refine q_iconstN (z := 5) d58_12 ?_
          refine q_s3 d58_13 (Or.inl rfl) rfl (Nat.le_of_ble_eq_true rfl) (c10f (by decide) (by decide) (by decide) ?_)
          refine n0_eq 38 d58_16 (by decide) (by decide) (fun _ => ?_) (fun q => absurd q (by decide))
          refine q_iconstN (z := 0) d58_38 ?_
          refine q_zret d58_39 rfl (by decide) ?_
          exact bK0 k (by unfold yundr; simp; omega)
        · refine q_iconstN (z := 1) d58_24 ?_
          refine q_zret d58_25 rfl (by decide) ?_
          exact bK1 k (by unfold yundr; simp; omega)
      · refine q_iconstN (z := 1) d58_24 ?_
        refine q_zret d58_25 rfl (by decide) ?_
        exact bK1 k (by unfold yundr; simp; omega)
    · refine q_iconstN (z := 1) d58_24 ?_
      refine q_zret d58_25 rfl (by decide) ?_
      exact bK1 k (by unfold yundr; simp; omega)
  · refine q_iload_n d58_0 rfl ?_
    refine q_istore_n d58_1 (by decide) rfl ?_
    refine q_iconstN (z := 0) d58_2 ?_
    refine q_istore_n d58_3 (by decide) rfl ?_
    refine q_iload_n d58_4 rfl ?_
    refine q_bipush (x := nI 6) d58_5 rfl ?_
    refine nc_ge 38 d58_7 (by decide) (by decide) (by decide) (fun q => absurd q (by decide)) (fun _ => ?_)
    refine q_iload_n d58_10 rfl ?_
    refine q_iconstN (z := 0) d58_11 ?_
    refine q_iconstN (z := 5) d58_12 ?_
    refine q_s3 d58_13 (Or.inl rfl) rfl (Nat.le_of_ble_eq_true rfl) (c10t ⟨by decide, by decide⟩ (by decide) ?_)
    refine n0_eq 38 d58_16 (by decide) (by decide) (fun q => absurd q (by decide)) (fun _ => ?_)
    refine q_iload_n d58_19 rfl ?_
    refine q_iload_n d58_20 rfl ?_
    refine nc_ne 26 d58_21 (by decide) (by omega) (by omega) (fun h21 => ?_) (fun h21 => ?_)
    · refine q_getst d58_26 rfl ?_
      refine q_iload_n d58_29 rfl ?_
      refine n_ialds d58_30 ⟨by decide, hst.1⟩ (by omega) (by decide) ((hst.2.2.1 4).trans (by decide : zUn 4 = nI 2)) ?_
      refine q_istore_n d58_31 (by decide) rfl ?_
      refine n_iinc 1 d58_32 (by decide) rfl rfl ?_
      refine q_goto 4 d58_35 (by decide) ?_
      refine q_iload_n d58_4 rfl ?_
      refine q_bipush (x := nI 6) d58_5 rfl ?_
      refine nc_ge 38 d58_7 (by decide) (by decide) (by decide) (fun q => absurd q (by decide)) (fun _ => ?_)
      refine q_iload_n d58_10 rfl ?_
      refine q_iconstN (z := 0) d58_11 ?_
      refine q_iconstN (z := 5) d58_12 ?_
      refine q_s3 d58_13 (Or.inl rfl) rfl (Nat.le_of_ble_eq_true rfl) (c10t ⟨by decide, by decide⟩ (by decide) ?_)
      refine n0_eq 38 d58_16 (by decide) (by decide) (fun q => absurd q (by decide)) (fun _ => ?_)
      refine q_iload_n d58_19 rfl ?_
      refine q_iload_n d58_20 rfl ?_
      refine nc_ne 26 d58_21 (by decide) (by omega) (by omega) (fun h21 => ?_) (fun h21 => ?_)
      · refine q_getst d58_26 rfl ?_
        refine q_iload_n d58_29 rfl ?_
        refine n_ialds d58_30 ⟨by decide, hst.1⟩ (by omega) (by decide) ((hst.2.2.1 2).trans (by decide : zUn 2 = nI 0)) ?_
        refine q_istore_n d58_31 (by decide) rfl ?_
        refine n_iinc 1 d58_32 (by decide) rfl rfl ?_
        refine q_goto 4 d58_35 (by decide) ?_
        refine q_iload_n d58_4 rfl ?_
        refine q_bipush (x := nI 6) d58_5 rfl ?_
        refine nc_ge 38 d58_7 (by decide) (by decide) (by decide) (fun q => absurd q (by decide)) (fun _ => ?_)
        refine q_iload_n d58_10 rfl ?_
        refine q_iconstN (z := 0) d58_11 ?_
        refine q_iconstN (z := 5) d58_12 ?_
        refine q_s3 d58_13 (Or.inl rfl) rfl (Nat.le_of_ble_eq_true rfl) (c10t ⟨by decide, by decide⟩ (by decide) ?_)
        refine n0_eq 38 d58_16 (by decide) (by decide) (fun q => absurd q (by decide)) (fun _ => ?_)
        refine q_iload_n d58_19 rfl ?_
        refine q_iload_n d58_20 rfl ?_
        refine nc_ne 26 d58_21 (by decide) (by omega) (by omega) (fun h21 => ?_) (fun h21 => ?_)
        · refine q_getst d58_26 rfl ?_
          refine q_iload_n d58_29 rfl ?_
          refine n_ialds d58_30 ⟨by decide, hst.1⟩ (by omega) (by decide) ((hst.2.2.1 0).trans (by decide : zUn 0 = -1)) ?_
          refine q_istore_n d58_31 (by decide) rfl ?_
          refine n_iinc 1 d58_32 (by decide) rfl rfl ?_
          refine q_goto 4 d58_35 (by decide) ?_
          refine q_iload_n d58_4 rfl ?_
          refine q_bipush (x := nI 6) d58_5 rfl ?_
          refine nc_ge 38 d58_7 (by decide) (by decide) (by decide) (fun q => absurd q (by decide)) (fun _ => ?_)
          refine q_iload_n d58_10 rfl ?_
          refine q_iconstN (z := 0) d58_11 ?_
          refine q_iconstN (z := 5) d58_12 ?_
          refine q_s3 d58_13 (Or.inl rfl) rfl (Nat.le_of_ble_eq_true rfl) (c10f (by decide) (by decide) (by decide) ?_)
          refine n0_eq 38 d58_16 (by decide) (by decide) (fun _ => ?_) (fun q => absurd q (by decide))
          refine q_iconstN (z := 0) d58_38 ?_
          refine q_zret d58_39 rfl (by decide) ?_
          exact bK0 k (by unfold yundr; simp; omega)
        · refine q_iconstN (z := 1) d58_24 ?_
          refine q_zret d58_25 rfl (by decide) ?_
          exact bK1 k (by unfold yundr; simp; omega)
      · refine q_iconstN (z := 1) d58_24 ?_
        refine q_zret d58_25 rfl (by decide) ?_
        exact bK1 k (by unfold yundr; simp; omega)
    · refine q_iconstN (z := 1) d58_24 ?_
      refine q_zret d58_25 rfl (by decide) ?_
      exact bK1 k (by unfold yundr; simp; omega)
  · refine q_iload_n d58_0 rfl ?_
    refine q_istore_n d58_1 (by decide) rfl ?_
    refine q_iconstN (z := 0) d58_2 ?_
    refine q_istore_n d58_3 (by decide) rfl ?_
    refine q_iload_n d58_4 rfl ?_
    refine q_bipush (x := nI 6) d58_5 rfl ?_
    refine nc_ge 38 d58_7 (by decide) (by decide) (by decide) (fun q => absurd q (by decide)) (fun _ => ?_)
    refine q_iload_n d58_10 rfl ?_
    refine q_iconstN (z := 0) d58_11 ?_
    refine q_iconstN (z := 5) d58_12 ?_
    refine q_s3 d58_13 (Or.inl rfl) rfl (Nat.le_of_ble_eq_true rfl) (c10t ⟨by decide, by decide⟩ (by decide) ?_)
    refine n0_eq 38 d58_16 (by decide) (by decide) (fun q => absurd q (by decide)) (fun _ => ?_)
    refine q_iload_n d58_19 rfl ?_
    refine q_iload_n d58_20 rfl ?_
    refine nc_ne 26 d58_21 (by decide) (by omega) (by omega) (fun h21 => ?_) (fun h21 => ?_)
    · refine q_getst d58_26 rfl ?_
      refine q_iload_n d58_29 rfl ?_
      refine n_ialds d58_30 ⟨by decide, hst.1⟩ (by omega) (by decide) ((hst.2.2.1 5).trans (by decide : zUn 5 = nI 0)) ?_
      refine q_istore_n d58_31 (by decide) rfl ?_
      refine n_iinc 1 d58_32 (by decide) rfl rfl ?_
      refine q_goto 4 d58_35 (by decide) ?_
      refine q_iload_n d58_4 rfl ?_
      refine q_bipush (x := nI 6) d58_5 rfl ?_
      refine nc_ge 38 d58_7 (by decide) (by decide) (by decide) (fun q => absurd q (by decide)) (fun _ => ?_)
      refine q_iload_n d58_10 rfl ?_
      refine q_iconstN (z := 0) d58_11 ?_
      refine q_iconstN (z := 5) d58_12 ?_
      refine q_s3 d58_13 (Or.inl rfl) rfl (Nat.le_of_ble_eq_true rfl) (c10t ⟨by decide, by decide⟩ (by decide) ?_)
      refine n0_eq 38 d58_16 (by decide) (by decide) (fun q => absurd q (by decide)) (fun _ => ?_)
      refine q_iload_n d58_19 rfl ?_
      refine q_iload_n d58_20 rfl ?_
      refine nc_ne 26 d58_21 (by decide) (by omega) (by omega) (fun h21 => ?_) (fun h21 => ?_)
      · refine q_getst d58_26 rfl ?_
        refine q_iload_n d58_29 rfl ?_
        refine n_ialds d58_30 ⟨by decide, hst.1⟩ (by omega) (by decide) ((hst.2.2.1 0).trans (by decide : zUn 0 = -1)) ?_
        refine q_istore_n d58_31 (by decide) rfl ?_
        refine n_iinc 1 d58_32 (by decide) rfl rfl ?_
        refine q_goto 4 d58_35 (by decide) ?_
        refine q_iload_n d58_4 rfl ?_
        refine q_bipush (x := nI 6) d58_5 rfl ?_
        refine nc_ge 38 d58_7 (by decide) (by decide) (by decide) (fun q => absurd q (by decide)) (fun _ => ?_)
        refine q_iload_n d58_10 rfl ?_
        refine q_iconstN (z := 0) d58_11 ?_
        refine q_iconstN (z := 5) d58_12 ?_
        refine q_s3 d58_13 (Or.inl rfl) rfl (Nat.le_of_ble_eq_true rfl) (c10f (by decide) (by decide) (by decide) ?_)
        refine n0_eq 38 d58_16 (by decide) (by decide) (fun _ => ?_) (fun q => absurd q (by decide))
        refine q_iconstN (z := 0) d58_38 ?_
        refine q_zret d58_39 rfl (by decide) ?_
        exact bK0 k (by unfold yundr; simp; omega)
      · refine q_iconstN (z := 1) d58_24 ?_
        refine q_zret d58_25 rfl (by decide) ?_
        exact bK1 k (by unfold yundr; simp; omega)
    · refine q_iconstN (z := 1) d58_24 ?_
      refine q_zret d58_25 rfl (by decide) ?_
      exact bK1 k (by unfold yundr; simp; omega)
theorem zix_sw {x : Int32} {n : Nat} (h : zix x n = none) : x.toInt < 0 ∨ ((n : Int) - 1) < x.toInt := by
  have := zix_none h
  omega
theorem c47f {d a : Nat} {M : zM} {Q : Option Value → zM → Prop} {T : yT} {x : Int32} (hp : SPr M a) (hr : RP M a T) (hn : tn T ≤ 12) (h : zix x (tn T) = none) (k : Q (some (.int (nI 0))) M) : qC (d + 1) 47 [.ref a, .int x] M Q := c47 hp hr hn (by rw [h]; exact k)
theorem d56_0 : decode (zB 56) 0 = .ok (.aload_n 0, 1) := by decide +kernel
theorem d56_1 : decode (zB 56) 1 = .ok (.iload_n 1, 1) := by decide +kernel
theorem d56_2 : decode (zB 56) 2 = .ok (.invokevirtual 77, 3) := by decide +kernel
theorem d56_5 : decode (zB 56) 5 = .ok (.ifCond .eq 16, 3) := by decide +kernel
theorem d56_8 : decode (zB 56) 8 = .ok (.aload_n 0, 1) := by decide +kernel
theorem d56_9 : decode (zB 56) 9 = .ok (.getfield 18, 3) := by decide +kernel
theorem d56_12 : decode (zB 56) 12 = .ok (.iload_n 1, 1) := by decide +kernel
theorem d56_13 : decode (zB 56) 13 = .ok (.aaload, 1) := by decide +kernel
theorem d56_14 : decode (zB 56) 14 = .ok (.iload_n 2, 1) := by decide +kernel
theorem d56_15 : decode (zB 56) 15 = .ok (.invokevirtual 114, 3) := by decide +kernel
theorem d56_18 : decode (zB 56) 18 = .ok (.ifCond .ne 6, 3) := by decide +kernel
theorem d56_21 : decode (zB 56) 21 = .ok (.bipush (-2), 2) := by decide +kernel
theorem d56_23 : decode (zB 56) 23 = .ok (.ireturn, 1) := by decide +kernel
theorem d56_24 : decode (zB 56) 24 = .ok (.aload_n 0, 1) := by decide +kernel
theorem d56_25 : decode (zB 56) 25 = .ok (.getfield 18, 3) := by decide +kernel
theorem d56_28 : decode (zB 56) 28 = .ok (.iload_n 1, 1) := by decide +kernel
theorem d56_29 : decode (zB 56) 29 = .ok (.aaload, 1) := by decide +kernel
theorem d56_30 : decode (zB 56) 30 = .ok (.astore 4, 2) := by decide +kernel
theorem d56_32 : decode (zB 56) 32 = .ok (.iload_n 3, 1) := by decide +kernel
theorem d56_33 : decode (zB 56) 33 = .ok (.tableswitch 86 0 5 #[39, 47, 55, 63, 71, 79], 39) := by decide +kernel
theorem d56_72 : decode (zB 56) 72 = .ok (.aload 4, 2) := by decide +kernel
theorem d56_74 : decode (zB 56) 74 = .ok (.getfield 117, 3) := by decide +kernel
theorem d56_77 : decode (zB 56) 77 = .ok (.iload_n 2, 1) := by decide +kernel
theorem d56_78 : decode (zB 56) 78 = .ok (.iaload, 1) := by decide +kernel
theorem d56_79 : decode (zB 56) 79 = .ok (.ireturn, 1) := by decide +kernel
theorem d56_80 : decode (zB 56) 80 = .ok (.aload 4, 2) := by decide +kernel
theorem d56_82 : decode (zB 56) 82 = .ok (.getfield 121, 3) := by decide +kernel
theorem d56_85 : decode (zB 56) 85 = .ok (.iload_n 2, 1) := by decide +kernel
theorem d56_86 : decode (zB 56) 86 = .ok (.iaload, 1) := by decide +kernel
theorem d56_87 : decode (zB 56) 87 = .ok (.ireturn, 1) := by decide +kernel
theorem d56_88 : decode (zB 56) 88 = .ok (.aload 4, 2) := by decide +kernel
theorem d56_90 : decode (zB 56) 90 = .ok (.getfield 124, 3) := by decide +kernel
theorem d56_93 : decode (zB 56) 93 = .ok (.iload_n 2, 1) := by decide +kernel
theorem d56_94 : decode (zB 56) 94 = .ok (.iaload, 1) := by decide +kernel
theorem d56_95 : decode (zB 56) 95 = .ok (.ireturn, 1) := by decide +kernel
theorem d56_96 : decode (zB 56) 96 = .ok (.aload 4, 2) := by decide +kernel
theorem d56_98 : decode (zB 56) 98 = .ok (.getfield 127, 3) := by decide +kernel
theorem d56_101 : decode (zB 56) 101 = .ok (.iload_n 2, 1) := by decide +kernel
theorem d56_102 : decode (zB 56) 102 = .ok (.iaload, 1) := by decide +kernel
theorem d56_103 : decode (zB 56) 103 = .ok (.ireturn, 1) := by decide +kernel
theorem d56_104 : decode (zB 56) 104 = .ok (.aload 4, 2) := by decide +kernel
theorem d56_106 : decode (zB 56) 106 = .ok (.getfield 130, 3) := by decide +kernel
theorem d56_109 : decode (zB 56) 109 = .ok (.iload_n 2, 1) := by decide +kernel
theorem d56_110 : decode (zB 56) 110 = .ok (.iaload, 1) := by decide +kernel
theorem d56_111 : decode (zB 56) 111 = .ok (.ireturn, 1) := by decide +kernel
theorem d56_112 : decode (zB 56) 112 = .ok (.aload 4, 2) := by decide +kernel
theorem d56_114 : decode (zB 56) 114 = .ok (.iload_n 2, 1) := by decide +kernel
theorem d56_115 : decode (zB 56) 115 = .ok (.invokevirtual 133, 3) := by decide +kernel
theorem d56_118 : decode (zB 56) 118 = .ok (.ireturn, 1) := by decide +kernel
theorem d56_119 : decode (zB 56) 119 = .ok (.bipush (-2), 2) := by decide +kernel
theorem d56_121 : decode (zB 56) 121 = .ok (.ireturn, 1) := by decide +kernel
theorem p56 {d : Nat} {M : zM} {Q : Option Value → zM → Prop} {D : yD} {x y z : Int32} (hR : RC M D) (hD : OKD D) (k : ∀ M', RC M' D → Fc M M' → Q (some (.int (sStep D x y z))) M') : qC (d + 3) 56 [.ref 16, .int x, .int y, .int z] M Q := by
  refine qC_of (by decide) (Nat.le_of_ble_eq_true rfl) ?_
  have hS := hR.1.1
  have hT := hR.1.2.2.1
  have hO := hR.1.2.2.2.1
  have hRW := hR.1.2.2.2.2
  have hJ : RL M 62 (dL D) := hRW.2.2.2
  have hc6 := hO.1.1
  have h240 := hD.2.1
  have h120 := hR.2.2.1.1
  have hwr := hS.wo (Or.inl ⟨rfl, rfl, rfl, rfl⟩)
  have hwt := hS.wo (Or.inr ⟨rfl, rfl, rfl, rfl⟩)
  have hpr := hS.pu (Or.inl ⟨rfl, rfl, rfl, rfl⟩)
  have hpt := hS.pu (Or.inr ⟨rfl, rfl, rfl, rfl⟩)
  unfold sStep at k
  rcases zix_c x (n := dc D) (by omega) with ⟨t, ht, rfl, et⟩ | ⟨et, nt⟩
  · rw [oz_s et] at k
    have ho := hO.1.2 _ ht
    have hn := ho.n
    rcases zix_c y (n := tn (dT D t)) (by omega) with ⟨i, hi, rfl, ei⟩ | ⟨ei, ni⟩
    · rw [oz_s ei] at k
      rcases zix_c z (n := 6) (by omega) with ⟨w, hw, rfl, ew⟩ | ⟨ew, nw⟩
      · rw [oz_s ew] at k
        rcases (show w = 0 ∨ w = 1 ∨ w = 2 ∨ w = 3 ∨ w = 4 ∨ w = 5 by omega) with rfl | rfl | rfl | rfl | rfl | rfl
        · refine q_aload_n d56_0 rfl ?_
          refine q_iload_n d56_1 rfl ?_
          refine q_v1 d56_2 rfl rfl (hS.1.1) (Nat.le_of_ble_eq_true rfl) (c33t hR (by omega) ?_)
          refine n0_eq 21 d56_5 (by decide) (by decide) (fun q => absurd q (by decide)) (fun _ => ?_)
          refine q_aload_n d56_8 rfl ?_
          refine q_getr (c := 7) (f := 1) d56_9 ⟨rfl, rfl⟩ (hS.1.1) (hS.1.2.2.1) ?_
          refine q_iload_n d56_12 rfl ?_
          refine n_aald d56_13 (hS.1.2.2.2.1) (by decide) (by omega) (by decide) ((hS.1.2.2.2.2.1) _ (by omega)) ?_
          refine q_iload_n d56_14 rfl ?_
          refine q_v1 d56_15 rfl rfl (hS.pr (by omega)).1 (Nat.le_of_ble_eq_true rfl) (c47t (hS.pr (by omega)) (hT _ (by omega)) hn (by omega) ?_)
          refine n0_ne 24 d56_18 (by decide) (by decide) (fun _ => ?_) (fun q => absurd q (by decide))
          refine q_aload_n d56_24 rfl ?_
          refine q_getr (c := 7) (f := 1) d56_25 ⟨rfl, rfl⟩ (hS.1.1) (hS.1.2.2.1) ?_
          refine q_iload_n d56_28 rfl ?_
          refine n_aald d56_29 (hS.1.2.2.2.1) (by decide) (by omega) (by decide) ((hS.1.2.2.2.2.1) _ (by omega)) ?_
          refine q_astore d56_30 (by decide) rfl ?_
          refine q_iload_n d56_32 rfl ?_
          refine n_tsI (39) 72 d56_33 (by decide) (by decide) rfl (by decide) ?_
          refine q_aload d56_72 rfl ?_
          refine q_getr (c := 1) (f := 0) d56_74 ⟨rfl, rfl⟩ (hS.pr (by omega)).1 ((hS.pr (by omega)).2 0 (by decide)).1 ?_
          refine q_iload_n d56_77 rfl ?_
          refine n_iald d56_78 ((hS.pr (by omega)).2 0 (by decide)).2 (by omega) (by decide) ((hT _ (by omega)).2.2 _ (by omega)).1 ?_
          refine q_iret d56_79 rfl ?_
          exact k _ hR (Fc.refl _)
        · refine q_aload_n d56_0 rfl ?_
          refine q_iload_n d56_1 rfl ?_
          refine q_v1 d56_2 rfl rfl (hS.1.1) (Nat.le_of_ble_eq_true rfl) (c33t hR (by omega) ?_)
          refine n0_eq 21 d56_5 (by decide) (by decide) (fun q => absurd q (by decide)) (fun _ => ?_)
          refine q_aload_n d56_8 rfl ?_
          refine q_getr (c := 7) (f := 1) d56_9 ⟨rfl, rfl⟩ (hS.1.1) (hS.1.2.2.1) ?_
          refine q_iload_n d56_12 rfl ?_
          refine n_aald d56_13 (hS.1.2.2.2.1) (by decide) (by omega) (by decide) ((hS.1.2.2.2.2.1) _ (by omega)) ?_
          refine q_iload_n d56_14 rfl ?_
          refine q_v1 d56_15 rfl rfl (hS.pr (by omega)).1 (Nat.le_of_ble_eq_true rfl) (c47t (hS.pr (by omega)) (hT _ (by omega)) hn (by omega) ?_)
          refine n0_ne 24 d56_18 (by decide) (by decide) (fun _ => ?_) (fun q => absurd q (by decide))
          refine q_aload_n d56_24 rfl ?_
          refine q_getr (c := 7) (f := 1) d56_25 ⟨rfl, rfl⟩ (hS.1.1) (hS.1.2.2.1) ?_
          refine q_iload_n d56_28 rfl ?_
          refine n_aald d56_29 (hS.1.2.2.2.1) (by decide) (by omega) (by decide) ((hS.1.2.2.2.2.1) _ (by omega)) ?_
          refine q_astore d56_30 (by decide) rfl ?_
          refine q_iload_n d56_32 rfl ?_
          refine n_tsI (47) 80 d56_33 (by decide) (by decide) rfl (by decide) ?_
          refine q_aload d56_80 rfl ?_
          refine q_getr (c := 1) (f := 1) d56_82 ⟨rfl, rfl⟩ (hS.pr (by omega)).1 ((hS.pr (by omega)).2 1 (by decide)).1 ?_
          refine q_iload_n d56_85 rfl ?_
          refine n_iald d56_86 ((hS.pr (by omega)).2 1 (by decide)).2 (by omega) (by decide) ((hT _ (by omega)).2.2 _ (by omega)).2.1 ?_
          refine q_iret d56_87 rfl ?_
          exact k _ hR (Fc.refl _)
        · refine q_aload_n d56_0 rfl ?_
          refine q_iload_n d56_1 rfl ?_
          refine q_v1 d56_2 rfl rfl (hS.1.1) (Nat.le_of_ble_eq_true rfl) (c33t hR (by omega) ?_)
          refine n0_eq 21 d56_5 (by decide) (by decide) (fun q => absurd q (by decide)) (fun _ => ?_)
          refine q_aload_n d56_8 rfl ?_
          refine q_getr (c := 7) (f := 1) d56_9 ⟨rfl, rfl⟩ (hS.1.1) (hS.1.2.2.1) ?_
          refine q_iload_n d56_12 rfl ?_
          refine n_aald d56_13 (hS.1.2.2.2.1) (by decide) (by omega) (by decide) ((hS.1.2.2.2.2.1) _ (by omega)) ?_
          refine q_iload_n d56_14 rfl ?_
          refine q_v1 d56_15 rfl rfl (hS.pr (by omega)).1 (Nat.le_of_ble_eq_true rfl) (c47t (hS.pr (by omega)) (hT _ (by omega)) hn (by omega) ?_)
          refine n0_ne 24 d56_18 (by decide) (by decide) (fun _ => ?_) (fun q => absurd q (by decide))
          refine q_aload_n d56_24 rfl ?_
          refine q_getr (c := 7) (f := 1) d56_25 ⟨rfl, rfl⟩ (hS.1.1) (hS.1.2.2.1) ?_
          refine q_iload_n d56_28 rfl ?_
          refine n_aald d56_29 (hS.1.2.2.2.1) (by decide) (by omega) (by decide) ((hS.1.2.2.2.2.1) _ (by omega)) ?_
          refine q_astore d56_30 (by decide) rfl ?_
          refine q_iload_n d56_32 rfl ?_
          refine n_tsI (55) 88 d56_33 (by decide) (by decide) rfl (by decide) ?_
          refine q_aload d56_88 rfl ?_
          refine q_getr (c := 1) (f := 2) d56_90 ⟨rfl, rfl⟩ (hS.pr (by omega)).1 ((hS.pr (by omega)).2 2 (by decide)).1 ?_
          refine q_iload_n d56_93 rfl ?_
          refine n_iald d56_94 ((hS.pr (by omega)).2 2 (by decide)).2 (by omega) (by decide) ((hT _ (by omega)).2.2 _ (by omega)).2.2.1 ?_
          refine q_iret d56_95 rfl ?_
          exact k _ hR (Fc.refl _)
        · refine q_aload_n d56_0 rfl ?_
          refine q_iload_n d56_1 rfl ?_
          refine q_v1 d56_2 rfl rfl (hS.1.1) (Nat.le_of_ble_eq_true rfl) (c33t hR (by omega) ?_)
          refine n0_eq 21 d56_5 (by decide) (by decide) (fun q => absurd q (by decide)) (fun _ => ?_)
          refine q_aload_n d56_8 rfl ?_
          refine q_getr (c := 7) (f := 1) d56_9 ⟨rfl, rfl⟩ (hS.1.1) (hS.1.2.2.1) ?_
          refine q_iload_n d56_12 rfl ?_
          refine n_aald d56_13 (hS.1.2.2.2.1) (by decide) (by omega) (by decide) ((hS.1.2.2.2.2.1) _ (by omega)) ?_
          refine q_iload_n d56_14 rfl ?_
          refine q_v1 d56_15 rfl rfl (hS.pr (by omega)).1 (Nat.le_of_ble_eq_true rfl) (c47t (hS.pr (by omega)) (hT _ (by omega)) hn (by omega) ?_)
          refine n0_ne 24 d56_18 (by decide) (by decide) (fun _ => ?_) (fun q => absurd q (by decide))
          refine q_aload_n d56_24 rfl ?_
          refine q_getr (c := 7) (f := 1) d56_25 ⟨rfl, rfl⟩ (hS.1.1) (hS.1.2.2.1) ?_
          refine q_iload_n d56_28 rfl ?_
          refine n_aald d56_29 (hS.1.2.2.2.1) (by decide) (by omega) (by decide) ((hS.1.2.2.2.2.1) _ (by omega)) ?_
          refine q_astore d56_30 (by decide) rfl ?_
          refine q_iload_n d56_32 rfl ?_
          refine n_tsI (63) 96 d56_33 (by decide) (by decide) rfl (by decide) ?_
          refine q_aload d56_96 rfl ?_
          refine q_getr (c := 1) (f := 3) d56_98 ⟨rfl, rfl⟩ (hS.pr (by omega)).1 ((hS.pr (by omega)).2 3 (by decide)).1 ?_
          refine q_iload_n d56_101 rfl ?_
          refine n_iald d56_102 ((hS.pr (by omega)).2 3 (by decide)).2 (by omega) (by decide) ((hT _ (by omega)).2.2 _ (by omega)).2.2.2.1 ?_
          refine q_iret d56_103 rfl ?_
          exact k _ hR (Fc.refl _)
        · refine q_aload_n d56_0 rfl ?_
          refine q_iload_n d56_1 rfl ?_
          refine q_v1 d56_2 rfl rfl (hS.1.1) (Nat.le_of_ble_eq_true rfl) (c33t hR (by omega) ?_)
          refine n0_eq 21 d56_5 (by decide) (by decide) (fun q => absurd q (by decide)) (fun _ => ?_)
          refine q_aload_n d56_8 rfl ?_
          refine q_getr (c := 7) (f := 1) d56_9 ⟨rfl, rfl⟩ (hS.1.1) (hS.1.2.2.1) ?_
          refine q_iload_n d56_12 rfl ?_
          refine n_aald d56_13 (hS.1.2.2.2.1) (by decide) (by omega) (by decide) ((hS.1.2.2.2.2.1) _ (by omega)) ?_
          refine q_iload_n d56_14 rfl ?_
          refine q_v1 d56_15 rfl rfl (hS.pr (by omega)).1 (Nat.le_of_ble_eq_true rfl) (c47t (hS.pr (by omega)) (hT _ (by omega)) hn (by omega) ?_)
          refine n0_ne 24 d56_18 (by decide) (by decide) (fun _ => ?_) (fun q => absurd q (by decide))
          refine q_aload_n d56_24 rfl ?_
          refine q_getr (c := 7) (f := 1) d56_25 ⟨rfl, rfl⟩ (hS.1.1) (hS.1.2.2.1) ?_
          refine q_iload_n d56_28 rfl ?_
          refine n_aald d56_29 (hS.1.2.2.2.1) (by decide) (by omega) (by decide) ((hS.1.2.2.2.2.1) _ (by omega)) ?_
          refine q_astore d56_30 (by decide) rfl ?_
          refine q_iload_n d56_32 rfl ?_
          refine n_tsI (71) 104 d56_33 (by decide) (by decide) rfl (by decide) ?_
          refine q_aload d56_104 rfl ?_
          refine q_getr (c := 1) (f := 4) d56_106 ⟨rfl, rfl⟩ (hS.pr (by omega)).1 ((hS.pr (by omega)).2 4 (by decide)).1 ?_
          refine q_iload_n d56_109 rfl ?_
          refine n_iald d56_110 ((hS.pr (by omega)).2 4 (by decide)).2 (by omega) (by decide) ((hT _ (by omega)).2.2 _ (by omega)).2.2.2.2 ?_
          refine q_iret d56_111 rfl ?_
          exact k _ hR (Fc.refl _)
        · refine q_aload_n d56_0 rfl ?_
          refine q_iload_n d56_1 rfl ?_
          refine q_v1 d56_2 rfl rfl (hS.1.1) (Nat.le_of_ble_eq_true rfl) (c33t hR (by omega) ?_)
          refine n0_eq 21 d56_5 (by decide) (by decide) (fun q => absurd q (by decide)) (fun _ => ?_)
          refine q_aload_n d56_8 rfl ?_
          refine q_getr (c := 7) (f := 1) d56_9 ⟨rfl, rfl⟩ (hS.1.1) (hS.1.2.2.1) ?_
          refine q_iload_n d56_12 rfl ?_
          refine n_aald d56_13 (hS.1.2.2.2.1) (by decide) (by omega) (by decide) ((hS.1.2.2.2.2.1) _ (by omega)) ?_
          refine q_iload_n d56_14 rfl ?_
          refine q_v1 d56_15 rfl rfl (hS.pr (by omega)).1 (Nat.le_of_ble_eq_true rfl) (c47t (hS.pr (by omega)) (hT _ (by omega)) hn (by omega) ?_)
          refine n0_ne 24 d56_18 (by decide) (by decide) (fun _ => ?_) (fun q => absurd q (by decide))
          refine q_aload_n d56_24 rfl ?_
          refine q_getr (c := 7) (f := 1) d56_25 ⟨rfl, rfl⟩ (hS.1.1) (hS.1.2.2.1) ?_
          refine q_iload_n d56_28 rfl ?_
          refine n_aald d56_29 (hS.1.2.2.2.1) (by decide) (by omega) (by decide) ((hS.1.2.2.2.2.1) _ (by omega)) ?_
          refine q_astore d56_30 (by decide) rfl ?_
          refine q_iload_n d56_32 rfl ?_
          refine n_tsI (79) 112 d56_33 (by decide) (by decide) rfl (by decide) ?_
          refine q_aload d56_112 rfl ?_
          refine q_iload_n d56_114 rfl ?_
          refine q_v1 d56_115 rfl rfl (hS.pr (by omega)).1 (Nat.le_of_ble_eq_true rfl) (c39 (hS.pr (by omega)) (hT _ (by omega)) ho (by omega) ?_)
          refine q_iret d56_118 rfl ?_
          exact k _ hR (Fc.refl _)
      · rw [oz_n ew] at k
        refine q_aload_n d56_0 rfl ?_
        refine q_iload_n d56_1 rfl ?_
        refine q_v1 d56_2 rfl rfl (hS.1.1) (Nat.le_of_ble_eq_true rfl) (c33t hR (by omega) ?_)
        refine n0_eq 21 d56_5 (by decide) (by decide) (fun q => absurd q (by decide)) (fun _ => ?_)
        refine q_aload_n d56_8 rfl ?_
        refine q_getr (c := 7) (f := 1) d56_9 ⟨rfl, rfl⟩ (hS.1.1) (hS.1.2.2.1) ?_
        refine q_iload_n d56_12 rfl ?_
        refine n_aald d56_13 (hS.1.2.2.2.1) (by decide) (by omega) (by decide) ((hS.1.2.2.2.2.1) _ (by omega)) ?_
        refine q_iload_n d56_14 rfl ?_
        refine q_v1 d56_15 rfl rfl (hS.pr (by omega)).1 (Nat.le_of_ble_eq_true rfl) (c47t (hS.pr (by omega)) (hT _ (by omega)) hn (by omega) ?_)
        refine n0_ne 24 d56_18 (by decide) (by decide) (fun _ => ?_) (fun q => absurd q (by decide))
        refine q_aload_n d56_24 rfl ?_
        refine q_getr (c := 7) (f := 1) d56_25 ⟨rfl, rfl⟩ (hS.1.1) (hS.1.2.2.1) ?_
        refine q_iload_n d56_28 rfl ?_
        refine n_aald d56_29 (hS.1.2.2.2.1) (by decide) (by omega) (by decide) ((hS.1.2.2.2.2.1) _ (by omega)) ?_
        refine q_astore d56_30 (by decide) rfl ?_
        refine q_iload_n d56_32 rfl ?_
        refine q_tsO 119 d56_33 (zix_sw ew) (by decide) ?_
        refine q_bipush (x := (-2)) d56_119 rfl ?_
        refine q_iret d56_121 rfl ?_
        exact k _ hR (Fc.refl _)
    · rw [oz_n ei] at k
      refine q_aload_n d56_0 rfl ?_
      refine q_iload_n d56_1 rfl ?_
      refine q_v1 d56_2 rfl rfl (hS.1.1) (Nat.le_of_ble_eq_true rfl) (c33t hR (by omega) ?_)
      refine n0_eq 21 d56_5 (by decide) (by decide) (fun q => absurd q (by decide)) (fun _ => ?_)
      refine q_aload_n d56_8 rfl ?_
      refine q_getr (c := 7) (f := 1) d56_9 ⟨rfl, rfl⟩ (hS.1.1) (hS.1.2.2.1) ?_
      refine q_iload_n d56_12 rfl ?_
      refine n_aald d56_13 (hS.1.2.2.2.1) (by decide) (by omega) (by decide) ((hS.1.2.2.2.2.1) _ (by omega)) ?_
      refine q_iload_n d56_14 rfl ?_
      refine q_v1 d56_15 rfl rfl (hS.pr (by omega)).1 (Nat.le_of_ble_eq_true rfl) (c47f (hS.pr (by omega)) (hT _ (by omega)) hn ei ?_)
      refine n0_ne 24 d56_18 (by decide) (by decide) (fun q => absurd q (by decide)) (fun _ => ?_)
      refine q_bipush (x := (-2)) d56_21 rfl ?_
      refine q_iret d56_23 rfl ?_
      exact k _ hR (Fc.refl _)
  · rw [oz_n et] at k
    refine q_aload_n d56_0 rfl ?_
    refine q_iload_n d56_1 rfl ?_
    refine q_v1 d56_2 rfl rfl (hS.1.1) (Nat.le_of_ble_eq_true rfl) (c33f hR et ?_)
    refine n0_eq 21 d56_5 (by decide) (by decide) (fun _ => ?_) (fun q => absurd q (by decide))
    refine q_bipush (x := (-2)) d56_21 rfl ?_
    refine q_iret d56_23 rfl ?_
    exact k _ hR (Fc.refl _)
theorem d57_0 : decode (zB 57) 0 = .ok (.aload_n 0, 1) := by decide +kernel
theorem d57_1 : decode (zB 57) 1 = .ok (.iload_n 1, 1) := by decide +kernel
theorem d57_2 : decode (zB 57) 2 = .ok (.invokevirtual 77, 3) := by decide +kernel
theorem d57_5 : decode (zB 57) 5 = .ok (.ifCond .eq 25, 3) := by decide +kernel
theorem d57_8 : decode (zB 57) 8 = .ok (.aload_n 0, 1) := by decide +kernel
theorem d57_9 : decode (zB 57) 9 = .ok (.getfield 18, 3) := by decide +kernel
theorem d57_12 : decode (zB 57) 12 = .ok (.iload_n 1, 1) := by decide +kernel
theorem d57_13 : decode (zB 57) 13 = .ok (.aaload, 1) := by decide +kernel
theorem d57_14 : decode (zB 57) 14 = .ok (.iload_n 2, 1) := by decide +kernel
theorem d57_15 : decode (zB 57) 15 = .ok (.invokevirtual 114, 3) := by decide +kernel
theorem d57_18 : decode (zB 57) 18 = .ok (.ifCond .eq 12, 3) := by decide +kernel
theorem d57_21 : decode (zB 57) 21 = .ok (.iload_n 3, 1) := by decide +kernel
theorem d57_22 : decode (zB 57) 22 = .ok (.iconst 0, 1) := by decide +kernel
theorem d57_23 : decode (zB 57) 23 = .ok (.iconst 5, 1) := by decide +kernel
theorem d57_24 : decode (zB 57) 24 = .ok (.invokestatic 55, 3) := by decide +kernel
theorem d57_27 : decode (zB 57) 27 = .ok (.ifCond .ne 6, 3) := by decide +kernel
theorem d57_30 : decode (zB 57) 30 = .ok (.bipush (-2), 2) := by decide +kernel
theorem d57_32 : decode (zB 57) 32 = .ok (.ireturn, 1) := by decide +kernel
theorem d57_33 : decode (zB 57) 33 = .ok (.aload_n 0, 1) := by decide +kernel
theorem d57_34 : decode (zB 57) 34 = .ok (.getfield 18, 3) := by decide +kernel
theorem d57_37 : decode (zB 57) 37 = .ok (.iload_n 1, 1) := by decide +kernel
theorem d57_38 : decode (zB 57) 38 = .ok (.aaload, 1) := by decide +kernel
theorem d57_39 : decode (zB 57) 39 = .ok (.getfield 117, 3) := by decide +kernel
theorem d57_42 : decode (zB 57) 42 = .ok (.iload_n 2, 1) := by decide +kernel
theorem d57_43 : decode (zB 57) 43 = .ok (.iaload, 1) := by decide +kernel
theorem d57_44 : decode (zB 57) 44 = .ok (.istore 4, 2) := by decide +kernel
theorem d57_46 : decode (zB 57) 46 = .ok (.iload 4, 2) := by decide +kernel
theorem d57_48 : decode (zB 57) 48 = .ok (.iload_n 3, 1) := by decide +kernel
theorem d57_49 : decode (zB 57) 49 = .ok (.invokestatic 137, 3) := by decide +kernel
theorem d57_52 : decode (zB 57) 52 = .ok (.ifCond .eq 8, 3) := by decide +kernel
theorem d57_55 : decode (zB 57) 55 = .ok (.iload 4, 2) := by decide +kernel
theorem d57_57 : decode (zB 57) 57 = .ok (.goto 5, 3) := by decide +kernel
theorem d57_60 : decode (zB 57) 60 = .ok (.bipush (-13), 2) := by decide +kernel
theorem d57_62 : decode (zB 57) 62 = .ok (.ireturn, 1) := by decide +kernel
theorem p57 {d : Nat} {M : zM} {Q : Option Value → zM → Prop} {D : yD} {x y z : Int32} (hR : RC M D) (hD : OKD D) (k : ∀ M', RC M' D → Fc M M' → Q (some (.int (sTaken D x y z))) M') : qC (d + 3) 57 [.ref 16, .int x, .int y, .int z] M Q := by
  refine qC_of (by decide) (Nat.le_of_ble_eq_true rfl) ?_
  have hS := hR.1.1
  have hT := hR.1.2.2.1
  have hO := hR.1.2.2.2.1
  have hRW := hR.1.2.2.2.2
  have hJ : RL M 62 (dL D) := hRW.2.2.2
  have hc6 := hO.1.1
  have h240 := hD.2.1
  have h120 := hR.2.2.1.1
  have hwr := hS.wo (Or.inl ⟨rfl, rfl, rfl, rfl⟩)
  have hwt := hS.wo (Or.inr ⟨rfl, rfl, rfl, rfl⟩)
  have hpr := hS.pu (Or.inl ⟨rfl, rfl, rfl, rfl⟩)
  have hpt := hS.pu (Or.inr ⟨rfl, rfl, rfl, rfl⟩)
  unfold sTaken at k
  rcases zix_c x (n := dc D) (by omega) with ⟨t, ht, rfl, et⟩ | ⟨et, nt⟩
  · rw [oz_s et] at k
    have ho := hO.1.2 _ ht
    have hn := ho.n
    rcases zix_c y (n := tn (dT D t)) (by omega) with ⟨i, hi, rfl, ei⟩ | ⟨ei, ni⟩
    · rw [oz_s ei] at k
      rcases zix_c z (n := 6) (by omega) with ⟨w, hw, rfl, ew⟩ | ⟨ew, nw⟩
      · rw [oz_s ew] at k
        refine q_aload_n d57_0 rfl ?_
        refine q_iload_n d57_1 rfl ?_
        refine q_v1 d57_2 rfl rfl (hS.1.1) (Nat.le_of_ble_eq_true rfl) (c33t hR (by omega) ?_)
        refine n0_eq 30 d57_5 (by decide) (by decide) (fun q => absurd q (by decide)) (fun _ => ?_)
        refine q_aload_n d57_8 rfl ?_
        refine q_getr (c := 7) (f := 1) d57_9 ⟨rfl, rfl⟩ (hS.1.1) (hS.1.2.2.1) ?_
        refine q_iload_n d57_12 rfl ?_
        refine n_aald d57_13 (hS.1.2.2.2.1) (by decide) (by omega) (by decide) ((hS.1.2.2.2.2.1) _ (by omega)) ?_
        refine q_iload_n d57_14 rfl ?_
        refine q_v1 d57_15 rfl rfl (hS.pr (by omega)).1 (Nat.le_of_ble_eq_true rfl) (c47t (hS.pr (by omega)) (hT _ (by omega)) hn (by omega) ?_)
        refine n0_eq 30 d57_18 (by decide) (by decide) (fun q => absurd q (by decide)) (fun _ => ?_)
        refine q_iload_n d57_21 rfl ?_
        refine q_iconstN (z := 0) d57_22 ?_
        refine q_iconstN (z := 5) d57_23 ?_
        refine q_s3 d57_24 (Or.inl rfl) rfl (Nat.le_of_ble_eq_true rfl) (c10t ⟨by omega, by omega⟩ (by decide) ?_)
        refine n0_ne 33 d57_27 (by decide) (by decide) (fun _ => ?_) (fun q => absurd q (by decide))
        refine q_aload_n d57_33 rfl ?_
        refine q_getr (c := 7) (f := 1) d57_34 ⟨rfl, rfl⟩ (hS.1.1) (hS.1.2.2.1) ?_
        refine q_iload_n d57_37 rfl ?_
        refine n_aald d57_38 (hS.1.2.2.2.1) (by decide) (by omega) (by decide) ((hS.1.2.2.2.2.1) _ (by omega)) ?_
        refine q_getr (c := 1) (f := 0) d57_39 ⟨rfl, rfl⟩ (hS.pr (by omega)).1 ((hS.pr (by omega)).2 0 (by decide)).1 ?_
        refine q_iload_n d57_42 rfl ?_
        have hk6 := ho.k hi
        refine n_iald d57_43 ((hS.pr (by omega)).2 0 (by decide)).2 (by omega) (by decide) ((hT _ (by omega)).2.2 _ (by omega)).1 ?_
        refine q_istore d57_44 (by decide) rfl ?_
        refine q_iload d57_46 rfl ?_
        refine q_iload_n d57_48 rfl ?_
        refine q_s2 d57_49 (Or.inl rfl) rfl (Nat.le_of_ble_eq_true rfl) (c58 hS (ho.k (by omega)) (by omega) ?_)
        refine b0_eq 60 d57_52 (by decide) (fun h52 => ?_) (fun h52 => ?_)
        · refine q_bipush (x := (-13)) d57_60 rfl ?_
          refine q_iret d57_62 rfl ?_
          first
          | (rw [if_pos h52] at k; exact k _ hR (Fc.refl _))
          | (rw [h52, if_neg (by decide)] at k; exact k _ hR (Fc.refl _))
        · refine q_iload d57_55 rfl ?_
          refine q_goto 62 d57_57 (by decide) ?_
          refine q_iret d57_62 rfl ?_
          first
          | (rw [if_pos h52] at k; exact k _ hR (Fc.refl _))
          | (rw [h52, if_neg (by decide)] at k; exact k _ hR (Fc.refl _))
      · rw [oz_n ew] at k
        refine q_aload_n d57_0 rfl ?_
        refine q_iload_n d57_1 rfl ?_
        refine q_v1 d57_2 rfl rfl (hS.1.1) (Nat.le_of_ble_eq_true rfl) (c33t hR (by omega) ?_)
        refine n0_eq 30 d57_5 (by decide) (by decide) (fun q => absurd q (by decide)) (fun _ => ?_)
        refine q_aload_n d57_8 rfl ?_
        refine q_getr (c := 7) (f := 1) d57_9 ⟨rfl, rfl⟩ (hS.1.1) (hS.1.2.2.1) ?_
        refine q_iload_n d57_12 rfl ?_
        refine n_aald d57_13 (hS.1.2.2.2.1) (by decide) (by omega) (by decide) ((hS.1.2.2.2.2.1) _ (by omega)) ?_
        refine q_iload_n d57_14 rfl ?_
        refine q_v1 d57_15 rfl rfl (hS.pr (by omega)).1 (Nat.le_of_ble_eq_true rfl) (c47t (hS.pr (by omega)) (hT _ (by omega)) hn (by omega) ?_)
        refine n0_eq 30 d57_18 (by decide) (by decide) (fun q => absurd q (by decide)) (fun _ => ?_)
        refine q_iload_n d57_21 rfl ?_
        refine q_iconstN (z := 0) d57_22 ?_
        refine q_iconstN (z := 5) d57_23 ?_
        refine q_s3 d57_24 (Or.inl rfl) rfl (Nat.le_of_ble_eq_true rfl) (c10f (by decide) (by omega) (by decide) ?_)
        refine n0_ne 33 d57_27 (by decide) (by decide) (fun q => absurd q (by decide)) (fun _ => ?_)
        refine q_bipush (x := (-2)) d57_30 rfl ?_
        refine q_iret d57_32 rfl ?_
        exact k _ hR (Fc.refl _)
    · rw [oz_n ei] at k
      refine q_aload_n d57_0 rfl ?_
      refine q_iload_n d57_1 rfl ?_
      refine q_v1 d57_2 rfl rfl (hS.1.1) (Nat.le_of_ble_eq_true rfl) (c33t hR (by omega) ?_)
      refine n0_eq 30 d57_5 (by decide) (by decide) (fun q => absurd q (by decide)) (fun _ => ?_)
      refine q_aload_n d57_8 rfl ?_
      refine q_getr (c := 7) (f := 1) d57_9 ⟨rfl, rfl⟩ (hS.1.1) (hS.1.2.2.1) ?_
      refine q_iload_n d57_12 rfl ?_
      refine n_aald d57_13 (hS.1.2.2.2.1) (by decide) (by omega) (by decide) ((hS.1.2.2.2.2.1) _ (by omega)) ?_
      refine q_iload_n d57_14 rfl ?_
      refine q_v1 d57_15 rfl rfl (hS.pr (by omega)).1 (Nat.le_of_ble_eq_true rfl) (c47f (hS.pr (by omega)) (hT _ (by omega)) hn ei ?_)
      refine n0_eq 30 d57_18 (by decide) (by decide) (fun _ => ?_) (fun q => absurd q (by decide))
      refine q_bipush (x := (-2)) d57_30 rfl ?_
      refine q_iret d57_32 rfl ?_
      exact k _ hR (Fc.refl _)
  · rw [oz_n et] at k
    refine q_aload_n d57_0 rfl ?_
    refine q_iload_n d57_1 rfl ?_
    refine q_v1 d57_2 rfl rfl (hS.1.1) (Nat.le_of_ble_eq_true rfl) (c33f hR et ?_)
    refine n0_eq 30 d57_5 (by decide) (by decide) (fun _ => ?_) (fun q => absurd q (by decide))
    refine q_bipush (x := (-2)) d57_30 rfl ?_
    refine q_iret d57_32 rfl ?_
    exact k _ hR (Fc.refl _)
theorem d123_0 : decode (zB 123) 0 = .ok (.iload_n 1, 1) := by decide +kernel
theorem d123_1 : decode (zB 123) 1 = .ok (.tableswitch 90 0 5 #[39, 44, 52, 60, 68, 79], 39) := by decide +kernel
theorem d123_40 : decode (zB 123) 40 = .ok (.aload_n 0, 1) := by decide +kernel
theorem d123_41 : decode (zB 123) 41 = .ok (.getfield 70, 3) := by decide +kernel
theorem d123_44 : decode (zB 123) 44 = .ok (.ireturn, 1) := by decide +kernel
theorem d123_45 : decode (zB 123) 45 = .ok (.aload_n 0, 1) := by decide +kernel
theorem d123_46 : decode (zB 123) 46 = .ok (.getfield 10, 3) := by decide +kernel
theorem d123_49 : decode (zB 123) 49 = .ok (.getfield 63, 3) := by decide +kernel
theorem d123_52 : decode (zB 123) 52 = .ok (.ireturn, 1) := by decide +kernel
theorem d123_53 : decode (zB 123) 53 = .ok (.aload_n 0, 1) := by decide +kernel
theorem d123_54 : decode (zB 123) 54 = .ok (.getfield 28, 3) := by decide +kernel
theorem d123_57 : decode (zB 123) 57 = .ok (.getfield 154, 3) := by decide +kernel
theorem d123_60 : decode (zB 123) 60 = .ok (.ireturn, 1) := by decide +kernel
theorem d123_61 : decode (zB 123) 61 = .ok (.aload_n 0, 1) := by decide +kernel
theorem d123_62 : decode (zB 123) 62 = .ok (.getfield 37, 3) := by decide +kernel
theorem d123_65 : decode (zB 123) 65 = .ok (.invokevirtual 279, 3) := by decide +kernel
theorem d123_68 : decode (zB 123) 68 = .ok (.ireturn, 1) := by decide +kernel
theorem d123_69 : decode (zB 123) 69 = .ok (.aload_n 0, 1) := by decide +kernel
theorem d123_70 : decode (zB 123) 70 = .ok (.getfield 37, 3) := by decide +kernel
theorem d123_73 : decode (zB 123) 73 = .ok (.getfield 94, 3) := by decide +kernel
theorem d123_76 : decode (zB 123) 76 = .ok (.getfield 282, 3) := by decide +kernel
theorem d123_79 : decode (zB 123) 79 = .ok (.ireturn, 1) := by decide +kernel
theorem d123_80 : decode (zB 123) 80 = .ok (.aload_n 0, 1) := by decide +kernel
theorem d123_81 : decode (zB 123) 81 = .ok (.getfield 37, 3) := by decide +kernel
theorem d123_84 : decode (zB 123) 84 = .ok (.getfield 94, 3) := by decide +kernel
theorem d123_87 : decode (zB 123) 87 = .ok (.getfield 285, 3) := by decide +kernel
theorem d123_90 : decode (zB 123) 90 = .ok (.ireturn, 1) := by decide +kernel
theorem d123_91 : decode (zB 123) 91 = .ok (.iload_n 1, 1) := by decide +kernel
theorem d123_92 : decode (zB 123) 92 = .ok (.bipush 10, 2) := by decide +kernel
theorem d123_94 : decode (zB 123) 94 = .ok (.bipush 15, 2) := by decide +kernel
theorem d123_96 : decode (zB 123) 96 = .ok (.invokestatic 55, 3) := by decide +kernel
theorem d123_99 : decode (zB 123) 99 = .ok (.ifCond .eq 21, 3) := by decide +kernel
theorem d123_102 : decode (zB 123) 102 = .ok (.aload_n 0, 1) := by decide +kernel
theorem d123_103 : decode (zB 123) 103 = .ok (.getfield 37, 3) := by decide +kernel
theorem d123_106 : decode (zB 123) 106 = .ok (.getfield 94, 3) := by decide +kernel
theorem d123_109 : decode (zB 123) 109 = .ok (.getfield 205, 3) := by decide +kernel
theorem d123_112 : decode (zB 123) 112 = .ok (.iload_n 1, 1) := by decide +kernel
theorem d123_113 : decode (zB 123) 113 = .ok (.bipush 10, 2) := by decide +kernel
theorem d123_115 : decode (zB 123) 115 = .ok (.isub, 1) := by decide +kernel
theorem d123_116 : decode (zB 123) 116 = .ok (.iaload, 1) := by decide +kernel
theorem d123_117 : decode (zB 123) 117 = .ok (.goto 5, 3) := by decide +kernel
theorem d123_120 : decode (zB 123) 120 = .ok (.bipush (-2), 2) := by decide +kernel
theorem d123_122 : decode (zB 123) 122 = .ok (.ireturn, 1) := by decide +kernel
theorem p123 {d : Nat} {M : zM} {Q : Option Value → zM → Prop} {D : yD} {x : Int32} (hR : RC M D) (hD : OKD D) (k : ∀ M', RC M' D → Fc M M' → Q (some (.int (sCount D x))) M') : qC (d + 3) 123 [.ref 16, .int x] M Q := by
  refine qC_of (by decide) (Nat.le_of_ble_eq_true rfl) ?_
  have hS := hR.1.1
  have hT := hR.1.2.2.1
  have hO := hR.1.2.2.2.1
  have hRW := hR.1.2.2.2.2
  have hJ : RL M 62 (dL D) := hRW.2.2.2
  have hc6 := hO.1.1
  have h240 := hD.2.1
  have h120 := hR.2.2.1.1
  have hwr := hS.wo (Or.inl ⟨rfl, rfl, rfl, rfl⟩)
  have hwt := hS.wo (Or.inr ⟨rfl, rfl, rfl, rfl⟩)
  have hpr := hS.pu (Or.inl ⟨rfl, rfl, rfl, rfl⟩)
  have hpt := hS.pu (Or.inr ⟨rfl, rfl, rfl, rfl⟩)
  unfold sCount at k
  rcases zix_c x (n := 16) (by omega) with ⟨w, hw, rfl, ew⟩ | ⟨ew, nw⟩
  · rw [oz_s ew] at k
    by_cases h6 : w < 6
    · rcases (show w = 0 ∨ w = 1 ∨ w = 2 ∨ w = 3 ∨ w = 4 ∨ w = 5 by omega) with rfl | rfl | rfl | rfl | rfl | rfl
      · refine q_iload_n d123_0 rfl ?_
        refine n_tsI (39) 40 d123_1 (by decide) (by decide) rfl (by decide) ?_
        refine q_aload_n d123_40 rfl ?_
        refine q_getv (c := 7) (f := 2) d123_41 ⟨rfl, by decide⟩ (hS.1.1) hR.2.1 ?_
        refine q_iret d123_44 rfl ?_
        exact k _ hR (Fc.refl _)
      · refine q_iload_n d123_0 rfl ?_
        refine n_tsI (44) 45 d123_1 (by decide) (by decide) rfl (by decide) ?_
        refine q_aload_n d123_45 rfl ?_
        refine q_getr (c := 7) (f := 0) d123_46 ⟨rfl, rfl⟩ (hS.1.1) (hS.1.2.1) ?_
        refine q_getv (c := 3) (f := 1) d123_49 ⟨rfl, by decide⟩ hS.2.1.1 hR.2.2.1.2.1 ?_
        refine q_iret d123_52 rfl ?_
        exact k _ hR (Fc.refl _)
      · refine q_iload_n d123_0 rfl ?_
        refine n_tsI (52) 53 d123_1 (by decide) (by decide) rfl (by decide) ?_
        refine q_aload_n d123_53 rfl ?_
        refine q_getr (c := 7) (f := 3) d123_54 ⟨rfl, rfl⟩ (hS.1.1) (hS.1.2.2.2.2.2.1) ?_
        refine q_getv (c := 0) (f := 3) d123_57 ⟨rfl, by decide⟩ hS.2.2.2.1.1 hJ.1 ?_
        refine q_iret d123_60 rfl ?_
        exact k _ hR (Fc.refl _)
      · refine q_iload_n d123_0 rfl ?_
        refine n_tsI (60) 61 d123_1 (by decide) (by decide) rfl (by decide) ?_
        refine q_aload_n d123_61 rfl ?_
        refine q_getr (c := 7) (f := 4) d123_62 ⟨rfl, rfl⟩ (hS.1.1) (hS.1.2.2.2.2.2.2.1) ?_
        refine q_v0 d123_65 rfl rfl hwr.1 (Nat.le_of_ble_eq_true rfl) (c124 hR.1 ?_)
        refine q_iret d123_68 rfl ?_
        exact k _ hR (Fc.refl _)
      · refine q_iload_n d123_0 rfl ?_
        refine n_tsI (68) 69 d123_1 (by decide) (by decide) rfl (by decide) ?_
        refine q_aload_n d123_69 rfl ?_
        refine q_getr (c := 7) (f := 4) d123_70 ⟨rfl, rfl⟩ (hS.1.1) (hS.1.2.2.2.2.2.2.1) ?_
        refine q_getr (c := 6) (f := 2) d123_73 ⟨rfl, rfl⟩ hwr.1 hwr.2.2.2.1 ?_
        refine q_getv (c := 2) (f := 1) d123_76 ⟨rfl, by decide⟩ hpr.1 hRW.1.2.1 ?_
        refine q_iret d123_79 rfl ?_
        exact k _ hR (Fc.refl _)
      · refine q_iload_n d123_0 rfl ?_
        refine n_tsI (79) 80 d123_1 (by decide) (by decide) rfl (by decide) ?_
        refine q_aload_n d123_80 rfl ?_
        refine q_getr (c := 7) (f := 4) d123_81 ⟨rfl, rfl⟩ (hS.1.1) (hS.1.2.2.2.2.2.2.1) ?_
        refine q_getr (c := 6) (f := 2) d123_84 ⟨rfl, rfl⟩ hwr.1 hwr.2.2.2.1 ?_
        refine q_getv (c := 2) (f := 2) d123_87 ⟨rfl, by decide⟩ hpr.1 hRW.1.2.2 ?_
        refine q_iret d123_90 rfl ?_
        exact k _ hR (Fc.refl _)
    · by_cases h10 : w < 10
      · rw [if_neg (by omega), if_neg (by omega), if_neg (by omega), if_neg (by omega), if_neg (by omega), if_neg (by omega), if_pos h10] at k
        refine q_iload_n d123_0 rfl ?_
        refine n_tsO 91 d123_1 (by omega) (Or.inr (by omega)) (by decide) ?_
        refine q_iload_n d123_91 rfl ?_
        refine q_bipush (x := nI 10) d123_92 rfl ?_
        refine q_bipush (x := nI 15) d123_94 rfl ?_
        refine q_s3 d123_96 (Or.inl rfl) rfl (Nat.le_of_ble_eq_true rfl) (c10n (by omega) (by decide) (by omega) (by decide) ?_)
        refine n0_eq 120 d123_99 (by decide) (by decide) (fun _ => ?_) (fun q => absurd q (by decide))
        refine q_bipush (x := (-2)) d123_120 rfl ?_
        refine q_iret d123_122 rfl ?_
        exact k _ hR (Fc.refl _)
      · rw [if_neg (by omega), if_neg (by omega), if_neg (by omega), if_neg (by omega), if_neg (by omega), if_neg (by omega), if_neg h10] at k
        refine q_iload_n d123_0 rfl ?_
        refine n_tsO 91 d123_1 (by omega) (Or.inr (by omega)) (by decide) ?_
        refine q_iload_n d123_91 rfl ?_
        refine q_bipush (x := nI 10) d123_92 rfl ?_
        refine q_bipush (x := nI 15) d123_94 rfl ?_
        refine q_s3 d123_96 (Or.inl rfl) rfl (Nat.le_of_ble_eq_true rfl) (c10t ⟨by omega, by omega⟩ (by decide) ?_)
        refine n0_eq 120 d123_99 (by decide) (by decide) (fun q => absurd q (by decide)) (fun _ => ?_)
        refine q_aload_n d123_102 rfl ?_
        refine q_getr (c := 7) (f := 4) d123_103 ⟨rfl, rfl⟩ (hS.1.1) (hS.1.2.2.2.2.2.2.1) ?_
        refine q_getr (c := 6) (f := 2) d123_106 ⟨rfl, rfl⟩ hwr.1 hwr.2.2.2.1 ?_
        refine q_getr (c := 2) (f := 0) d123_109 ⟨rfl, rfl⟩ hpr.1 hpr.2.1 ?_
        refine q_iload_n d123_112 rfl ?_
        refine q_bipush (x := nI 10) d123_113 rfl ?_
        refine n_isub d123_115 (by omega) ?_
        refine n_iald d123_116 hpr.2.2 (by omega) (by decide) (hRW.1.1 _ (by omega)) ?_
        refine q_goto 122 d123_117 (by decide) ?_
        refine q_iret d123_122 rfl ?_
        exact k _ hR (Fc.refl _)
  · rw [oz_n ew] at k
    refine q_iload_n d123_0 rfl ?_
    refine q_tsO 91 d123_1 (by have := zix_none ew; omega) (by decide) ?_
    refine q_iload_n d123_91 rfl ?_
    refine q_bipush (x := nI 10) d123_92 rfl ?_
    refine q_bipush (x := nI 15) d123_94 rfl ?_
    refine q_s3 d123_96 (Or.inl rfl) rfl (Nat.le_of_ble_eq_true rfl) (c10f (by decide) (by omega) (by decide) ?_)
    refine n0_eq 120 d123_99 (by decide) (by decide) (fun _ => ?_) (fun q => absurd q (by decide))
    refine q_bipush (x := (-2)) d123_120 rfl ?_
    refine q_iret d123_122 rfl ?_
    exact k _ hR (Fc.refl _)
