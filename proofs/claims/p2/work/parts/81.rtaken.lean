/-! ===== the reference: taken ===== -/
theorem d166_0 : decode (zB 166) 0 = .ok (.aload_n 0, 1) := by decide +kernel
theorem d166_1 : decode (zB 166) 1 = .ok (.iload_n 1, 1) := by decide +kernel
theorem d166_2 : decode (zB 166) 2 = .ok (.invokevirtual 243, 3) := by decide +kernel
theorem d166_5 : decode (zB 166) 5 = .ok (.ifCond .eq 23, 3) := by decide +kernel
theorem d166_8 : decode (zB 166) 8 = .ok (.iload_n 2, 1) := by decide +kernel
theorem d166_9 : decode (zB 166) 9 = .ok (.iconst 0, 1) := by decide +kernel
theorem d166_10 : decode (zB 166) 10 = .ok (.aload_n 0, 1) := by decide +kernel
theorem d166_11 : decode (zB 166) 11 = .ok (.getfield 9, 3) := by decide +kernel
theorem d166_14 : decode (zB 166) 14 = .ok (.iload_n 1, 1) := by decide +kernel
theorem d166_15 : decode (zB 166) 15 = .ok (.iaload, 1) := by decide +kernel
theorem d166_16 : decode (zB 166) 16 = .ok (.iconst 1, 1) := by decide +kernel
theorem d166_17 : decode (zB 166) 17 = .ok (.isub, 1) := by decide +kernel
theorem d166_18 : decode (zB 166) 18 = .ok (.invokestatic 112, 3) := by decide +kernel
theorem d166_21 : decode (zB 166) 21 = .ok (.ifCond .eq 7, 3) := by decide +kernel
theorem d166_24 : decode (zB 166) 24 = .ok (.iconst 1, 1) := by decide +kernel
theorem d166_25 : decode (zB 166) 25 = .ok (.goto 4, 3) := by decide +kernel
theorem d166_28 : decode (zB 166) 28 = .ok (.iconst 0, 1) := by decide +kernel
theorem d166_29 : decode (zB 166) 29 = .ok (.ireturn, 1) := by decide +kernel
theorem c166t {d : Nat} {M : zM} {Q : Option Value → zM → Prop} {D : yD} {κ t i : Nat} (hR : RX M D κ) (ht : t < dc D) (hi : i < tn (dT D t)) (k : Q (some (.int (nI 1))) M) : qC (d + 3) 166 [.ref 136, .int (nI t), .int (nI i)] M Q := by
  refine qC_of (by decide) (Nat.le_of_ble_eq_true rfl) ?_
  have hC := hR.1
  have hX := hC.1
  have hO : OKW (dT D) (dc D) (dW D) := hC.2.2.1
  have hc6 := hO.1.1
  have hL : XLo [] M (some (dL D)) := hC.2.2.2.2.2.2.1
  have hSa : ∀ s, s < 3 → XSa M s (dS D s) κ := hC.2.2.2.2.1
  have hTk := hC.k
  have hck := hC.2.2.2.2.2.1
  have hn := (hO.1.2 _ ht).n
  refine q_aload_n d166_0 rfl ?_
  refine q_iload_n d166_1 rfl ?_
  refine q_v1 d166_2 rfl rfl (xk_136 hX) (Nat.le_of_ble_eq_true rfl) (c145t hR (by omega) ?_)
  refine n0_eq 28 d166_5 (by decide) (by decide) (fun q => absurd q (by decide)) (fun _ => ?_)
  refine q_iload_n d166_8 rfl ?_
  refine q_iconstN (z := 0) d166_9 ?_
  refine q_aload_n d166_10 rfl ?_
  refine q_getr (c := 8) (f := 1) d166_11 ⟨rfl, rfl⟩ (xk_136 hX) (xf_stepMany hX) ?_
  refine q_iload_n d166_14 rfl ?_
  refine n_iald d166_15 (xk_stepMany hX) (by omega) (by decide) (hTk.1 _ (by omega)).1 ?_
  refine q_iconstN (z := 1) d166_16 ?_
  refine q_isub d166_17 ?_
  refine q_s3 d166_18 (Or.inl rfl) rfl (Nat.le_of_ble_eq_true rfl) (c131st (by omega) (by omega) ?_)
  refine n0_eq 28 d166_21 (by decide) (by decide) (fun q => absurd q (by decide)) (fun _ => ?_)
  refine q_iconstN (z := 1) d166_24 ?_
  refine q_goto 29 d166_25 (by decide) ?_
  refine q_zret d166_29 rfl (by decide) ?_
  exact k
theorem c166f {d : Nat} {M : zM} {Q : Option Value → zM → Prop} {D : yD} {κ t : Nat} {y : Int32} (hR : RX M D κ) (ht : t < dc D) (ey : zix y (tn (dT D t)) = none) (k : Q (some (.int (nI 0))) M) : qC (d + 3) 166 [.ref 136, .int (nI t), .int y] M Q := by
  refine qC_of (by decide) (Nat.le_of_ble_eq_true rfl) ?_
  have hC := hR.1
  have hX := hC.1
  have hO : OKW (dT D) (dc D) (dW D) := hC.2.2.1
  have hc6 := hO.1.1
  have hL : XLo [] M (some (dL D)) := hC.2.2.2.2.2.2.1
  have hSa : ∀ s, s < 3 → XSa M s (dS D s) κ := hC.2.2.2.2.1
  have hTk := hC.k
  have hck := hC.2.2.2.2.2.1
  have hn := (hO.1.2 _ ht).n
  refine q_aload_n d166_0 rfl ?_
  refine q_iload_n d166_1 rfl ?_
  refine q_v1 d166_2 rfl rfl (xk_136 hX) (Nat.le_of_ble_eq_true rfl) (c145t hR (by omega) ?_)
  refine n0_eq 28 d166_5 (by decide) (by decide) (fun q => absurd q (by decide)) (fun _ => ?_)
  refine q_iload_n d166_8 rfl ?_
  refine q_iconstN (z := 0) d166_9 ?_
  refine q_aload_n d166_10 rfl ?_
  refine q_getr (c := 8) (f := 1) d166_11 ⟨rfl, rfl⟩ (xk_136 hX) (xf_stepMany hX) ?_
  refine q_iload_n d166_14 rfl ?_
  refine n_iald d166_15 (xk_stepMany hX) (by omega) (by decide) (hTk.1 _ (by omega)).1 ?_
  refine q_iconstN (z := 1) d166_16 ?_
  refine q_isub d166_17 ?_
  refine q_s3 d166_18 (Or.inl rfl) rfl (Nat.le_of_ble_eq_true rfl) (c131sf ey (by omega) ?_)
  refine n0_eq 28 d166_21 (by decide) (by decide) (fun _ => ?_) (fun q => absurd q (by decide))
  refine q_iconstN (z := 0) d166_28 ?_
  refine q_zret d166_29 rfl (by decide) ?_
  exact k
theorem c166x {d : Nat} {M : zM} {Q : Option Value → zM → Prop} {D : yD} {κ : Nat} {x y : Int32} (hR : RX M D κ) (ex : zix x (dc D) = none) (k : Q (some (.int (nI 0))) M) : qC (d + 3) 166 [.ref 136, .int x, .int y] M Q := by
  refine qC_of (by decide) (Nat.le_of_ble_eq_true rfl) ?_
  have hC := hR.1
  have hX := hC.1
  have hO : OKW (dT D) (dc D) (dW D) := hC.2.2.1
  have hc6 := hO.1.1
  have hL : XLo [] M (some (dL D)) := hC.2.2.2.2.2.2.1
  have hSa : ∀ s, s < 3 → XSa M s (dS D s) κ := hC.2.2.2.2.1
  have hTk := hC.k
  have hck := hC.2.2.2.2.2.1
  refine q_aload_n d166_0 rfl ?_
  refine q_iload_n d166_1 rfl ?_
  refine q_v1 d166_2 rfl rfl (xk_136 hX) (Nat.le_of_ble_eq_true rfl) (c145f hR ex ?_)
  refine n0_eq 28 d166_5 (by decide) (by decide) (fun _ => ?_) (fun q => absurd q (by decide))
  refine q_iconstN (z := 0) d166_28 ?_
  refine q_zret d166_29 rfl (by decide) ?_
  exact k
theorem d167_0 : decode (zB 167) 0 = .ok (.aload_n 0, 1) := by decide +kernel
theorem d167_1 : decode (zB 167) 1 = .ok (.iload_n 1, 1) := by decide +kernel
theorem d167_2 : decode (zB 167) 2 = .ok (.iload_n 2, 1) := by decide +kernel
theorem d167_3 : decode (zB 167) 3 = .ok (.invokevirtual 264, 3) := by decide +kernel
theorem d167_6 : decode (zB 167) 6 = .ok (.ifCond .eq 12, 3) := by decide +kernel
theorem d167_9 : decode (zB 167) 9 = .ok (.iload_n 3, 1) := by decide +kernel
theorem d167_10 : decode (zB 167) 10 = .ok (.iconst 0, 1) := by decide +kernel
theorem d167_11 : decode (zB 167) 11 = .ok (.iconst 5, 1) := by decide +kernel
theorem d167_12 : decode (zB 167) 12 = .ok (.invokestatic 112, 3) := by decide +kernel
theorem d167_15 : decode (zB 167) 15 = .ok (.ifCond .ne 6, 3) := by decide +kernel
theorem d167_18 : decode (zB 167) 18 = .ok (.bipush (-2), 2) := by decide +kernel
theorem d167_20 : decode (zB 167) 20 = .ok (.ireturn, 1) := by decide +kernel
theorem d167_21 : decode (zB 167) 21 = .ok (.aload_n 0, 1) := by decide +kernel
theorem d167_22 : decode (zB 167) 22 = .ok (.getfield 18, 3) := by decide +kernel
theorem d167_25 : decode (zB 167) 25 = .ok (.iload_n 1, 1) := by decide +kernel
theorem d167_26 : decode (zB 167) 26 = .ok (.aaload, 1) := by decide +kernel
theorem d167_27 : decode (zB 167) 27 = .ok (.iload_n 2, 1) := by decide +kernel
theorem d167_28 : decode (zB 167) 28 = .ok (.iaload, 1) := by decide +kernel
theorem d167_29 : decode (zB 167) 29 = .ok (.istore 4, 2) := by decide +kernel
theorem d167_31 : decode (zB 167) 31 = .ok (.iload_n 3, 1) := by decide +kernel
theorem d167_32 : decode (zB 167) 32 = .ok (.ifCond .eq 31, 3) := by decide +kernel
theorem d167_35 : decode (zB 167) 35 = .ok (.iload_n 3, 1) := by decide +kernel
theorem d167_36 : decode (zB 167) 36 = .ok (.iload 4, 2) := by decide +kernel
theorem d167_38 : decode (zB 167) 38 = .ok (.if_icmp .eq 25, 3) := by decide +kernel
theorem d167_41 : decode (zB 167) 41 = .ok (.iload_n 3, 1) := by decide +kernel
theorem d167_42 : decode (zB 167) 42 = .ok (.iconst 1, 1) := by decide +kernel
theorem d167_43 : decode (zB 167) 43 = .ok (.if_icmp .ne 9, 3) := by decide +kernel
theorem d167_46 : decode (zB 167) 46 = .ok (.iload 4, 2) := by decide +kernel
theorem d167_48 : decode (zB 167) 48 = .ok (.iconst 3, 1) := by decide +kernel
theorem d167_49 : decode (zB 167) 49 = .ok (.if_icmp .eq 14, 3) := by decide +kernel
theorem d167_52 : decode (zB 167) 52 = .ok (.iload_n 3, 1) := by decide +kernel
theorem d167_53 : decode (zB 167) 53 = .ok (.iconst 2, 1) := by decide +kernel
theorem d167_54 : decode (zB 167) 54 = .ok (.if_icmp .ne 14, 3) := by decide +kernel
theorem d167_57 : decode (zB 167) 57 = .ok (.iload 4, 2) := by decide +kernel
theorem d167_59 : decode (zB 167) 59 = .ok (.iconst 4, 1) := by decide +kernel
theorem d167_60 : decode (zB 167) 60 = .ok (.if_icmp .ne 8, 3) := by decide +kernel
theorem d167_63 : decode (zB 167) 63 = .ok (.iload 4, 2) := by decide +kernel
theorem d167_65 : decode (zB 167) 65 = .ok (.goto 5, 3) := by decide +kernel
theorem d167_68 : decode (zB 167) 68 = .ok (.bipush (-13), 2) := by decide +kernel
theorem d167_70 : decode (zB 167) 70 = .ok (.ireturn, 1) := by decide +kernel
theorem x167 {d : Nat} {M : zM} {Q : Option Value → zM → Prop} {D : yD} {κ : Nat} {x y z : Int32} (hR : RX M D κ) (hD : OKD D) (hκ : κ + 4000 < 2147483648) (k : ∀ M', RX M' D κ → Fi FY M M' → Q (some (.int (sTaken D x y z))) M') : qC (d + 4) 167 [.ref 136, .int x, .int y, .int z] M Q := by
  refine qC_of (by decide) (Nat.le_of_ble_eq_true rfl) ?_
  have hC := hR.1
  have hX := hC.1
  have hO : OKW (dT D) (dc D) (dW D) := hC.2.2.1
  have hc6 := hO.1.1
  have hL : XLo [] M (some (dL D)) := hC.2.2.2.2.2.2.1
  have hSa : ∀ s, s < 3 → XSa M s (dS D s) κ := hC.2.2.2.2.1
  have hTk := hC.k
  have hck := hC.2.2.2.2.2.1
  have h240 := hD.2.1
  unfold sTaken at k
  rcases zix_c x (n := dc D) (by omega) with ⟨t, ht, rfl, et⟩ | ⟨et, nt⟩
  · rw [oz_s et] at k
    have ho := hO.1.2 _ ht
    have hn := ho.n
    rcases zix_c y (n := tn (dT D t)) (by omega) with ⟨i, hi, rfl, ei⟩ | ⟨ei, ni⟩
    · rw [oz_s ei] at k
      rcases zix_c z (n := 6) (by omega) with ⟨w, hw, rfl, ew⟩ | ⟨ew, nw⟩
      · rw [oz_s ew] at k
        refine q_aload_n d167_0 rfl ?_
        refine q_iload_n d167_1 rfl ?_
        refine q_iload_n d167_2 rfl ?_
        refine q_v2 d167_3 rfl rfl (xk_136 hX) (Nat.le_of_ble_eq_true rfl) (c166t hR (by omega) (by omega) ?_)
        refine n0_eq 18 d167_6 (by decide) (by decide) (fun q => absurd q (by decide)) (fun _ => ?_)
        refine q_iload_n d167_9 rfl ?_
        refine q_iconstN (z := 0) d167_10 ?_
        refine q_iconstN (z := 5) d167_11 ?_
        refine q_s3 d167_12 (Or.inl rfl) rfl (Nat.le_of_ble_eq_true rfl) (c131t ⟨by omega, by omega⟩ (by omega) ?_)
        refine n0_ne 21 d167_15 (by decide) (by decide) (fun _ => ?_) (fun q => absurd q (by decide))
        refine q_aload_n d167_21 rfl ?_
        refine q_getr (c := 8) (f := 3) d167_22 ⟨rfl, rfl⟩ (xk_136 hX) (xf_kinds hX) ?_
        refine q_iload_n d167_25 rfl ?_
        refine n_aald d167_26 (xk_kinds hX) (by decide) (by omega) (by decide) (xr_kinds hX (by omega)) ?_
        refine q_iload_n d167_27 rfl ?_
        refine n_iald d167_28 (xa_kinds hX (by omega)) (by omega) (by decide) ((hTk.1 _ ht).2.2 _ hi).1 ?_
        have hk6 := ho.k hi
        refine q_istore d167_29 (by decide) rfl ?_
        refine q_iload_n d167_31 rfl ?_
        refine n0_eq 63 d167_32 (by decide) (by omega) (fun h32 => ?_) (fun h32 => ?_)
        · refine q_iload d167_63 rfl ?_
          refine q_goto 70 d167_65 (by decide) ?_
          refine q_iret d167_70 rfl ?_
          first
          | (rw [if_pos (show yundr (tk (dT D t) i) w = true by unfold yundr; simp; omega)] at k; exact k _ hR (Fi.refl _ _))
          | (rw [if_neg (show ¬ yundr (tk (dT D t) i) w = true by unfold yundr; simp; omega)] at k; exact k _ hR (Fi.refl _ _))
        · refine q_iload_n d167_35 rfl ?_
          refine q_iload d167_36 rfl ?_
          refine nc_eq 63 d167_38 (by decide) (by omega) (by omega) (fun h38 => ?_) (fun h38 => ?_)
          · refine q_iload d167_63 rfl ?_
            refine q_goto 70 d167_65 (by decide) ?_
            refine q_iret d167_70 rfl ?_
            first
            | (rw [if_pos (show yundr (tk (dT D t) i) w = true by unfold yundr; simp; omega)] at k; exact k _ hR (Fi.refl _ _))
            | (rw [if_neg (show ¬ yundr (tk (dT D t) i) w = true by unfold yundr; simp; omega)] at k; exact k _ hR (Fi.refl _ _))
          · refine q_iload_n d167_41 rfl ?_
            refine q_iconstN (z := 1) d167_42 ?_
            refine nc_ne 52 d167_43 (by decide) (by omega) (by omega) (fun h43 => ?_) (fun h43 => ?_)
            · refine q_iload_n d167_52 rfl ?_
              refine q_iconstN (z := 2) d167_53 ?_
              refine nc_ne 68 d167_54 (by decide) (by omega) (by omega) (fun h54 => ?_) (fun h54 => ?_)
              · refine q_bipush (x := (-13)) d167_68 rfl ?_
                refine q_iret d167_70 rfl ?_
                first
                | (rw [if_pos (show yundr (tk (dT D t) i) w = true by unfold yundr; simp; omega)] at k; exact k _ hR (Fi.refl _ _))
                | (rw [if_neg (show ¬ yundr (tk (dT D t) i) w = true by unfold yundr; simp; omega)] at k; exact k _ hR (Fi.refl _ _))
              · refine q_iload d167_57 rfl ?_
                refine q_iconstN (z := 4) d167_59 ?_
                refine nc_ne 68 d167_60 (by decide) (by omega) (by omega) (fun h60 => ?_) (fun h60 => ?_)
                · refine q_bipush (x := (-13)) d167_68 rfl ?_
                  refine q_iret d167_70 rfl ?_
                  first
                  | (rw [if_pos (show yundr (tk (dT D t) i) w = true by unfold yundr; simp; omega)] at k; exact k _ hR (Fi.refl _ _))
                  | (rw [if_neg (show ¬ yundr (tk (dT D t) i) w = true by unfold yundr; simp; omega)] at k; exact k _ hR (Fi.refl _ _))
                · refine q_iload d167_63 rfl ?_
                  refine q_goto 70 d167_65 (by decide) ?_
                  refine q_iret d167_70 rfl ?_
                  first
                  | (rw [if_pos (show yundr (tk (dT D t) i) w = true by unfold yundr; simp; omega)] at k; exact k _ hR (Fi.refl _ _))
                  | (rw [if_neg (show ¬ yundr (tk (dT D t) i) w = true by unfold yundr; simp; omega)] at k; exact k _ hR (Fi.refl _ _))
            · refine q_iload d167_46 rfl ?_
              refine q_iconstN (z := 3) d167_48 ?_
              refine nc_eq 63 d167_49 (by decide) (by omega) (by omega) (fun h49 => ?_) (fun h49 => ?_)
              · refine q_iload d167_63 rfl ?_
                refine q_goto 70 d167_65 (by decide) ?_
                refine q_iret d167_70 rfl ?_
                first
                | (rw [if_pos (show yundr (tk (dT D t) i) w = true by unfold yundr; simp; omega)] at k; exact k _ hR (Fi.refl _ _))
                | (rw [if_neg (show ¬ yundr (tk (dT D t) i) w = true by unfold yundr; simp; omega)] at k; exact k _ hR (Fi.refl _ _))
              · refine q_iload_n d167_52 rfl ?_
                refine q_iconstN (z := 2) d167_53 ?_
                refine nc_ne 68 d167_54 (by decide) (by omega) (by omega) (fun h54 => ?_) (fun h54 => ?_)
                · refine q_bipush (x := (-13)) d167_68 rfl ?_
                  refine q_iret d167_70 rfl ?_
                  first
                  | (rw [if_pos (show yundr (tk (dT D t) i) w = true by unfold yundr; simp; omega)] at k; exact k _ hR (Fi.refl _ _))
                  | (rw [if_neg (show ¬ yundr (tk (dT D t) i) w = true by unfold yundr; simp; omega)] at k; exact k _ hR (Fi.refl _ _))
                · refine q_iload d167_57 rfl ?_
                  refine q_iconstN (z := 4) d167_59 ?_
                  refine nc_ne 68 d167_60 (by decide) (by omega) (by omega) (fun h60 => ?_) (fun h60 => ?_)
                  · refine q_bipush (x := (-13)) d167_68 rfl ?_
                    refine q_iret d167_70 rfl ?_
                    first
                    | (rw [if_pos (show yundr (tk (dT D t) i) w = true by unfold yundr; simp; omega)] at k; exact k _ hR (Fi.refl _ _))
                    | (rw [if_neg (show ¬ yundr (tk (dT D t) i) w = true by unfold yundr; simp; omega)] at k; exact k _ hR (Fi.refl _ _))
                  · refine q_iload d167_63 rfl ?_
                    refine q_goto 70 d167_65 (by decide) ?_
                    refine q_iret d167_70 rfl ?_
                    first
                    | (rw [if_pos (show yundr (tk (dT D t) i) w = true by unfold yundr; simp; omega)] at k; exact k _ hR (Fi.refl _ _))
                    | (rw [if_neg (show ¬ yundr (tk (dT D t) i) w = true by unfold yundr; simp; omega)] at k; exact k _ hR (Fi.refl _ _))
      · rw [oz_n ew] at k
        refine q_aload_n d167_0 rfl ?_
        refine q_iload_n d167_1 rfl ?_
        refine q_iload_n d167_2 rfl ?_
        refine q_v2 d167_3 rfl rfl (xk_136 hX) (Nat.le_of_ble_eq_true rfl) (c166t hR (by omega) (by omega) ?_)
        refine n0_eq 18 d167_6 (by decide) (by decide) (fun q => absurd q (by decide)) (fun _ => ?_)
        refine q_iload_n d167_9 rfl ?_
        refine q_iconstN (z := 0) d167_10 ?_
        refine q_iconstN (z := 5) d167_11 ?_
        refine q_s3 d167_12 (Or.inl rfl) rfl (Nat.le_of_ble_eq_true rfl) (c131f (by decide) (by have := zix_none ew; omega) (by decide) ?_)
        refine n0_ne 21 d167_15 (by decide) (by decide) (fun q => absurd q (by decide)) (fun _ => ?_)
        refine q_bipush (x := (-2)) d167_18 rfl ?_
        refine q_iret d167_20 rfl ?_
        exact k _ hR (Fi.refl _ _)
    · rw [oz_n ei] at k
      refine q_aload_n d167_0 rfl ?_
      refine q_iload_n d167_1 rfl ?_
      refine q_iload_n d167_2 rfl ?_
      refine q_v2 d167_3 rfl rfl (xk_136 hX) (Nat.le_of_ble_eq_true rfl) (c166f hR (by omega) ei ?_)
      refine n0_eq 18 d167_6 (by decide) (by decide) (fun _ => ?_) (fun q => absurd q (by decide))
      refine q_bipush (x := (-2)) d167_18 rfl ?_
      refine q_iret d167_20 rfl ?_
      exact k _ hR (Fi.refl _ _)
  · rw [oz_n et] at k
    refine q_aload_n d167_0 rfl ?_
    refine q_iload_n d167_1 rfl ?_
    refine q_iload_n d167_2 rfl ?_
    refine q_v2 d167_3 rfl rfl (xk_136 hX) (Nat.le_of_ble_eq_true rfl) (c166x hR et ?_)
    refine n0_eq 18 d167_6 (by decide) (by decide) (fun _ => ?_) (fun q => absurd q (by decide))
    refine q_bipush (x := (-2)) d167_18 rfl ?_
    refine q_iret d167_20 rfl ?_
    exact k _ hR (Fi.refl _ _)
