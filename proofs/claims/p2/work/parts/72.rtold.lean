/-! ===== the reference: breaks, told ===== -/
theorem d196_0 : decode (zB 196) 0 = .ok (.iload_n 1, 1) := by decide +kernel
theorem d196_1 : decode (zB 196) 1 = .ok (.iconst 0, 1) := by decide +kernel
theorem d196_2 : decode (zB 196) 2 = .ok (.aload_n 0, 1) := by decide +kernel
theorem d196_3 : decode (zB 196) 3 = .ok (.getfield 301, 3) := by decide +kernel
theorem d196_6 : decode (zB 196) 6 = .ok (.invokestatic 112, 3) := by decide +kernel
theorem d196_9 : decode (zB 196) 9 = .ok (.ifCond .ne 6, 3) := by decide +kernel
theorem d196_12 : decode (zB 196) 12 = .ok (.bipush (-2), 2) := by decide +kernel
theorem d196_14 : decode (zB 196) 14 = .ok (.ireturn, 1) := by decide +kernel
theorem d196_15 : decode (zB 196) 15 = .ok (.aload_n 0, 1) := by decide +kernel
theorem d196_16 : decode (zB 196) 16 = .ok (.getfield 301, 3) := by decide +kernel
theorem d196_19 : decode (zB 196) 19 = .ok (.iload_n 1, 1) := by decide +kernel
theorem d196_20 : decode (zB 196) 20 = .ok (.isub, 1) := by decide +kernel
theorem d196_21 : decode (zB 196) 21 = .ok (.istore_n 2, 1) := by decide +kernel
theorem d196_22 : decode (zB 196) 22 = .ok (.aload_n 0, 1) := by decide +kernel
theorem d196_23 : decode (zB 196) 23 = .ok (.iload_n 1, 1) := by decide +kernel
theorem d196_24 : decode (zB 196) 24 = .ok (.putfield 301, 3) := by decide +kernel
theorem d196_27 : decode (zB 196) 27 = .ok (.aload_n 0, 1) := by decide +kernel
theorem d196_28 : decode (zB 196) 28 = .ok (.iload_n 1, 1) := by decide +kernel
theorem d196_29 : decode (zB 196) 29 = .ok (.invokevirtual 366, 3) := by decide +kernel
theorem d196_32 : decode (zB 196) 32 = .ok (.iload_n 2, 1) := by decide +kernel
theorem d196_33 : decode (zB 196) 33 = .ok (.ireturn, 1) := by decide +kernel
theorem x196 {d : Nat} {M : zM} {Q : Option Value → zM → Prop} {D : yD} {κ : Nat} {x : Int32} (hR : RX M D κ) (hD : OKD D) (hκ : κ + 4000 < 2147483648) (k : ∀ M' κ', κ' ≤ κ + 240 → RX M' (sBreaks D x).2 κ' → Fi FY M M' → Q (some (.int (sBreaks D x).1)) M') : qC (d + 6) 196 [.ref 136, .int x] M Q := by
  refine qC_of (by decide) (Nat.le_of_ble_eq_true rfl) ?_
  have hC := hR.1
  have hX := hC.1
  have hO : OKW (dT D) (dc D) (dW D) := hC.2.2.1
  have hc6 := hO.1.1
  have hL : XLo [] M (some (dL D)) := hC.2.2.2.2.2.2.1
  have hSa : ∀ s, s < 3 → XSa M s (dS D s) κ := hC.2.2.2.2.1
  have hTk := hC.k
  have hck := hC.2.2.2.2.2.1
  have h240 := hD.2.1
  unfold sBreaks at k
  rcases zix_c x (n := (dL D).length + 1) (by omega) with ⟨n, hn, rfl, en⟩ | ⟨en, nn⟩
  · rw [oz_s en] at k
    refine q_iload_n d196_0 rfl ?_
    refine q_iconstN (z := 0) d196_1 ?_
    refine q_aload_n d196_2 rfl ?_
    refine q_getv (c := 8) (f := 24) d196_3 ⟨rfl, by decide⟩ (xk_136 hX) hL.2.1 ?_
    refine q_s3 d196_6 (Or.inl rfl) rfl (Nat.le_of_ble_eq_true rfl) (c131t ⟨by omega, by omega⟩ (by omega) ?_)
    refine n0_ne 15 d196_9 (by decide) (by decide) (fun _ => ?_) (fun q => absurd q (by decide))
    refine q_aload_n d196_15 rfl ?_
    refine q_getv (c := 8) (f := 24) d196_16 ⟨rfl, by decide⟩ (xk_136 hX) hL.2.1 ?_
    refine q_iload_n d196_19 rfl ?_
    refine n_isub d196_20 (by omega) ?_
    refine q_istore_n d196_21 (by decide) rfl ?_
    refine q_aload_n d196_22 rfl ?_
    refine q_iload_n d196_23 rfl ?_
    refine q_puti (c := 8) (f := 24) d196_24 ⟨rfl, rfl, by decide⟩ (xk_136 hX) ?_
    refine q_aload_n d196_27 rfl ?_
    refine q_iload_n d196_28 rfl ?_
    have hlt : ((dL D).take n).length = n := by rw [List.length_take]; omega
    have f1 : Fi GL M (zwi M 136 24 (nI n)) := (Fi.refl _ _).wi (by unfold GL; omega)
    have hX1 := SX_fi hX f1
    have hL1 : XLg (zwi M 136 24 (nI n)) ((dL D).take n) := by
      refine ⟨by rw [wi_s, hlt], fun q hq => ?_⟩
      rw [hlt] at hq
      have h3 := hL.2.2 q (by omega)
      rw [List.getD_eq_getElem?_getD, List.getElem?_take_of_lt hq, ← List.getD_eq_getElem?_getD, wi_n (Or.inl (by omega)), wi_n (Or.inl (by omega)), wi_n (Or.inl (by omega))]
      exact h3
    have hT1 := XTx_fi hTk.1 hc6 f1 (fun b k b1 b2 q => by unfold GL at q; omega)
    refine q_v1 d196_29 rfl rfl (xk_136 hX) (Nat.le_of_ble_eq_true rfl) (c193 (κ := κ) (L := (dL D).take n) (n := n) hX1 hT1 hO.1 hL1 (by omega) (by omega) (yva_take hD.2.2.1) ((f1.1 _ _ (by unfold GL; omega)).trans hck) (by omega) (fun M2 κ2 hk2 hW2 f2 => ?_))
    refine q_iload_n d196_32 rfl ?_
    refine q_iret d196_33 rfl ?_
    rw [List.take_take, Nat.min_self] at hW2
    have fz : Fi FWd M M2 := (f1.mono (fun b k q => by unfold GL at q; unfold FWd; omega)).trans (f2.mono (fun b k q => FB_W q))
    exact k _ κ2 hk2 (hR.up fz hW2.2.2.1 hW2.2.2.2.1 hW2.2.2.2.2.1 hW2.2.2.2.2.2 ⟨(f2.1 _ _ (by unfold FB; omega)).trans ((f1.1 _ _ (by unfold GL; omega)).trans hL.1), XLg_fb hL1 f2⟩) (fz.mono (fun b k q => FWd_Y q))
  · rw [oz_n en] at k
    refine q_iload_n d196_0 rfl ?_
    refine q_iconstN (z := 0) d196_1 ?_
    refine q_aload_n d196_2 rfl ?_
    refine q_getv (c := 8) (f := 24) d196_3 ⟨rfl, by decide⟩ (xk_136 hX) hL.2.1 ?_
    refine q_s3 d196_6 (Or.inl rfl) rfl (Nat.le_of_ble_eq_true rfl) (c131g en (by omega) ?_)
    refine n0_ne 15 d196_9 (by decide) (by decide) (fun q => absurd q (by decide)) (fun _ => ?_)
    refine q_bipush (x := (-2)) d196_12 rfl ?_
    refine q_iret d196_14 rfl ?_
    exact k _ κ (Nat.le_add_right _ _) hR (Fi.refl _ _)
theorem d186_0 : decode (zB 186) 0 = .ok (.iload_n 1, 1) := by decide +kernel
theorem d186_1 : decode (zB 186) 1 = .ok (.invokestatic 345, 3) := by decide +kernel
theorem d186_4 : decode (zB 186) 4 = .ok (.ifCond .eq 13, 3) := by decide +kernel
theorem d186_7 : decode (zB 186) 7 = .ok (.iload_n 2, 1) := by decide +kernel
theorem d186_8 : decode (zB 186) 8 = .ok (.iconst 0, 1) := by decide +kernel
theorem d186_9 : decode (zB 186) 9 = .ok (.bipush 7, 2) := by decide +kernel
theorem d186_11 : decode (zB 186) 11 = .ok (.invokestatic 112, 3) := by decide +kernel
theorem d186_14 : decode (zB 186) 14 = .ok (.ifCond .ne 6, 3) := by decide +kernel
theorem d186_17 : decode (zB 186) 17 = .ok (.bipush (-2), 2) := by decide +kernel
theorem d186_19 : decode (zB 186) 19 = .ok (.ireturn, 1) := by decide +kernel
theorem d186_20 : decode (zB 186) 20 = .ok (.iload_n 2, 1) := by decide +kernel
theorem d186_21 : decode (zB 186) 21 = .ok (.tableswitch 87 0 7 #[47, 54, 87, 87, 87, 61, 67, 81], 47) := by decide +kernel
theorem d186_68 : decode (zB 186) 68 = .ok (.aload_n 0, 1) := by decide +kernel
theorem d186_69 : decode (zB 186) 69 = .ok (.getfield 36, 3) := by decide +kernel
theorem d186_72 : decode (zB 186) 72 = .ok (.iload_n 1, 1) := by decide +kernel
theorem d186_73 : decode (zB 186) 73 = .ok (.iaload, 1) := by decide +kernel
theorem d186_74 : decode (zB 186) 74 = .ok (.ireturn, 1) := by decide +kernel
theorem d186_75 : decode (zB 186) 75 = .ok (.aload_n 0, 1) := by decide +kernel
theorem d186_76 : decode (zB 186) 76 = .ok (.getfield 39, 3) := by decide +kernel
theorem d186_79 : decode (zB 186) 79 = .ok (.iload_n 1, 1) := by decide +kernel
theorem d186_80 : decode (zB 186) 80 = .ok (.iaload, 1) := by decide +kernel
theorem d186_81 : decode (zB 186) 81 = .ok (.ireturn, 1) := by decide +kernel
theorem d186_82 : decode (zB 186) 82 = .ok (.aload_n 0, 1) := by decide +kernel
theorem d186_83 : decode (zB 186) 83 = .ok (.iload_n 1, 1) := by decide +kernel
theorem d186_84 : decode (zB 186) 84 = .ok (.invokevirtual 336, 3) := by decide +kernel
theorem d186_87 : decode (zB 186) 87 = .ok (.ireturn, 1) := by decide +kernel
theorem d186_88 : decode (zB 186) 88 = .ok (.aload_n 0, 1) := by decide +kernel
theorem d186_89 : decode (zB 186) 89 = .ok (.iload_n 1, 1) := by decide +kernel
theorem d186_90 : decode (zB 186) 90 = .ok (.invokevirtual 320, 3) := by decide +kernel
theorem d186_93 : decode (zB 186) 93 = .ok (.ifCond .eq 7, 3) := by decide +kernel
theorem d186_96 : decode (zB 186) 96 = .ok (.iconst 1, 1) := by decide +kernel
theorem d186_97 : decode (zB 186) 97 = .ok (.goto 4, 3) := by decide +kernel
theorem d186_100 : decode (zB 186) 100 = .ok (.iconst 0, 1) := by decide +kernel
theorem d186_101 : decode (zB 186) 101 = .ok (.ireturn, 1) := by decide +kernel
theorem d186_102 : decode (zB 186) 102 = .ok (.aload_n 0, 1) := by decide +kernel
theorem d186_103 : decode (zB 186) 103 = .ok (.iload_n 1, 1) := by decide +kernel
theorem d186_104 : decode (zB 186) 104 = .ok (.invokevirtual 327, 3) := by decide +kernel
theorem d186_107 : decode (zB 186) 107 = .ok (.ireturn, 1) := by decide +kernel
theorem d186_108 : decode (zB 186) 108 = .ok (.aload_n 0, 1) := by decide +kernel
theorem d186_109 : decode (zB 186) 109 = .ok (.iload_n 1, 1) := by decide +kernel
theorem d186_110 : decode (zB 186) 110 = .ok (.iload_n 2, 1) := by decide +kernel
theorem d186_111 : decode (zB 186) 111 = .ok (.iconst 1, 1) := by decide +kernel
theorem d186_112 : decode (zB 186) 112 = .ok (.isub, 1) := by decide +kernel
theorem d186_113 : decode (zB 186) 113 = .ok (.invokevirtual 304, 3) := by decide +kernel
theorem d186_116 : decode (zB 186) 116 = .ok (.ireturn, 1) := by decide +kernel
theorem x186 {d : Nat} {M : zM} {Q : Option Value → zM → Prop} {D : yD} {κ : Nat} {x y : Int32} (hR : RX M D κ) (hD : OKD D) (hκ : κ + 4000 < 2147483648) (k : ∀ M', RX M' D κ → Fi FY M M' → Q (some (.int (sTold D x y))) M') : qC (d + 3) 186 [.ref 136, .int x, .int y] M Q := by
  refine qC_of (by decide) (Nat.le_of_ble_eq_true rfl) ?_
  have hC := hR.1
  have hX := hC.1
  have hO : OKW (dT D) (dc D) (dW D) := hC.2.2.1
  have hc6 := hO.1.1
  have hL : XLo [] M (some (dL D)) := hC.2.2.2.2.2.2.1
  have hSa : ∀ s, s < 3 → XSa M s (dS D s) κ := hC.2.2.2.2.1
  have hTk := hC.k
  have hck := hC.2.2.2.2.2.1
  have h240 := hD.2.1
  unfold sTold at k
  rcases zix_c x (n := 3) (by omega) with ⟨s, hs, rfl, es⟩ | ⟨es, ns⟩
  · rw [oz_s es] at k
    have hOs : OKS (dT D) (dc D) (dS D s) := hO.2.2 s hs
    have hg5 := hOs.1
    have hsa := hSa s hs
    rcases zix_c y (n := 8) (by omega) with ⟨w, hw, rfl, ew⟩ | ⟨ew, nw⟩
    · rw [oz_s ew] at k
      rcases (show w = 0 ∨ w = 1 ∨ w = 2 ∨ w = 3 ∨ w = 4 ∨ w = 5 ∨ w = 6 ∨ w = 7 by omega) with rfl | rfl | rfl | rfl | rfl | rfl | rfl | rfl
      · refine q_iload_n d186_0 rfl ?_
        refine q_s1 d186_1 (Or.inl rfl) rfl (Nat.le_of_ble_eq_true rfl) (c169t (by omega) ?_)
        refine n0_eq 17 d186_4 (by decide) (by decide) (fun q => absurd q (by decide)) (fun _ => ?_)
        refine q_iload_n d186_7 rfl ?_
        refine q_iconstN (z := 0) d186_8 ?_
        refine q_bipush (x := nI 7) d186_9 rfl ?_
        refine q_s3 d186_11 (Or.inl rfl) rfl (Nat.le_of_ble_eq_true rfl) (c131t ⟨by omega, by omega⟩ (by omega) ?_)
        refine n0_ne 20 d186_14 (by decide) (by decide) (fun _ => ?_) (fun q => absurd q (by decide))
        refine q_iload_n d186_20 rfl ?_
        refine n_tsI (47) 68 d186_21 (by decide) (by decide) rfl (by decide) ?_
        refine q_aload_n d186_68 rfl ?_
        refine q_getr (c := 8) (f := 11) d186_69 ⟨rfl, rfl⟩ (xk_136 hX) (xf_states hX) ?_
        refine q_iload_n d186_72 rfl ?_
        refine n_iald d186_73 (xk_states hX) (by omega) (by decide) (hSa _ (by omega)).1.1 ?_
        refine q_iret d186_74 rfl ?_
        exact k _ hR (Fi.refl _ _)
      · refine q_iload_n d186_0 rfl ?_
        refine q_s1 d186_1 (Or.inl rfl) rfl (Nat.le_of_ble_eq_true rfl) (c169t (by omega) ?_)
        refine n0_eq 17 d186_4 (by decide) (by decide) (fun q => absurd q (by decide)) (fun _ => ?_)
        refine q_iload_n d186_7 rfl ?_
        refine q_iconstN (z := 0) d186_8 ?_
        refine q_bipush (x := nI 7) d186_9 rfl ?_
        refine q_s3 d186_11 (Or.inl rfl) rfl (Nat.le_of_ble_eq_true rfl) (c131t ⟨by omega, by omega⟩ (by omega) ?_)
        refine n0_ne 20 d186_14 (by decide) (by decide) (fun _ => ?_) (fun q => absurd q (by decide))
        refine q_iload_n d186_20 rfl ?_
        refine n_tsI (54) 75 d186_21 (by decide) (by decide) rfl (by decide) ?_
        refine q_aload_n d186_75 rfl ?_
        refine q_getr (c := 8) (f := 12) d186_76 ⟨rfl, rfl⟩ (xk_136 hX) (xf_textOf hX) ?_
        refine q_iload_n d186_79 rfl ?_
        refine n_iald d186_80 (xk_textOf hX) (by omega) (by decide) hsa.1.2 ?_
        refine q_iret d186_81 rfl ?_
        exact k _ hR (Fi.refl _ _)
      · refine q_iload_n d186_0 rfl ?_
        refine q_s1 d186_1 (Or.inl rfl) rfl (Nat.le_of_ble_eq_true rfl) (c169t (by omega) ?_)
        refine n0_eq 17 d186_4 (by decide) (by decide) (fun q => absurd q (by decide)) (fun _ => ?_)
        refine q_iload_n d186_7 rfl ?_
        refine q_iconstN (z := 0) d186_8 ?_
        refine q_bipush (x := nI 7) d186_9 rfl ?_
        refine q_s3 d186_11 (Or.inl rfl) rfl (Nat.le_of_ble_eq_true rfl) (c131t ⟨by omega, by omega⟩ (by omega) ?_)
        refine n0_ne 20 d186_14 (by decide) (by decide) (fun _ => ?_) (fun q => absurd q (by decide))
        refine q_iload_n d186_20 rfl ?_
        refine n_tsI (87) 108 d186_21 (by decide) (by decide) rfl (by decide) ?_
        refine q_aload_n d186_108 rfl ?_
        refine q_iload_n d186_109 rfl ?_
        refine q_iload_n d186_110 rfl ?_
        refine q_iconstN (z := 1) d186_111 ?_
        refine n_isub d186_112 (by omega) ?_
        refine q_v2 d186_113 rfl rfl (xk_136 hX) (Nat.le_of_ble_eq_true rfl) (c179 (v := 1) hX hs hsa hTk hOs (by omega) ?_)
        refine q_iret d186_116 rfl ?_
        exact k _ hR (Fi.refl _ _)
      · refine q_iload_n d186_0 rfl ?_
        refine q_s1 d186_1 (Or.inl rfl) rfl (Nat.le_of_ble_eq_true rfl) (c169t (by omega) ?_)
        refine n0_eq 17 d186_4 (by decide) (by decide) (fun q => absurd q (by decide)) (fun _ => ?_)
        refine q_iload_n d186_7 rfl ?_
        refine q_iconstN (z := 0) d186_8 ?_
        refine q_bipush (x := nI 7) d186_9 rfl ?_
        refine q_s3 d186_11 (Or.inl rfl) rfl (Nat.le_of_ble_eq_true rfl) (c131t ⟨by omega, by omega⟩ (by omega) ?_)
        refine n0_ne 20 d186_14 (by decide) (by decide) (fun _ => ?_) (fun q => absurd q (by decide))
        refine q_iload_n d186_20 rfl ?_
        refine n_tsI (87) 108 d186_21 (by decide) (by decide) rfl (by decide) ?_
        refine q_aload_n d186_108 rfl ?_
        refine q_iload_n d186_109 rfl ?_
        refine q_iload_n d186_110 rfl ?_
        refine q_iconstN (z := 1) d186_111 ?_
        refine n_isub d186_112 (by omega) ?_
        refine q_v2 d186_113 rfl rfl (xk_136 hX) (Nat.le_of_ble_eq_true rfl) (c179 (v := 2) hX hs hsa hTk hOs (by omega) ?_)
        refine q_iret d186_116 rfl ?_
        exact k _ hR (Fi.refl _ _)
      · refine q_iload_n d186_0 rfl ?_
        refine q_s1 d186_1 (Or.inl rfl) rfl (Nat.le_of_ble_eq_true rfl) (c169t (by omega) ?_)
        refine n0_eq 17 d186_4 (by decide) (by decide) (fun q => absurd q (by decide)) (fun _ => ?_)
        refine q_iload_n d186_7 rfl ?_
        refine q_iconstN (z := 0) d186_8 ?_
        refine q_bipush (x := nI 7) d186_9 rfl ?_
        refine q_s3 d186_11 (Or.inl rfl) rfl (Nat.le_of_ble_eq_true rfl) (c131t ⟨by omega, by omega⟩ (by omega) ?_)
        refine n0_ne 20 d186_14 (by decide) (by decide) (fun _ => ?_) (fun q => absurd q (by decide))
        refine q_iload_n d186_20 rfl ?_
        refine n_tsI (87) 108 d186_21 (by decide) (by decide) rfl (by decide) ?_
        refine q_aload_n d186_108 rfl ?_
        refine q_iload_n d186_109 rfl ?_
        refine q_iload_n d186_110 rfl ?_
        refine q_iconstN (z := 1) d186_111 ?_
        refine n_isub d186_112 (by omega) ?_
        refine q_v2 d186_113 rfl rfl (xk_136 hX) (Nat.le_of_ble_eq_true rfl) (c179 (v := 3) hX hs hsa hTk hOs (by omega) ?_)
        refine q_iret d186_116 rfl ?_
        exact k _ hR (Fi.refl _ _)
      · refine q_iload_n d186_0 rfl ?_
        refine q_s1 d186_1 (Or.inl rfl) rfl (Nat.le_of_ble_eq_true rfl) (c169t (by omega) ?_)
        refine n0_eq 17 d186_4 (by decide) (by decide) (fun q => absurd q (by decide)) (fun _ => ?_)
        refine q_iload_n d186_7 rfl ?_
        refine q_iconstN (z := 0) d186_8 ?_
        refine q_bipush (x := nI 7) d186_9 rfl ?_
        refine q_s3 d186_11 (Or.inl rfl) rfl (Nat.le_of_ble_eq_true rfl) (c131t ⟨by omega, by omega⟩ (by omega) ?_)
        refine n0_ne 20 d186_14 (by decide) (by decide) (fun _ => ?_) (fun q => absurd q (by decide))
        refine q_iload_n d186_20 rfl ?_
        refine n_tsI (61) 82 d186_21 (by decide) (by decide) rfl (by decide) ?_
        refine q_aload_n d186_82 rfl ?_
        refine q_iload_n d186_83 rfl ?_
        refine q_v1 d186_84 rfl rfl (xk_136 hX) (Nat.le_of_ble_eq_true rfl) (c182 hX hs hsa hTk hOs ?_)
        refine q_iret d186_87 rfl ?_
        have e5 : nI (if gt (dS D s) = 1 then yfr (dT D (gx (dS D s))) (dS D s) else 0) = (if gt (dS D s) = 1 then nI (yfr (dT D (gx (dS D s))) (dS D s)) else nI 0) := by
          by_cases h1 : gt (dS D s) = 1
          · rw [if_pos h1, if_pos h1]
          · rw [if_neg h1, if_neg h1]
        rw [e5]
        exact k _ hR (Fi.refl _ _)
      · refine q_iload_n d186_0 rfl ?_
        refine q_s1 d186_1 (Or.inl rfl) rfl (Nat.le_of_ble_eq_true rfl) (c169t (by omega) ?_)
        refine n0_eq 17 d186_4 (by decide) (by decide) (fun q => absurd q (by decide)) (fun _ => ?_)
        refine q_iload_n d186_7 rfl ?_
        refine q_iconstN (z := 0) d186_8 ?_
        refine q_bipush (x := nI 7) d186_9 rfl ?_
        refine q_s3 d186_11 (Or.inl rfl) rfl (Nat.le_of_ble_eq_true rfl) (c131t ⟨by omega, by omega⟩ (by omega) ?_)
        refine n0_ne 20 d186_14 (by decide) (by decide) (fun _ => ?_) (fun q => absurd q (by decide))
        refine q_iload_n d186_20 rfl ?_
        refine n_tsI (67) 88 d186_21 (by decide) (by decide) rfl (by decide) ?_
        refine q_aload_n d186_88 rfl ?_
        refine q_iload_n d186_89 rfl ?_
        refine q_v1 d186_90 rfl rfl (xk_136 hX) (Nat.le_of_ble_eq_true rfl) (c185 hX hs hsa hTk hOs ?_)
        refine b0_eq 100 d186_93 (by decide) (fun h93 => ?_) (fun h93 => ?_)
        · refine q_iconstN (z := 0) d186_100 ?_
          refine q_iret d186_101 rfl ?_
          have e6 : nI 0 = (if gt (dS D s) = 0 then nI 0 else bI (ypa (dT D (gx (dS D s))) (gm (dS D s) 1))) := by
            unfold yps at h93
            by_cases h0 : gt (dS D s) = 0
            · rw [if_pos h0] at h93 ⊢
              first | done | rfl | exact absurd h93 (by decide)
            · rw [if_neg h0] at h93 ⊢
              rw [h93]
              rfl
          rw [e6]
          exact k _ hR (Fi.refl _ _)
        · refine q_iconstN (z := 1) d186_96 ?_
          refine q_goto 101 d186_97 (by decide) ?_
          refine q_iret d186_101 rfl ?_
          have e6 : nI 1 = (if gt (dS D s) = 0 then nI 0 else bI (ypa (dT D (gx (dS D s))) (gm (dS D s) 1))) := by
            unfold yps at h93
            by_cases h0 : gt (dS D s) = 0
            · rw [if_pos h0] at h93 ⊢
              first | done | rfl | exact absurd h93 (by decide)
            · rw [if_neg h0] at h93 ⊢
              rw [h93]
              rfl
          rw [e6]
          exact k _ hR (Fi.refl _ _)
      · refine q_iload_n d186_0 rfl ?_
        refine q_s1 d186_1 (Or.inl rfl) rfl (Nat.le_of_ble_eq_true rfl) (c169t (by omega) ?_)
        refine n0_eq 17 d186_4 (by decide) (by decide) (fun q => absurd q (by decide)) (fun _ => ?_)
        refine q_iload_n d186_7 rfl ?_
        refine q_iconstN (z := 0) d186_8 ?_
        refine q_bipush (x := nI 7) d186_9 rfl ?_
        refine q_s3 d186_11 (Or.inl rfl) rfl (Nat.le_of_ble_eq_true rfl) (c131t ⟨by omega, by omega⟩ (by omega) ?_)
        refine n0_ne 20 d186_14 (by decide) (by decide) (fun _ => ?_) (fun q => absurd q (by decide))
        refine q_iload_n d186_20 rfl ?_
        refine n_tsI (81) 102 d186_21 (by decide) (by decide) rfl (by decide) ?_
        refine q_aload_n d186_102 rfl ?_
        refine q_iload_n d186_103 rfl ?_
        refine q_v1 d186_104 rfl rfl (xk_136 hX) (Nat.le_of_ble_eq_true rfl) (c178 hX hs hsa hTk hOs (by omega) ?_)
        refine q_iret d186_107 rfl ?_
        exact k _ hR (Fi.refl _ _)
    · rw [oz_n ew] at k
      refine q_iload_n d186_0 rfl ?_
      refine q_s1 d186_1 (Or.inl rfl) rfl (Nat.le_of_ble_eq_true rfl) (c169t (by omega) ?_)
      refine n0_eq 17 d186_4 (by decide) (by decide) (fun q => absurd q (by decide)) (fun _ => ?_)
      refine q_iload_n d186_7 rfl ?_
      refine q_iconstN (z := 0) d186_8 ?_
      refine q_bipush (x := nI 7) d186_9 rfl ?_
      refine q_s3 d186_11 (Or.inl rfl) rfl (Nat.le_of_ble_eq_true rfl) (c131f (by decide) (by have := zix_none ew; omega) (by decide) ?_)
      refine n0_ne 20 d186_14 (by decide) (by decide) (fun q => absurd q (by decide)) (fun _ => ?_)
      refine q_bipush (x := (-2)) d186_17 rfl ?_
      refine q_iret d186_19 rfl ?_
      exact k _ hR (Fi.refl _ _)
  · rw [oz_n es] at k
    refine q_iload_n d186_0 rfl ?_
    refine q_s1 d186_1 (Or.inl rfl) rfl (Nat.le_of_ble_eq_true rfl) (c169f es ?_)
    refine n0_eq 17 d186_4 (by decide) (by decide) (fun _ => ?_) (fun q => absurd q (by decide))
    refine q_bipush (x := (-2)) d186_17 rfl ?_
    refine q_iret d186_19 rfl ?_
    exact k _ hR (Fi.refl _ _)
