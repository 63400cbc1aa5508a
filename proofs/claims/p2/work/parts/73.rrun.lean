/-! ===== the reference: plans, runs in thought ===== -/
theorem d172_0 : decode (zB 172) 0 = .ok (.iload_n 3, 1) := by decide +kernel
theorem d172_1 : decode (zB 172) 1 = .ok (.iconst 0, 1) := by decide +kernel
theorem d172_2 : decode (zB 172) 2 = .ok (.iconst 1, 1) := by decide +kernel
theorem d172_3 : decode (zB 172) 3 = .ok (.invokestatic 112, 3) := by decide +kernel
theorem d172_6 : decode (zB 172) 6 = .ok (.ifCond .eq 14, 3) := by decide +kernel
theorem d172_9 : decode (zB 172) 9 = .ok (.iload 4, 2) := by decide +kernel
theorem d172_11 : decode (zB 172) 11 = .ok (.iconst 0, 1) := by decide +kernel
theorem d172_12 : decode (zB 172) 12 = .ok (.bipush 9, 2) := by decide +kernel
theorem d172_14 : decode (zB 172) 14 = .ok (.invokestatic 112, 3) := by decide +kernel
theorem d172_17 : decode (zB 172) 17 = .ok (.ifCond .ne 6, 3) := by decide +kernel
theorem d172_20 : decode (zB 172) 20 = .ok (.bipush (-2), 2) := by decide +kernel
theorem d172_22 : decode (zB 172) 22 = .ok (.ireturn, 1) := by decide +kernel
theorem d172_23 : decode (zB 172) 23 = .ok (.aload_n 0, 1) := by decide +kernel
theorem d172_24 : decode (zB 172) 24 = .ok (.iload_n 1, 1) := by decide +kernel
theorem d172_25 : decode (zB 172) 25 = .ok (.iload_n 2, 1) := by decide +kernel
theorem d172_26 : decode (zB 172) 26 = .ok (.invokevirtual 351, 3) := by decide +kernel
theorem d172_29 : decode (zB 172) 29 = .ok (.istore 5, 2) := by decide +kernel
theorem d172_31 : decode (zB 172) 31 = .ok (.iload 5, 2) := by decide +kernel
theorem d172_33 : decode (zB 172) 33 = .ok (.ifCond .eq 6, 3) := by decide +kernel
theorem d172_36 : decode (zB 172) 36 = .ok (.iload 5, 2) := by decide +kernel
theorem d172_38 : decode (zB 172) 38 = .ok (.ireturn, 1) := by decide +kernel
theorem d172_39 : decode (zB 172) 39 = .ok (.iload_n 3, 1) := by decide +kernel
theorem d172_40 : decode (zB 172) 40 = .ok (.ifCond .ne 12, 3) := by decide +kernel
theorem d172_43 : decode (zB 172) 43 = .ok (.aload_n 0, 1) := by decide +kernel
theorem d172_44 : decode (zB 172) 44 = .ok (.getfield 57, 3) := by decide +kernel
theorem d172_47 : decode (zB 172) 47 = .ok (.iload_n 1, 1) := by decide +kernel
theorem d172_48 : decode (zB 172) 48 = .ok (.aaload, 1) := by decide +kernel
theorem d172_49 : decode (zB 172) 49 = .ok (.goto 9, 3) := by decide +kernel
theorem d172_52 : decode (zB 172) 52 = .ok (.aload_n 0, 1) := by decide +kernel
theorem d172_53 : decode (zB 172) 53 = .ok (.getfield 60, 3) := by decide +kernel
theorem d172_56 : decode (zB 172) 56 = .ok (.iload_n 1, 1) := by decide +kernel
theorem d172_57 : decode (zB 172) 57 = .ok (.aaload, 1) := by decide +kernel
theorem d172_58 : decode (zB 172) 58 = .ok (.astore 6, 2) := by decide +kernel
theorem d172_60 : decode (zB 172) 60 = .ok (.aload 6, 2) := by decide +kernel
theorem d172_62 : decode (zB 172) 62 = .ok (.iload_n 2, 1) := by decide +kernel
theorem d172_63 : decode (zB 172) 63 = .ok (.iaload, 1) := by decide +kernel
theorem d172_64 : decode (zB 172) 64 = .ok (.istore 7, 2) := by decide +kernel
theorem d172_66 : decode (zB 172) 66 = .ok (.aload 6, 2) := by decide +kernel
theorem d172_68 : decode (zB 172) 68 = .ok (.iload_n 2, 1) := by decide +kernel
theorem d172_69 : decode (zB 172) 69 = .ok (.iload 4, 2) := by decide +kernel
theorem d172_71 : decode (zB 172) 71 = .ok (.iastore, 1) := by decide +kernel
theorem d172_72 : decode (zB 172) 72 = .ok (.iload 7, 2) := by decide +kernel
theorem d172_74 : decode (zB 172) 74 = .ok (.ireturn, 1) := by decide +kernel
theorem x172 {d : Nat} {M : zM} {Q : Option Value → zM → Prop} {D : yD} {κ : Nat} {x y u v : Int32} (hR : RX M D κ) (hD : OKD D) (hκ : κ + 4000 < 2147483648) (k : ∀ M' κ', κ' ≤ κ + 240 → RX M' (sPlan D x y u v).2 κ' → Fi FY M M' → Q (some (.int (sPlan D x y u v).1)) M') : qC (d + 4) 172 [.ref 136, .int x, .int y, .int u, .int v] M Q := by
  refine qC_of (by decide) (Nat.le_of_ble_eq_true rfl) ?_
  have hC := hR.1
  have hX := hC.1
  have hO : OKW (dT D) (dc D) (dW D) := hC.2.2.1
  have hc6 := hO.1.1
  have hL : XLo [] M (some (dL D)) := hC.2.2.2.2.2.2.1
  have hSa : ∀ s, s < 3 → XSa M s (dS D s) κ := hC.2.2.2.2.1
  have hTk := hC.k
  have hck := hC.2.2.2.2.2.1
  have h240 := hD.2.1
  unfold sPlan at k
  rcases zix_c x (n := 3) (by omega) with ⟨s, hs, rfl, es⟩ | ⟨es, ns⟩
  · rw [oz_s es] at k
    have hOs : OKS (dT D) (dc D) (dS D s) := hO.2.2 s hs
    have hg5 := hOs.1
    have hsa := hSa s hs
    have hym : yms D s ≤ 12 := by
      unfold yms
      by_cases h0 : gt (dS D s) = 0
      · rw [if_pos h0]; omega
      · rw [if_neg h0]; exact (hO.1.2 _ (hOs.2.1 h0)).n
    rcases zix_c y (n := yms D s) (by omega) with ⟨i, hi, rfl, ei⟩ | ⟨ei, ni⟩
    · rw [oz_s ei] at k
      rcases zix_c u (n := 2) (by omega) with ⟨o, ho, rfl, eo⟩ | ⟨eo, no⟩
      · rw [oz_s eo] at k
        rcases zix_c v (n := 10) (by omega) with ⟨z, hz, rfl, ez⟩ | ⟨ez, nz⟩
        · rw [oz_s ez] at k
          by_cases h0 : gt (dS D s) = 0
          · rw [if_pos h0] at k
            refine q_iload_n d172_0 rfl ?_
            refine q_iconstN (z := 0) d172_1 ?_
            refine q_iconstN (z := 1) d172_2 ?_
            refine q_s3 d172_3 (Or.inl rfl) rfl (Nat.le_of_ble_eq_true rfl) (c131t ⟨by omega, by omega⟩ (by omega) ?_)
            refine n0_eq 20 d172_6 (by decide) (by decide) (fun q => absurd q (by decide)) (fun _ => ?_)
            refine q_iload d172_9 rfl ?_
            refine q_iconstN (z := 0) d172_11 ?_
            refine q_bipush (x := nI 9) d172_12 rfl ?_
            refine q_s3 d172_14 (Or.inl rfl) rfl (Nat.le_of_ble_eq_true rfl) (c131t ⟨by omega, by omega⟩ (by omega) ?_)
            refine n0_ne 23 d172_17 (by decide) (by decide) (fun _ => ?_) (fun q => absurd q (by decide))
            refine q_aload_n d172_23 rfl ?_
            refine q_iload_n d172_24 rfl ?_
            refine q_iload_n d172_25 rfl ?_
            refine q_v2 d172_26 rfl rfl (xk_136 hX) (Nat.le_of_ble_eq_true rfl) (c173r hR (by unfold sRef; rw [oz_s es, oz_s ei, if_pos h0]) ?_)
            refine q_istore d172_29 (by decide) rfl ?_
            refine q_iload d172_31 rfl ?_
            refine i0_eq 39 d172_33 (by decide) (fun h33 => (False.elim (absurd h33 (by decide)))) (fun h33 => ?_)
            refine q_iload d172_36 rfl ?_
            refine q_iret d172_38 rfl ?_
            exact k _ κ (Nat.le_add_right _ _) hR (Fi.refl _ _)
          · rw [if_neg h0] at k
            have hx : gx (dS D s) < dc D := hOs.2.1 h0
            have hn := (hO.1.2 _ hx).n
            have hx1 : zi M 176 s = nI (gx (dS D s)) := hsa.1.2.trans (if_neg h0)
            have ey : yms D s = tn (dT D (gx (dS D s))) := if_neg h0
            rcases (show o = 0 ∨ o = 1 by omega) with rfl | rfl
            · refine q_iload_n d172_0 rfl ?_
              refine q_iconstN (z := 0) d172_1 ?_
              refine q_iconstN (z := 1) d172_2 ?_
              refine q_s3 d172_3 (Or.inl rfl) rfl (Nat.le_of_ble_eq_true rfl) (c131t ⟨by omega, by omega⟩ (by omega) ?_)
              refine n0_eq 20 d172_6 (by decide) (by decide) (fun q => absurd q (by decide)) (fun _ => ?_)
              refine q_iload d172_9 rfl ?_
              refine q_iconstN (z := 0) d172_11 ?_
              refine q_bipush (x := nI 9) d172_12 rfl ?_
              refine q_s3 d172_14 (Or.inl rfl) rfl (Nat.le_of_ble_eq_true rfl) (c131t ⟨by omega, by omega⟩ (by omega) ?_)
              refine n0_ne 23 d172_17 (by decide) (by decide) (fun _ => ?_) (fun q => absurd q (by decide))
              refine q_aload_n d172_23 rfl ?_
              refine q_iload_n d172_24 rfl ?_
              refine q_iload_n d172_25 rfl ?_
              refine q_v2 d172_26 rfl rfl (xk_136 hX) (Nat.le_of_ble_eq_true rfl) (c173r hR (by unfold sRef; rw [oz_s es, oz_s ei, if_neg h0]) ?_)
              refine q_istore d172_29 (by decide) rfl ?_
              refine q_iload d172_31 rfl ?_
              refine n0_eq 39 d172_33 (by decide) (by decide) (fun _ => ?_) (fun q => absurd q (by decide))
              refine q_iload_n d172_39 rfl ?_
              refine n0_ne 52 d172_40 (by decide) (by decide) (fun q => absurd q (by decide)) (fun _ => ?_)
              refine q_aload_n d172_43 rfl ?_
              refine q_getr (c := 8) (f := 18) d172_44 ⟨rfl, rfl⟩ (xk_136 hX) (xf_plans hX) ?_
              refine q_iload_n d172_47 rfl ?_
              refine n_aald d172_48 (xk_plans hX) (by decide) (by omega) (by decide) (xr_plans hX (by omega)) ?_
              refine q_goto 58 d172_49 (by decide) ?_
              refine q_astore d172_58 (by decide) rfl ?_
              refine q_aload d172_60 rfl ?_
              refine q_iload_n d172_62 rfl ?_
              refine n_iald d172_63 (xa_plans hX (by omega)) (by omega) (by decide) ((hSa _ (by omega)).2.1 _ (by omega)).2.2.2.1 ?_
              refine q_istore d172_64 (by decide) rfl ?_
              refine q_aload d172_66 rfl ?_
              refine q_iload_n d172_68 rfl ?_
              refine q_iload d172_69 rfl ?_
              refine n_iast d172_71 (xa_plans hX (by omega)) (by omega) (by decide) ?_
              refine q_iload d172_72 rfl ?_
              refine q_iret d172_74 rfl ?_
              have f1 : Fi (fun b _ => b = 198 + s) M (zwi M (198 + s) i (nI z)) := (Fi.refl _ _).wi rfl
              have fz : Fi FWd M (zwi M (198 + s) i (nI z)) := f1.mono (fun b k q => by unfold FWd; omega)
              exact k _ κ (Nat.le_add_right _ _) (hR.up (W := ((dW D).1, yu (dW D).2 s (gpS (dS D s) (yu (gp (dS D s)) i (nI z))))) fz (OKW_ss (X := dX D) (S := (gpS (dS D s) (yu (gp (dS D s)) i (nI z)))) hO hOs) (XPu_fi hC.2.2.2.1 f1 (fun b k q1 q2 => by unfold GP at q1; omega)) (fun r hr => by
                show XSa _ r (yu (dW D).2 s (gpS (dS D s) (yu (gp (dS D s)) i (nI z))) r) κ
                by_cases e : r = s
                · subst e; rw [yu_s]; exact hsa.wp hs
                · rw [yu_n e]; exact (hSa r hr).fi f1 (fun b k q1 q2 => by unfold GS at q1; omega)) ((f1.1 _ _ (by omega)).trans hck) (hL.fi f1 (fun b k q => by unfold GL at q; omega))) (fz.mono (fun b k q => FWd_Y q))
            · refine q_iload_n d172_0 rfl ?_
              refine q_iconstN (z := 0) d172_1 ?_
              refine q_iconstN (z := 1) d172_2 ?_
              refine q_s3 d172_3 (Or.inl rfl) rfl (Nat.le_of_ble_eq_true rfl) (c131t ⟨by omega, by omega⟩ (by omega) ?_)
              refine n0_eq 20 d172_6 (by decide) (by decide) (fun q => absurd q (by decide)) (fun _ => ?_)
              refine q_iload d172_9 rfl ?_
              refine q_iconstN (z := 0) d172_11 ?_
              refine q_bipush (x := nI 9) d172_12 rfl ?_
              refine q_s3 d172_14 (Or.inl rfl) rfl (Nat.le_of_ble_eq_true rfl) (c131t ⟨by omega, by omega⟩ (by omega) ?_)
              refine n0_ne 23 d172_17 (by decide) (by decide) (fun _ => ?_) (fun q => absurd q (by decide))
              refine q_aload_n d172_23 rfl ?_
              refine q_iload_n d172_24 rfl ?_
              refine q_iload_n d172_25 rfl ?_
              refine q_v2 d172_26 rfl rfl (xk_136 hX) (Nat.le_of_ble_eq_true rfl) (c173r hR (by unfold sRef; rw [oz_s es, oz_s ei, if_neg h0]) ?_)
              refine q_istore d172_29 (by decide) rfl ?_
              refine q_iload d172_31 rfl ?_
              refine n0_eq 39 d172_33 (by decide) (by decide) (fun _ => ?_) (fun q => absurd q (by decide))
              refine q_iload_n d172_39 rfl ?_
              refine n0_ne 52 d172_40 (by decide) (by decide) (fun _ => ?_) (fun q => absurd q (by decide))
              refine q_aload_n d172_52 rfl ?_
              refine q_getr (c := 8) (f := 19) d172_53 ⟨rfl, rfl⟩ (xk_136 hX) (xf_undoPlans hX) ?_
              refine q_iload_n d172_56 rfl ?_
              refine n_aald d172_57 (xk_undoPlans hX) (by decide) (by omega) (by decide) (xr_undoPlans hX (by omega)) ?_
              refine q_astore d172_58 (by decide) rfl ?_
              refine q_aload d172_60 rfl ?_
              refine q_iload_n d172_62 rfl ?_
              refine n_iald d172_63 (xa_undoPlans hX (by omega)) (by omega) (by decide) ((hSa _ (by omega)).2.1 _ (by omega)).2.2.2.2 ?_
              refine q_istore d172_64 (by decide) rfl ?_
              refine q_aload d172_66 rfl ?_
              refine q_iload_n d172_68 rfl ?_
              refine q_iload d172_69 rfl ?_
              refine n_iast d172_71 (xa_undoPlans hX (by omega)) (by omega) (by decide) ?_
              refine q_iload d172_72 rfl ?_
              refine q_iret d172_74 rfl ?_
              have f1 : Fi (fun b _ => b = 202 + s) M (zwi M (202 + s) i (nI z)) := (Fi.refl _ _).wi rfl
              have fz : Fi FWd M (zwi M (202 + s) i (nI z)) := f1.mono (fun b k q => by unfold FWd; omega)
              exact k _ κ (Nat.le_add_right _ _) (hR.up (W := ((dW D).1, yu (dW D).2 s (gqS (dS D s) (yu (gq (dS D s)) i (nI z))))) fz (OKW_ss (X := dX D) (S := (gqS (dS D s) (yu (gq (dS D s)) i (nI z)))) hO hOs) (XPu_fi hC.2.2.2.1 f1 (fun b k q1 q2 => by unfold GP at q1; omega)) (fun r hr => by
                show XSa _ r (yu (dW D).2 s (gqS (dS D s) (yu (gq (dS D s)) i (nI z))) r) κ
                by_cases e : r = s
                · subst e; rw [yu_s]; exact hsa.wq hs
                · rw [yu_n e]; exact (hSa r hr).fi f1 (fun b k q1 q2 => by unfold GS at q1; omega)) ((f1.1 _ _ (by omega)).trans hck) (hL.fi f1 (fun b k q => by unfold GL at q; omega))) (fz.mono (fun b k q => FWd_Y q))
        · rw [oz_n ez] at k
          refine q_iload_n d172_0 rfl ?_
          refine q_iconstN (z := 0) d172_1 ?_
          refine q_iconstN (z := 1) d172_2 ?_
          refine q_s3 d172_3 (Or.inl rfl) rfl (Nat.le_of_ble_eq_true rfl) (c131t ⟨by omega, by omega⟩ (by omega) ?_)
          refine n0_eq 20 d172_6 (by decide) (by decide) (fun q => absurd q (by decide)) (fun _ => ?_)
          refine q_iload d172_9 rfl ?_
          refine q_iconstN (z := 0) d172_11 ?_
          refine q_bipush (x := nI 9) d172_12 rfl ?_
          refine q_s3 d172_14 (Or.inl rfl) rfl (Nat.le_of_ble_eq_true rfl) (c131f (by decide) (by have := zix_none ez; omega) (by decide) ?_)
          refine n0_ne 23 d172_17 (by decide) (by decide) (fun q => absurd q (by decide)) (fun _ => ?_)
          refine q_bipush (x := (-2)) d172_20 rfl ?_
          refine q_iret d172_22 rfl ?_
          exact k _ κ (Nat.le_add_right _ _) hR (Fi.refl _ _)
      · rw [oz_n eo] at k
        refine q_iload_n d172_0 rfl ?_
        refine q_iconstN (z := 0) d172_1 ?_
        refine q_iconstN (z := 1) d172_2 ?_
        refine q_s3 d172_3 (Or.inl rfl) rfl (Nat.le_of_ble_eq_true rfl) (c131f (by decide) (by have := zix_none eo; omega) (by decide) ?_)
        refine n0_eq 20 d172_6 (by decide) (by decide) (fun _ => ?_) (fun q => absurd q (by decide))
        refine q_bipush (x := (-2)) d172_20 rfl ?_
        refine q_iret d172_22 rfl ?_
        exact k _ κ (Nat.le_add_right _ _) hR (Fi.refl _ _)
    · rw [oz_n ei] at k
      refine q_iload_n d172_0 rfl ?_
      refine q_iconstN (z := 0) d172_1 ?_
      refine q_iconstN (z := 1) d172_2 ?_
      refine q_s3 d172_3 (Or.inl rfl) rfl (Nat.le_of_ble_eq_true rfl) (c131z (by omega) ?_)
      refine b0_eq 20 d172_6 (by decide) (fun h6 => ?_) (fun h6 => ?_)
      · refine q_bipush (x := (-2)) d172_20 rfl ?_
        refine q_iret d172_22 rfl ?_
        exact k _ κ (Nat.le_add_right _ _) hR (Fi.refl _ _)
      · refine q_iload d172_9 rfl ?_
        refine q_iconstN (z := 0) d172_11 ?_
        refine q_bipush (x := nI 9) d172_12 rfl ?_
        refine q_s3 d172_14 (Or.inl rfl) rfl (Nat.le_of_ble_eq_true rfl) (c131z (by omega) ?_)
        refine b0_ne 23 d172_17 (by decide) (fun h17 => ?_) (fun h17 => ?_)
        · refine q_aload_n d172_23 rfl ?_
          refine q_iload_n d172_24 rfl ?_
          refine q_iload_n d172_25 rfl ?_
          refine q_v2 d172_26 rfl rfl (xk_136 hX) (Nat.le_of_ble_eq_true rfl) (c173r hR (by unfold sRef; rw [oz_s es, oz_n ei]) ?_)
          refine q_istore d172_29 (by decide) rfl ?_
          refine q_iload d172_31 rfl ?_
          refine i0_eq 39 d172_33 (by decide) (fun h33 => (False.elim (absurd h33 (by decide)))) (fun h33 => ?_)
          refine q_iload d172_36 rfl ?_
          refine q_iret d172_38 rfl ?_
          exact k _ κ (Nat.le_add_right _ _) hR (Fi.refl _ _)
        · refine q_bipush (x := (-2)) d172_20 rfl ?_
          refine q_iret d172_22 rfl ?_
          exact k _ κ (Nat.le_add_right _ _) hR (Fi.refl _ _)
  · rw [oz_n es] at k
    refine q_iload_n d172_0 rfl ?_
    refine q_iconstN (z := 0) d172_1 ?_
    refine q_iconstN (z := 1) d172_2 ?_
    refine q_s3 d172_3 (Or.inl rfl) rfl (Nat.le_of_ble_eq_true rfl) (c131z (by omega) ?_)
    refine b0_eq 20 d172_6 (by decide) (fun h6 => ?_) (fun h6 => ?_)
    · refine q_bipush (x := (-2)) d172_20 rfl ?_
      refine q_iret d172_22 rfl ?_
      exact k _ κ (Nat.le_add_right _ _) hR (Fi.refl _ _)
    · refine q_iload d172_9 rfl ?_
      refine q_iconstN (z := 0) d172_11 ?_
      refine q_bipush (x := nI 9) d172_12 rfl ?_
      refine q_s3 d172_14 (Or.inl rfl) rfl (Nat.le_of_ble_eq_true rfl) (c131z (by omega) ?_)
      refine b0_ne 23 d172_17 (by decide) (fun h17 => ?_) (fun h17 => ?_)
      · refine q_aload_n d172_23 rfl ?_
        refine q_iload_n d172_24 rfl ?_
        refine q_iload_n d172_25 rfl ?_
        refine q_v2 d172_26 rfl rfl (xk_136 hX) (Nat.le_of_ble_eq_true rfl) (c173r hR (by unfold sRef; rw [oz_n es]) ?_)
        refine q_istore d172_29 (by decide) rfl ?_
        refine q_iload d172_31 rfl ?_
        refine i0_eq 39 d172_33 (by decide) (fun h33 => (False.elim (absurd h33 (by decide)))) (fun h33 => ?_)
        refine q_iload d172_36 rfl ?_
        refine q_iret d172_38 rfl ?_
        exact k _ κ (Nat.le_add_right _ _) hR (Fi.refl _ _)
      · refine q_bipush (x := (-2)) d172_20 rfl ?_
        refine q_iret d172_22 rfl ?_
        exact k _ κ (Nat.le_add_right _ _) hR (Fi.refl _ _)
theorem d198_0 : decode (zB 198) 0 = .ok (.aload_n 0, 1) := by decide +kernel
theorem d198_1 : decode (zB 198) 1 = .ok (.iconst 0, 1) := by decide +kernel
theorem d198_2 : decode (zB 198) 2 = .ok (.invokevirtual 225, 3) := by decide +kernel
theorem d198_5 : decode (zB 198) 5 = .ok (.aload_n 0, 1) := by decide +kernel
theorem d198_6 : decode (zB 198) 6 = .ok (.iconst 1, 1) := by decide +kernel
theorem d198_7 : decode (zB 198) 7 = .ok (.putfield 298, 3) := by decide +kernel
theorem d198_10 : decode (zB 198) 10 = .ok (.return_, 1) := by decide +kernel
theorem d199_0 : decode (zB 199) 0 = .ok (.aload_n 0, 1) := by decide +kernel
theorem d199_1 : decode (zB 199) 1 = .ok (.iconst 0, 1) := by decide +kernel
theorem d199_2 : decode (zB 199) 2 = .ok (.putfield 298, 3) := by decide +kernel
theorem d199_5 : decode (zB 199) 5 = .ok (.aload_n 0, 1) := by decide +kernel
theorem d199_6 : decode (zB 199) 6 = .ok (.iconst 0, 1) := by decide +kernel
theorem d199_7 : decode (zB 199) 7 = .ok (.invokevirtual 233, 3) := by decide +kernel
theorem d199_10 : decode (zB 199) 10 = .ok (.return_, 1) := by decide +kernel
theorem CX.l0 {G : List yL} {M : zM} {T : Nat → yT} {c κ : Nat} {nm : Nat → Nat → Int32} {X : yX} (h : CX G M T c nm X κ) (h25 : zi M 136 25 = nI 1) : X.2 = none := by
  have h1 := h.2.2.2.2.2.2.1
  cases e : X.2 with
  | none => rfl
  | some L =>
    rw [e] at h1
    exact absurd (h25.symm.trans h1.1) (by decide)
/-- a thought begins -/
theorem c198 {d : Nat} {M : zM} {Q : Option Value → zM → Prop} {D : yD} {κ : Nat} (hR : RX M D κ) (k : ∀ M', CX (dL D) M' (dT D) (dc D) (dnm D) (dW D, none) κ → zi M' 136 25 = nI 1 → zi M' 136 21 = -1 → KA M M' 0 → Fi FZ M M' → Q none M') : qC (d + 3) 198 [.ref 136] M Q := by
  refine qC_of (by decide) (Nat.le_of_ble_eq_true rfl) ?_
  have hC := hR.1
  have hX := hC.1
  have hO : OKW (dT D) (dc D) (dW D) := hC.2.2.1
  have hc6 := hO.1.1
  have hL : XLo [] M (some (dL D)) := hC.2.2.2.2.2.2.1
  have hSa : ∀ s, s < 3 → XSa M s (dS D s) κ := hC.2.2.2.2.1
  have hTk := hC.k
  have hck := hC.2.2.2.2.2.1
  refine q_aload_n d198_0 rfl ?_
  refine q_iconstN (z := 0) d198_1 ?_
  refine q_v1 d198_2 rfl rfl (xk_136 hX) (Nat.le_of_ble_eq_true rfl) (c155 (l := 0) hX (by decide) (fun M1 hK f1 => ?_))
  have hX1 := SX_fi hX f1
  refine q_aload_n d198_5 rfl ?_
  refine q_iconstN (z := 1) d198_6 ?_
  refine q_putz (c := 8) (f := 25) d198_7 ⟨rfl, rfl, by decide⟩ (xk_136 hX1) (Or.inr rfl) ?_
  refine q_ret d198_10 rfl ?_
  have f2 : Fi (fun b k => FA 0 b k ∨ (b = 136 ∧ k = 25)) M (zwi M1 136 25 (nI 1)) := (f1.mono (fun b k q => Or.inl q)).wi (Or.inr ⟨rfl, rfl⟩)
  have hLg : XLg (zwi M1 136 25 (nI 1)) (dL D) := ⟨(f2.1 _ _ (by unfold FA; omega)).trans hL.2.1, fun q hq => ⟨(f2.1 _ _ (by unfold FA; omega)).trans (hL.2.2 q hq).1, (f2.1 _ _ (by unfold FA; omega)).trans (hL.2.2 q hq).2.1, (f2.1 _ _ (by unfold FA; omega)).trans (hL.2.2 q hq).2.2⟩⟩
  have b21 : zi (zwi M1 136 25 (nI 1)) 136 21 = -1 := (f2.1 _ _ (by unfold FA; omega)).trans hR.2.1
  exact k _ ⟨SX_fi hX f2, XTx_fi hTk.1 hc6 f2 (fun b k b1 b2 q => by unfold FA at q; omega), hO, XPu_fi hC.2.2.2.1 f2 (fun b k q1 q2 => by unfold GP at q1; unfold FA at q2; omega), fun s hs => (hSa s hs).fi f2 (fun b k q1 q2 => by unfold GS at q1; unfold FA at q2; omega), (f2.1 _ _ (by unfold FA; omega)).trans hck, ⟨wi_s _ _ _ _, hLg⟩, ⟨none, b21, fun s hs h0 k hk => rfl⟩⟩ (wi_s _ _ _ _) b21 (hK.fi ((Fi.refl (fun b k => b = 136 ∧ k = 25) M1).wi ⟨rfl, rfl⟩) (fun b k q1 q2 => by unfold FA at q1; omega)) (f2.mono (fun b k q => by unfold FA at q; unfold FZ; omega))
/-- a thought ends -/
theorem c199 {d : Nat} {M : zM} {Q : Option Value → zM → Prop} {M0 : zM} (hX : SX M) (hK : KA M0 M 0) (k : ∀ M', KB M0 M' → zi M' 136 25 = nI 0 → Fi (fun b k => FB b k ∨ (b = 136 ∧ k = 25)) M M' → Q none M') : qC (d + 3) 199 [.ref 136] M Q := by
  refine qC_of (by decide) (Nat.le_of_ble_eq_true rfl) ?_
  refine q_aload_n d199_0 rfl ?_
  refine q_iconstN (z := 0) d199_1 ?_
  refine q_putz (c := 8) (f := 25) d199_2 ⟨rfl, rfl, by decide⟩ (xk_136 hX) (Or.inl rfl) ?_
  have f1 : Fi (fun b k => b = 136 ∧ k = 25) M (zwi M 136 25 (nI 0)) := (Fi.refl _ _).wi ⟨rfl, rfl⟩
  have hX1 := SX_fi hX f1
  have hK1 := hK.fi f1 (fun b k q1 q2 => by unfold FA at q1; omega)
  refine q_aload_n d199_5 rfl ?_
  refine q_iconstN (z := 0) d199_6 ?_
  refine q_v1 d199_7 rfl rfl (xk_136 hX1) (Nat.le_of_ble_eq_true rfl) (c162 (l := 0) hX1 (by decide) hK1 (fun M2 hK2 f2 => ?_))
  refine q_ret d199_10 rfl ?_
  exact k _ hK2 ((f2.1 _ _ (by unfold FB; omega)).trans (wi_s _ _ _ _)) ((f1.mono (fun b k q => Or.inr q)).trans (f2.mono (fun b k q => Or.inl q)))
/-- behind a thought -/
theorem RX.wake {M M2 M3 : zM} {D : yD} {κ : Nat} (h : RX M D κ) (f : Fi FZ M M2) (h21 : zi M2 136 21 = -1) (hL : XLg M2 (dL D)) (hK : KB M M3) (h25 : zi M3 136 25 = nI 0) (f3 : Fi (fun b k => FB b k ∨ (b = 136 ∧ k = 25)) M2 M3) : RX M3 D κ ∧ Fi FY M M3 := by
  have fz : Fi FZ M M3 := f.trans (f3.mono (fun b k q => by unfold FB at q; unfold FZ; omega))
  exact ⟨h.back fz hK ((f3.1 _ _ (by unfold FB; omega)).trans h21) ⟨h25, (f3.1 _ _ (by unfold FB; omega)).trans hL.1, fun q hq => ⟨(f3.1 _ _ (by unfold FB; omega)).trans (hL.2 q hq).1, (f3.1 _ _ (by unfold FB; omega)).trans (hL.2 q hq).2.1, (f3.1 _ _ (by unfold FB; omega)).trans (hL.2 q hq).2.2⟩⟩, fz.mono (fun b k q => FZ_Y q)⟩
theorem d197_0 : decode (zB 197) 0 = .ok (.iload_n 1, 1) := by decide +kernel
theorem d197_1 : decode (zB 197) 1 = .ok (.iconst 0, 1) := by decide +kernel
theorem d197_2 : decode (zB 197) 2 = .ok (.bipush 60, 2) := by decide +kernel
theorem d197_4 : decode (zB 197) 4 = .ok (.invokestatic 112, 3) := by decide +kernel
theorem d197_7 : decode (zB 197) 7 = .ok (.ifCond .eq 10, 3) := by decide +kernel
theorem d197_10 : decode (zB 197) 10 = .ok (.iload_n 2, 1) := by decide +kernel
theorem d197_11 : decode (zB 197) 11 = .ok (.invokestatic 363, 3) := by decide +kernel
theorem d197_14 : decode (zB 197) 14 = .ok (.ifCond .ne 6, 3) := by decide +kernel
theorem d197_17 : decode (zB 197) 17 = .ok (.bipush (-2), 2) := by decide +kernel
theorem d197_19 : decode (zB 197) 19 = .ok (.ireturn, 1) := by decide +kernel
theorem d197_20 : decode (zB 197) 20 = .ok (.aload_n 0, 1) := by decide +kernel
theorem d197_21 : decode (zB 197) 21 = .ok (.invokevirtual 372, 3) := by decide +kernel
theorem d197_24 : decode (zB 197) 24 = .ok (.iconst 0, 1) := by decide +kernel
theorem d197_25 : decode (zB 197) 25 = .ok (.istore_n 3, 1) := by decide +kernel
theorem d197_26 : decode (zB 197) 26 = .ok (.iload_n 3, 1) := by decide +kernel
theorem d197_27 : decode (zB 197) 27 = .ok (.iload_n 1, 1) := by decide +kernel
theorem d197_28 : decode (zB 197) 28 = .ok (.if_icmp .ge 13, 3) := by decide +kernel
theorem d197_31 : decode (zB 197) 31 = .ok (.aload_n 0, 1) := by decide +kernel
theorem d197_32 : decode (zB 197) 32 = .ok (.invokevirtual 354, 3) := by decide +kernel
theorem d197_35 : decode (zB 197) 35 = .ok (.iinc 3 1, 3) := by decide +kernel
theorem d197_38 : decode (zB 197) 38 = .ok (.goto (-12), 3) := by decide +kernel
theorem d197_41 : decode (zB 197) 41 = .ok (.aload_n 0, 1) := by decide +kernel
theorem d197_42 : decode (zB 197) 42 = .ok (.iload_n 2, 1) := by decide +kernel
theorem d197_43 : decode (zB 197) 43 = .ok (.invokevirtual 369, 3) := by decide +kernel
theorem d197_46 : decode (zB 197) 46 = .ok (.istore_n 3, 1) := by decide +kernel
theorem d197_47 : decode (zB 197) 47 = .ok (.aload_n 0, 1) := by decide +kernel
theorem d197_48 : decode (zB 197) 48 = .ok (.invokevirtual 375, 3) := by decide +kernel
theorem d197_51 : decode (zB 197) 51 = .ok (.iload_n 3, 1) := by decide +kernel
theorem d197_52 : decode (zB 197) 52 = .ok (.ireturn, 1) := by decide +kernel
theorem l197 {d : Nat} {Q : Option Value → zM → Prop} {D : yD} {M0 : zM} {n m κ : Nat} {XF : yX} (hR : RX M0 D κ) (hκ : κ + 4000 < 2147483648) (hn : n ≤ 60) (hm : ywv m = true) (h50 : m < 50) (k : ∀ M', RX M' D κ → Fi FY M0 M' → Q (some (.int (yvw XF.1 m))) M') : ∀ (r i : Nat) (κ1 : Nat) (M1 : zM) (X1 : yX), i ≤ n → n < i + r →  CX (dL D) M1 (dT D) (dc D) (dnm D) X1 κ1 → zi M1 136 25 = nI 1 → zi M1 136 21 = -1 → KA M0 M1 0 → Fi FZ M0 M1 → κ1 ≤ κ + 36 * i → ytn (dT D) (dnm D) (n - i) X1 = XF → qW (zEv (d + 6)) 197 Q 26 [(3, .int (nI i)), (0, .ref 136), (1, .int (nI n)), (2, .int (nI m))] [] M1 := by
  intro r
  induction r with
  | zero => intros; omega
  | succ r ih =>
    intro i κ1 M1 X1 h1 h2 hC1 h25 h21 hK hF hk1 hy
    refine q_iload_n d197_26 rfl ?_
    refine q_iload_n d197_27 rfl ?_
    refine nc_ge 41 d197_28 (by decide) (by omega) (by omega) (fun h28 => ?_) (fun h28 => ?_)
    · refine q_aload_n d197_41 rfl ?_
      refine q_iload_n d197_42 rfl ?_
      refine q_v1 d197_43 rfl rfl (xk_136 hC1.1) (Nat.le_of_ble_eq_true rfl) (c195 hC1.w hm h50 ?_)
      refine q_istore_n d197_46 (by decide) rfl ?_
      refine q_aload_n d197_47 rfl ?_
      refine q_v0 d197_48 rfl rfl (xk_136 hC1.1) (Nat.le_of_ble_eq_true rfl) (c199 hC1.1 hK (fun M2 hK2 q25 f2 => ?_))
      refine q_iload_n d197_51 rfl ?_
      refine q_iret d197_52 rfl ?_
      have e : X1 = XF := by rw [show n - i = 0 by omega] at hy; exact hy
      subst e
      have hLo : XLo (dL D) M1 X1.2 := hC1.2.2.2.2.2.2.1
      rw [hC1.l0 h25] at hLo
      have hw := hR.wake hF h21 hLo.2 hK2 q25 f2
      exact k _ hw.1 hw.2
    · refine q_aload_n d197_31 rfl ?_
      refine q_v0 d197_32 rfl rfl (xk_136 hC1.1) (Nat.le_of_ble_eq_true rfl) (c175 hC1 (by rw [hC1.l0 h25]; show 0 + 39 ≤ 240; omega) (by omega) (fun M2 κ2 hk2 hC2 f2 => ?_))
      refine n_iinc 1 d197_35 (by decide) rfl rfl ?_
      refine q_goto 26 d197_38 (by decide) ?_
      exact ih (i + 1) κ2 _ _ (by omega) (by omega) hC2 ((f2.1 _ _ (by unfold FX; omega)).trans h25) ((f2.1 _ _ (by unfold FX; omega)).trans h21) (hK.fi f2 (fun b k q1 q2 => by unfold FA at q1; unfold FX at q2; omega)) (hF.trans (f2.mono (fun b k q => FX_Z q))) (by omega) (by rw [show n - i = (n - (i + 1)) + 1 by omega, ytn] at hy; exact hy)
theorem x197 {d : Nat} {M : zM} {Q : Option Value → zM → Prop} {D : yD} {κ : Nat} {x y : Int32} (hR : RX M D κ) (hD : OKD D) (hκ : κ + 4000 < 2147483648) (k : ∀ M', RX M' D κ → Fi FY M M' → Q (some (.int (sRun D x y))) M') : qC (d + 7) 197 [.ref 136, .int x, .int y] M Q := by
  refine qC_of (by decide) (Nat.le_of_ble_eq_true rfl) ?_
  have hC := hR.1
  have hX := hC.1
  have hO : OKW (dT D) (dc D) (dW D) := hC.2.2.1
  have hc6 := hO.1.1
  have hL : XLo [] M (some (dL D)) := hC.2.2.2.2.2.2.1
  have hSa : ∀ s, s < 3 → XSa M s (dS D s) κ := hC.2.2.2.2.1
  have hTk := hC.k
  have hck := hC.2.2.2.2.2.1
  have h240 := hD.2.1
  unfold sRun at k
  rcases zix_c x (n := 61) (by omega) with ⟨n, hn, rfl, en⟩ | ⟨en, nn⟩
  · rw [oz_s en] at k
    cases hv : yvx y with
    | none =>
      rw [ov_n hv] at k
      refine q_iload_n d197_0 rfl ?_
      refine q_iconstN (z := 0) d197_1 ?_
      refine q_bipush (x := nI 60) d197_2 rfl ?_
      refine q_s3 d197_4 (Or.inl rfl) rfl (Nat.le_of_ble_eq_true rfl) (c131t ⟨by omega, by omega⟩ (by omega) ?_)
      refine n0_eq 17 d197_7 (by decide) (by decide) (fun q => absurd q (by decide)) (fun _ => ?_)
      refine q_iload_n d197_10 rfl ?_
      refine q_s1 d197_11 (Or.inl rfl) rfl (Nat.le_of_ble_eq_true rfl) (c192f hv ?_)
      refine n0_ne 20 d197_14 (by decide) (by decide) (fun q => absurd q (by decide)) (fun _ => ?_)
      refine q_bipush (x := (-2)) d197_17 rfl ?_
      refine q_iret d197_19 rfl ?_
      exact k _ hR (Fi.refl _ _)
    | some m =>
      rw [ov_s hv] at k
      obtain ⟨rfl, hm, h50⟩ := yvx_s hv
      refine q_iload_n d197_0 rfl ?_
      refine q_iconstN (z := 0) d197_1 ?_
      refine q_bipush (x := nI 60) d197_2 rfl ?_
      refine q_s3 d197_4 (Or.inl rfl) rfl (Nat.le_of_ble_eq_true rfl) (c131t ⟨by omega, by omega⟩ (by omega) ?_)
      refine n0_eq 17 d197_7 (by decide) (by decide) (fun q => absurd q (by decide)) (fun _ => ?_)
      refine q_iload_n d197_10 rfl ?_
      refine q_s1 d197_11 (Or.inl rfl) rfl (Nat.le_of_ble_eq_true rfl) (c192t hv ?_)
      refine n0_ne 20 d197_14 (by decide) (by decide) (fun _ => ?_) (fun q => absurd q (by decide))
      refine q_aload_n d197_20 rfl ?_
      refine q_v0 d197_21 rfl rfl (xk_136 hX) (Nat.le_of_ble_eq_true rfl) (c198 hR (fun M1 hC1 q25 q21 hK f1 => ?_))
      refine q_iconstN (z := 0) d197_24 ?_
      refine q_istore_n d197_25 (by decide) rfl ?_
      exact l197 (XF := ytn (dT D) (dnm D) n (dW D, none)) hR hκ (by omega) hm h50 (fun M' h1 h2 => k M' h1 h2) (n + 1) 0 κ M1 _ (by omega) (by omega) hC1 q25 q21 hK f1 (by omega) rfl
  · rw [oz_n en] at k
    refine q_iload_n d197_0 rfl ?_
    refine q_iconstN (z := 0) d197_1 ?_
    refine q_bipush (x := nI 60) d197_2 rfl ?_
    refine q_s3 d197_4 (Or.inl rfl) rfl (Nat.le_of_ble_eq_true rfl) (c131f (by decide) (by have := zix_none en; omega) (by decide) ?_)
    refine n0_eq 17 d197_7 (by decide) (by decide) (fun _ => ?_) (fun q => absurd q (by decide))
    refine q_bipush (x := (-2)) d197_17 rfl ?_
    refine q_iret d197_19 rfl ?_
    exact k _ hR (Fi.refl _ _)
