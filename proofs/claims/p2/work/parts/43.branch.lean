/-! ===== contracts: branches are read ===== -/
theorem d30_0 : decode (zB 30) 0 = .ok (.aload_n 0, 1) := by decide +kernel
theorem d30_1 : decode (zB 30) 1 = .ok (.invokevirtual 34, 3) := by decide +kernel
theorem d30_4 : decode (zB 30) 4 = .ok (.aload_n 0, 1) := by decide +kernel
theorem d30_5 : decode (zB 30) 5 = .ok (.iload_n 1, 1) := by decide +kernel
theorem d30_6 : decode (zB 30) 6 = .ok (.iload_n 2, 1) := by decide +kernel
theorem d30_7 : decode (zB 30) 7 = .ok (.invokevirtual 37, 3) := by decide +kernel
theorem d30_10 : decode (zB 30) 10 = .ok (.istore_n 3, 1) := by decide +kernel
theorem d30_11 : decode (zB 30) 11 = .ok (.aload_n 0, 1) := by decide +kernel
theorem d30_12 : decode (zB 30) 12 = .ok (.bipush 124, 2) := by decide +kernel
theorem d30_14 : decode (zB 30) 14 = .ok (.invokevirtual 72, 3) := by decide +kernel
theorem d30_17 : decode (zB 30) 17 = .ok (.iload_n 3, 1) := by decide +kernel
theorem d30_18 : decode (zB 30) 18 = .ok (.aload_n 0, 1) := by decide +kernel
theorem d30_19 : decode (zB 30) 19 = .ok (.iload_n 1, 1) := by decide +kernel
theorem d30_20 : decode (zB 30) 20 = .ok (.iload_n 2, 1) := by decide +kernel
theorem d30_21 : decode (zB 30) 21 = .ok (.invokevirtual 37, 3) := by decide +kernel
theorem d30_24 : decode (zB 30) 24 = .ok (.ior, 1) := by decide +kernel
theorem d30_25 : decode (zB 30) 25 = .ok (.istore_n 3, 1) := by decide +kernel
theorem d30_26 : decode (zB 30) 26 = .ok (.aload_n 0, 1) := by decide +kernel
theorem d30_27 : decode (zB 30) 27 = .ok (.getfield 31, 3) := by decide +kernel
theorem d30_30 : decode (zB 30) 30 = .ok (.iconst (-1), 1) := by decide +kernel
theorem d30_31 : decode (zB 30) 31 = .ok (.if_icmp .ne 25, 3) := by decide +kernel
theorem d30_34 : decode (zB 30) 34 = .ok (.aload_n 0, 1) := by decide +kernel
theorem d30_35 : decode (zB 30) 35 = .ok (.getfield 41, 3) := by decide +kernel
theorem d30_38 : decode (zB 30) 38 = .ok (.bipush 124, 2) := by decide +kernel
theorem d30_40 : decode (zB 30) 40 = .ok (.if_icmp .ne 16, 3) := by decide +kernel
theorem d30_43 : decode (zB 30) 43 = .ok (.aload_n 0, 1) := by decide +kernel
theorem d30_44 : decode (zB 30) 44 = .ok (.invokevirtual 34, 3) := by decide +kernel
theorem d30_47 : decode (zB 30) 47 = .ok (.iload_n 3, 1) := by decide +kernel
theorem d30_48 : decode (zB 30) 48 = .ok (.aload_n 0, 1) := by decide +kernel
theorem d30_49 : decode (zB 30) 49 = .ok (.iload_n 1, 1) := by decide +kernel
theorem d30_50 : decode (zB 30) 50 = .ok (.iload_n 2, 1) := by decide +kernel
theorem d30_51 : decode (zB 30) 51 = .ok (.invokevirtual 37, 3) := by decide +kernel
theorem d30_54 : decode (zB 30) 54 = .ok (.ior, 1) := by decide +kernel
theorem d30_55 : decode (zB 30) 55 = .ok (.istore_n 3, 1) := by decide +kernel
theorem d30_56 : decode (zB 30) 56 = .ok (.aload_n 0, 1) := by decide +kernel
theorem d30_57 : decode (zB 30) 57 = .ok (.bipush 125, 2) := by decide +kernel
theorem d30_59 : decode (zB 30) 59 = .ok (.invokevirtual 72, 3) := by decide +kernel
theorem d30_62 : decode (zB 30) 62 = .ok (.iload_n 3, 1) := by decide +kernel
theorem d30_63 : decode (zB 30) 63 = .ok (.ireturn, 1) := by decide +kernel
theorem c31y {d c n ch : Nat} {M : zM} {Q : Option Value → zM → Prop} {b : Nat → Nat} {K : yQ} (hG : GR M c n b K) (hv : yQv n b K) (t : K.1.1 = ch) (k : ∀ M', GR M' c n b (pAd n b K.1, K.2) → Fi (FG c) M M' → Q none M') : qC (d + 3) 31 [.ref 17, .int (nI ch)] M Q := by
  subst t; exact c31t hG hv k
theorem cOut_x {Q : Option Value → zM → Prop} {M : zM} {c n f : Nat} {b : Nat → Nat} {R : Except Nat (Nat × yQ)} (h : cOut Q M c n b R) (e : R = .error f) : ∀ v M', BR M' c n b f → Fi (FG c) M M' → Q (some (.int v)) M' := by subst e; exact h
theorem cOut_y {Q : Option Value → zM → Prop} {M : zM} {c n o : Nat} {b : Nat → Nat} {K1 : yQ} {R : Except Nat (Nat × yQ)} (h : cOut Q M c n b R) (e : R = .ok (o, K1)) : ∀ M', GR M' c n b K1 → Fi (FG c) M M' → Q (some (.int (nI o))) M' := by subst e; exact h
theorem c30_of (m : Nat) (hm : m ≤ 2) (hL : cLN m) : cBR m := by
  intro d M Q K ah c n b hG hv hah hk
  refine qC_of (d := d + 3 * m + 12) (by decide) (Nat.le_of_ble_eq_true rfl) ?_
  have h120 := hG.2.2.1.1
  have hk1 := hv.1.1.1
  have hk2 := hv.1.1.2.1
  have hk3 := hv.1.1.2.2.1
  have hq : tq m = false := by unfold tq; exact beq_false_of_ne (by omega)
  have hbb := hG.b
  have hva : yQv n b (pAd n b K.1, K.2) := ⟨(pAd_v hv.1 hbb).1, hv.2⟩
  have qL1 := pLd_v hbb m false ah (pAd n b K.1, K.2) hva hah
  cases eL1 : pLd n b m false ah (pAd n b K.1, K.2) with
  | error w =>
    rw [eL1] at qL1
    have wL1 : w ≤ n := qL1
    refine q_aload_n d30_0 rfl ?_
    refine q_v0 d30_1 rfl rfl hG.1.2.1.1 (Nat.le_of_ble_eq_true rfl) (c16 hG.1.2.1 hG.2.2.1 hG.2.2.2.1.2.2 (by omega) (fun M1 hk1 f1 => ?_))
    have hG1 := hG.ad hk1 f1
    have g1 : Fi (FG c) M M1 := f1.mono FK_G
    refine q_aload_n d30_4 rfl ?_
    refine q_iload_n d30_5 rfl ?_
    refine q_iload_n d30_6 rfl ?_
    refine q_v2 d30_7 rfl rfl hG1.1.2.1.1 (Nat.le_of_ble_eq_true rfl) (hL _ _ _ _ _ _ _ _ hG1 hva hah (cOut_e (by rw [hq]; exact eL1) (fun vL1 M2 hB f2 => ?_)))
    have g2 := g1.trans f2
    have hf := Nat.le_trans wL1 h120
    refine q_istore_n d30_10 (by decide) rfl ?_
    refine q_aload_n d30_11 rfl ?_
    refine q_bipush (x := nI 124) d30_12 rfl ?_
    refine q_v1 d30_14 rfl rfl hB.1.2.1.1 (Nat.le_of_ble_eq_true rfl) (c31f hB hf ?_)
    refine q_iload_n d30_17 rfl ?_
    refine q_aload_n d30_18 rfl ?_
    refine q_iload_n d30_19 rfl ?_
    refine q_iload_n d30_20 rfl ?_
    refine q_v2 d30_21 rfl rfl hB.1.2.1.1 (Nat.le_of_ble_eq_true rfl) (c18f hB hf ?_)
    refine q_ior d30_24 ?_
    refine q_istore_n d30_25 (by decide) rfl ?_
    refine q_aload_n d30_26 rfl ?_
    refine q_getv (c := 3) (f := 5) d30_27 ⟨rfl, by decide⟩ hB.1.2.1.1 hB.2.2.2.1 ?_
    refine q_iconst (x := (-1)) d30_30 rfl ?_
    refine ic_ne 56 d30_31 (by decide) (fun h31 => ?_) (fun h31 => (False.elim (nI_m1 (by omega) h31)))
    refine q_aload_n d30_56 rfl ?_
    refine q_bipush (x := nI 125) d30_57 rfl ?_
    refine q_v1 d30_59 rfl rfl hB.1.2.1.1 (Nat.le_of_ble_eq_true rfl) (c31f hB hf ?_)
    refine q_iload_n d30_62 rfl ?_
    refine q_iret d30_63 rfl ?_
    exact cOut_x hk (by unfold pBr pEx pB3; simp [eL1]) _ _ hB g2
  | ok r =>
    obtain ⟨o1, Kb⟩ := r
    rw [eL1] at qL1
    have hvb : yQv n b Kb := qL1.1
    have hnb := qL1.2.1
    have hpb : 2 ^ tn (pAd n b K.1, K.2).2 ≤ 2 ^ tn Kb.2 := Nat.pow_le_pow_right (by omega) hnb
    have h0_b := hvb.1.1.1; have h1_b := hvb.1.1.2.1; have h2_b := hvb.1.1.2.2.1
    by_cases tX1 : Kb.1.1 = 124
    · skip
      have hvc : yQv n b (pAd n b Kb.1, Kb.2) := ⟨(pAd_v hvb.1 hbb).1, hvb.2⟩
      have hahc : ah < 2 ^ tn (pAd n b Kb.1, Kb.2).2 := by show ah < 2 ^ tn Kb.2; have hpb : 2 ^ tn K.2 ≤ 2 ^ tn Kb.2 := hpb; omega
      have qL2 := pLd_v hbb m false ah (pAd n b Kb.1, Kb.2) hvc hahc
      cases eL2 : pLd n b m false ah (pAd n b Kb.1, Kb.2) with
      | error w =>
        rw [eL2] at qL2
        have wL2 : w ≤ n := qL2
        refine q_aload_n d30_0 rfl ?_
        refine q_v0 d30_1 rfl rfl hG.1.2.1.1 (Nat.le_of_ble_eq_true rfl) (c16 hG.1.2.1 hG.2.2.1 hG.2.2.2.1.2.2 (by omega) (fun M1 hk1 f1 => ?_))
        have hG1 := hG.ad hk1 f1
        have g1 : Fi (FG c) M M1 := f1.mono FK_G
        refine q_aload_n d30_4 rfl ?_
        refine q_iload_n d30_5 rfl ?_
        refine q_iload_n d30_6 rfl ?_
        refine q_v2 d30_7 rfl rfl hG1.1.2.1.1 (Nat.le_of_ble_eq_true rfl) (hL _ _ _ _ _ _ _ _ hG1 hva hah (cOut_o (by rw [hq]; exact eL1) (fun M2 hG2 f2 => ?_)))
        have g2 := g1.trans f2
        refine q_istore_n d30_10 (by decide) rfl ?_
        refine q_aload_n d30_11 rfl ?_
        refine q_bipush (x := nI 124) d30_12 rfl ?_
        refine q_v1 d30_14 rfl rfl hG2.1.2.1.1 (Nat.le_of_ble_eq_true rfl) (c31y hG2 hvb tX1 (fun M3 hG3 f3 => ?_))
        have g3 := g2.trans f3
        refine q_iload_n d30_17 rfl ?_
        refine q_aload_n d30_18 rfl ?_
        refine q_iload_n d30_19 rfl ?_
        refine q_iload_n d30_20 rfl ?_
        refine q_v2 d30_21 rfl rfl hG3.1.2.1.1 (Nat.le_of_ble_eq_true rfl) (hL _ _ _ _ _ _ _ _ hG3 hvc hahc (cOut_e (by rw [hq]; exact eL2) (fun vL2 M4 hB f4 => ?_)))
        have g4 := g3.trans f4
        have hf := Nat.le_trans wL2 h120
        refine q_ior d30_24 ?_
        refine q_istore_n d30_25 (by decide) rfl ?_
        refine q_aload_n d30_26 rfl ?_
        refine q_getv (c := 3) (f := 5) d30_27 ⟨rfl, by decide⟩ hB.1.2.1.1 hB.2.2.2.1 ?_
        refine q_iconst (x := (-1)) d30_30 rfl ?_
        refine ic_ne 56 d30_31 (by decide) (fun h31 => ?_) (fun h31 => (False.elim (nI_m1 (by omega) h31)))
        refine q_aload_n d30_56 rfl ?_
        refine q_bipush (x := nI 125) d30_57 rfl ?_
        refine q_v1 d30_59 rfl rfl hB.1.2.1.1 (Nat.le_of_ble_eq_true rfl) (c31f hB hf ?_)
        refine q_iload_n d30_62 rfl ?_
        refine q_iret d30_63 rfl ?_
        exact cOut_x hk (by unfold pBr pEx pB3; simp [eL1, tX1, eL2]) _ _ hB g4
      | ok r =>
        obtain ⟨o2, Kd⟩ := r
        rw [eL2] at qL2
        have hvd : yQv n b Kd := qL2.1
        have hnd := qL2.2.1
        have hpd : 2 ^ tn (pAd n b Kb.1, Kb.2).2 ≤ 2 ^ tn Kd.2 := Nat.pow_le_pow_right (by omega) hnd
        have h0_d := hvd.1.1.1; have h1_d := hvd.1.1.2.1; have h2_d := hvd.1.1.2.2.1
        have hpd : 2 ^ tn Kb.2 ≤ 2 ^ tn Kd.2 := hpd
        have hpb : 2 ^ tn K.2 ≤ 2 ^ tn Kb.2 := hpb
        by_cases tT3 : Kd.1.1 = 124
        · have hve : yQv n b (pAd n b Kd.1, Kd.2) := ⟨(pAd_v hvd.1 hbb).1, hvd.2⟩
          have hahe : ah < 2 ^ tn (pAd n b Kd.1, Kd.2).2 := by show ah < 2 ^ tn Kd.2; omega
          have qL3 := pLd_v hbb m false ah (pAd n b Kd.1, Kd.2) hve hahe
          cases eL3 : pLd n b m false ah (pAd n b Kd.1, Kd.2) with
          | error w =>
            rw [eL3] at qL3
            have wL3 : w ≤ n := qL3
            refine q_aload_n d30_0 rfl ?_
            refine q_v0 d30_1 rfl rfl hG.1.2.1.1 (Nat.le_of_ble_eq_true rfl) (c16 hG.1.2.1 hG.2.2.1 hG.2.2.2.1.2.2 (by omega) (fun M1 hk1 f1 => ?_))
            have hG1 := hG.ad hk1 f1
            have g1 : Fi (FG c) M M1 := f1.mono FK_G
            refine q_aload_n d30_4 rfl ?_
            refine q_iload_n d30_5 rfl ?_
            refine q_iload_n d30_6 rfl ?_
            refine q_v2 d30_7 rfl rfl hG1.1.2.1.1 (Nat.le_of_ble_eq_true rfl) (hL _ _ _ _ _ _ _ _ hG1 hva hah (cOut_o (by rw [hq]; exact eL1) (fun M2 hG2 f2 => ?_)))
            have g2 := g1.trans f2
            refine q_istore_n d30_10 (by decide) rfl ?_
            refine q_aload_n d30_11 rfl ?_
            refine q_bipush (x := nI 124) d30_12 rfl ?_
            refine q_v1 d30_14 rfl rfl hG2.1.2.1.1 (Nat.le_of_ble_eq_true rfl) (c31y hG2 hvb tX1 (fun M3 hG3 f3 => ?_))
            have g3 := g2.trans f3
            refine q_iload_n d30_17 rfl ?_
            refine q_aload_n d30_18 rfl ?_
            refine q_iload_n d30_19 rfl ?_
            refine q_iload_n d30_20 rfl ?_
            refine q_v2 d30_21 rfl rfl hG3.1.2.1.1 (Nat.le_of_ble_eq_true rfl) (hL _ _ _ _ _ _ _ _ hG3 hvc hahc (cOut_o (by rw [hq]; exact eL2) (fun M4 hG4 f4 => ?_)))
            have g4 := g3.trans f4
            refine n_ior d30_24 ?_
            refine q_istore_n d30_25 (by decide) rfl ?_
            refine q_aload_n d30_26 rfl ?_
            refine q_getv (c := 3) (f := 5) d30_27 ⟨rfl, by decide⟩ hG4.1.2.1.1 hG4.2.2.2.2.1 ?_
            refine q_iconst (x := (-1)) d30_30 rfl ?_
            refine ic_ne 56 d30_31 (by decide) (fun h31 => (False.elim (h31 rfl))) (fun h31 => ?_)
            refine q_aload_n d30_34 rfl ?_
            refine q_getv (c := 3) (f := 3) d30_35 ⟨rfl, by decide⟩ hG4.1.2.1.1 hG4.2.2.2.1.1 ?_
            refine q_bipush (x := nI 124) d30_38 rfl ?_
            refine nc_ne 56 d30_40 (by decide) (by omega) (by omega) (fun h40 => (False.elim (h40 tT3))) (fun h40 => ?_)
            refine q_aload_n d30_43 rfl ?_
            refine q_v0 d30_44 rfl rfl hG4.1.2.1.1 (Nat.le_of_ble_eq_true rfl) (c16 hG4.1.2.1 hG4.2.2.1 hG4.2.2.2.1.2.2 (by omega) (fun M5 hk5 f5 => ?_))
            have hG5 := hG4.ad hk5 f5
            have g5 := g4.trans (f5.mono FK_G)
            refine q_iload_n d30_47 rfl ?_
            refine q_aload_n d30_48 rfl ?_
            refine q_iload_n d30_49 rfl ?_
            refine q_iload_n d30_50 rfl ?_
            refine q_v2 d30_51 rfl rfl hG5.1.2.1.1 (Nat.le_of_ble_eq_true rfl) (hL _ _ _ _ _ _ _ _ hG5 hve hahe (cOut_e (by rw [hq]; exact eL3) (fun vL3 M6 hB f6 => ?_)))
            have g6 := g5.trans f6
            have hf := Nat.le_trans wL3 h120
            refine q_ior d30_54 ?_
            refine q_istore_n d30_55 (by decide) rfl ?_
            refine q_aload_n d30_56 rfl ?_
            refine q_bipush (x := nI 125) d30_57 rfl ?_
            refine q_v1 d30_59 rfl rfl hB.1.2.1.1 (Nat.le_of_ble_eq_true rfl) (c31f hB hf ?_)
            refine q_iload_n d30_62 rfl ?_
            refine q_iret d30_63 rfl ?_
            exact cOut_x hk (by unfold pBr pEx pB3; simp [eL1, tX1, eL2, tT3, eL3]) _ _ hB g6
          | ok r =>
            obtain ⟨o3, Kf⟩ := r
            rw [eL3] at qL3
            have hvf : yQv n b Kf := qL3.1
            have hnf := qL3.2.1
            have hpf : 2 ^ tn (pAd n b Kd.1, Kd.2).2 ≤ 2 ^ tn Kf.2 := Nat.pow_le_pow_right (by omega) hnf
            have h0_f := hvf.1.1.1; have h1_f := hvf.1.1.2.1; have h2_f := hvf.1.1.2.2.1
            by_cases tX2 : Kf.1.1 = 125
            · skip
              refine q_aload_n d30_0 rfl ?_
              refine q_v0 d30_1 rfl rfl hG.1.2.1.1 (Nat.le_of_ble_eq_true rfl) (c16 hG.1.2.1 hG.2.2.1 hG.2.2.2.1.2.2 (by omega) (fun M1 hk1 f1 => ?_))
              have hG1 := hG.ad hk1 f1
              have g1 : Fi (FG c) M M1 := f1.mono FK_G
              refine q_aload_n d30_4 rfl ?_
              refine q_iload_n d30_5 rfl ?_
              refine q_iload_n d30_6 rfl ?_
              refine q_v2 d30_7 rfl rfl hG1.1.2.1.1 (Nat.le_of_ble_eq_true rfl) (hL _ _ _ _ _ _ _ _ hG1 hva hah (cOut_o (by rw [hq]; exact eL1) (fun M2 hG2 f2 => ?_)))
              have g2 := g1.trans f2
              refine q_istore_n d30_10 (by decide) rfl ?_
              refine q_aload_n d30_11 rfl ?_
              refine q_bipush (x := nI 124) d30_12 rfl ?_
              refine q_v1 d30_14 rfl rfl hG2.1.2.1.1 (Nat.le_of_ble_eq_true rfl) (c31y hG2 hvb tX1 (fun M3 hG3 f3 => ?_))
              have g3 := g2.trans f3
              refine q_iload_n d30_17 rfl ?_
              refine q_aload_n d30_18 rfl ?_
              refine q_iload_n d30_19 rfl ?_
              refine q_iload_n d30_20 rfl ?_
              refine q_v2 d30_21 rfl rfl hG3.1.2.1.1 (Nat.le_of_ble_eq_true rfl) (hL _ _ _ _ _ _ _ _ hG3 hvc hahc (cOut_o (by rw [hq]; exact eL2) (fun M4 hG4 f4 => ?_)))
              have g4 := g3.trans f4
              refine n_ior d30_24 ?_
              refine q_istore_n d30_25 (by decide) rfl ?_
              refine q_aload_n d30_26 rfl ?_
              refine q_getv (c := 3) (f := 5) d30_27 ⟨rfl, by decide⟩ hG4.1.2.1.1 hG4.2.2.2.2.1 ?_
              refine q_iconst (x := (-1)) d30_30 rfl ?_
              refine ic_ne 56 d30_31 (by decide) (fun h31 => (False.elim (h31 rfl))) (fun h31 => ?_)
              refine q_aload_n d30_34 rfl ?_
              refine q_getv (c := 3) (f := 3) d30_35 ⟨rfl, by decide⟩ hG4.1.2.1.1 hG4.2.2.2.1.1 ?_
              refine q_bipush (x := nI 124) d30_38 rfl ?_
              refine nc_ne 56 d30_40 (by decide) (by omega) (by omega) (fun h40 => (False.elim (h40 tT3))) (fun h40 => ?_)
              refine q_aload_n d30_43 rfl ?_
              refine q_v0 d30_44 rfl rfl hG4.1.2.1.1 (Nat.le_of_ble_eq_true rfl) (c16 hG4.1.2.1 hG4.2.2.1 hG4.2.2.2.1.2.2 (by omega) (fun M5 hk5 f5 => ?_))
              have hG5 := hG4.ad hk5 f5
              have g5 := g4.trans (f5.mono FK_G)
              refine q_iload_n d30_47 rfl ?_
              refine q_aload_n d30_48 rfl ?_
              refine q_iload_n d30_49 rfl ?_
              refine q_iload_n d30_50 rfl ?_
              refine q_v2 d30_51 rfl rfl hG5.1.2.1.1 (Nat.le_of_ble_eq_true rfl) (hL _ _ _ _ _ _ _ _ hG5 hve hahe (cOut_o (by rw [hq]; exact eL3) (fun M6 hG6 f6 => ?_)))
              have g6 := g5.trans f6
              refine n_ior d30_54 ?_
              refine q_istore_n d30_55 (by decide) rfl ?_
              refine q_aload_n d30_56 rfl ?_
              refine q_bipush (x := nI 125) d30_57 rfl ?_
              refine q_v1 d30_59 rfl rfl hG6.1.2.1.1 (Nat.le_of_ble_eq_true rfl) (c31y hG6 hvf tX2 (fun M7 hG7 f7 => ?_))
              have g7 := g6.trans f7
              refine q_iload_n d30_62 rfl ?_
              refine q_iret d30_63 rfl ?_
              exact cOut_y hk (by unfold pBr pEx pB3; simp [eL1, tX1, eL2, tT3, eL3, tX2]) _ hG7 g7
            · skip
              refine q_aload_n d30_0 rfl ?_
              refine q_v0 d30_1 rfl rfl hG.1.2.1.1 (Nat.le_of_ble_eq_true rfl) (c16 hG.1.2.1 hG.2.2.1 hG.2.2.2.1.2.2 (by omega) (fun M1 hk1 f1 => ?_))
              have hG1 := hG.ad hk1 f1
              have g1 : Fi (FG c) M M1 := f1.mono FK_G
              refine q_aload_n d30_4 rfl ?_
              refine q_iload_n d30_5 rfl ?_
              refine q_iload_n d30_6 rfl ?_
              refine q_v2 d30_7 rfl rfl hG1.1.2.1.1 (Nat.le_of_ble_eq_true rfl) (hL _ _ _ _ _ _ _ _ hG1 hva hah (cOut_o (by rw [hq]; exact eL1) (fun M2 hG2 f2 => ?_)))
              have g2 := g1.trans f2
              refine q_istore_n d30_10 (by decide) rfl ?_
              refine q_aload_n d30_11 rfl ?_
              refine q_bipush (x := nI 124) d30_12 rfl ?_
              refine q_v1 d30_14 rfl rfl hG2.1.2.1.1 (Nat.le_of_ble_eq_true rfl) (c31y hG2 hvb tX1 (fun M3 hG3 f3 => ?_))
              have g3 := g2.trans f3
              refine q_iload_n d30_17 rfl ?_
              refine q_aload_n d30_18 rfl ?_
              refine q_iload_n d30_19 rfl ?_
              refine q_iload_n d30_20 rfl ?_
              refine q_v2 d30_21 rfl rfl hG3.1.2.1.1 (Nat.le_of_ble_eq_true rfl) (hL _ _ _ _ _ _ _ _ hG3 hvc hahc (cOut_o (by rw [hq]; exact eL2) (fun M4 hG4 f4 => ?_)))
              have g4 := g3.trans f4
              refine n_ior d30_24 ?_
              refine q_istore_n d30_25 (by decide) rfl ?_
              refine q_aload_n d30_26 rfl ?_
              refine q_getv (c := 3) (f := 5) d30_27 ⟨rfl, by decide⟩ hG4.1.2.1.1 hG4.2.2.2.2.1 ?_
              refine q_iconst (x := (-1)) d30_30 rfl ?_
              refine ic_ne 56 d30_31 (by decide) (fun h31 => (False.elim (h31 rfl))) (fun h31 => ?_)
              refine q_aload_n d30_34 rfl ?_
              refine q_getv (c := 3) (f := 3) d30_35 ⟨rfl, by decide⟩ hG4.1.2.1.1 hG4.2.2.2.1.1 ?_
              refine q_bipush (x := nI 124) d30_38 rfl ?_
              refine nc_ne 56 d30_40 (by decide) (by omega) (by omega) (fun h40 => (False.elim (h40 tT3))) (fun h40 => ?_)
              refine q_aload_n d30_43 rfl ?_
              refine q_v0 d30_44 rfl rfl hG4.1.2.1.1 (Nat.le_of_ble_eq_true rfl) (c16 hG4.1.2.1 hG4.2.2.1 hG4.2.2.2.1.2.2 (by omega) (fun M5 hk5 f5 => ?_))
              have hG5 := hG4.ad hk5 f5
              have g5 := g4.trans (f5.mono FK_G)
              refine q_iload_n d30_47 rfl ?_
              refine q_aload_n d30_48 rfl ?_
              refine q_iload_n d30_49 rfl ?_
              refine q_iload_n d30_50 rfl ?_
              refine q_v2 d30_51 rfl rfl hG5.1.2.1.1 (Nat.le_of_ble_eq_true rfl) (hL _ _ _ _ _ _ _ _ hG5 hve hahe (cOut_o (by rw [hq]; exact eL3) (fun M6 hG6 f6 => ?_)))
              have g6 := g5.trans f6
              refine n_ior d30_54 ?_
              refine q_istore_n d30_55 (by decide) rfl ?_
              refine q_aload_n d30_56 rfl ?_
              refine q_bipush (x := nI 125) d30_57 rfl ?_
              refine q_v1 d30_59 rfl rfl hG6.1.2.1.1 (Nat.le_of_ble_eq_true rfl) (c31n hG6 hvf (by decide) tX2 (fun M7 hB f7 => ?_))
              have g7 := g6.trans f7
              have hf := Nat.le_trans hvf.f h120
              refine q_iload_n d30_62 rfl ?_
              refine q_iret d30_63 rfl ?_
              exact cOut_x hk (by unfold pBr pEx pB3; simp [eL1, tX1, eL2, tT3, eL3, tX2]) _ _ hB g7
        · skip
          by_cases tX2 : Kd.1.1 = 125
          · skip
            refine q_aload_n d30_0 rfl ?_
            refine q_v0 d30_1 rfl rfl hG.1.2.1.1 (Nat.le_of_ble_eq_true rfl) (c16 hG.1.2.1 hG.2.2.1 hG.2.2.2.1.2.2 (by omega) (fun M1 hk1 f1 => ?_))
            have hG1 := hG.ad hk1 f1
            have g1 : Fi (FG c) M M1 := f1.mono FK_G
            refine q_aload_n d30_4 rfl ?_
            refine q_iload_n d30_5 rfl ?_
            refine q_iload_n d30_6 rfl ?_
            refine q_v2 d30_7 rfl rfl hG1.1.2.1.1 (Nat.le_of_ble_eq_true rfl) (hL _ _ _ _ _ _ _ _ hG1 hva hah (cOut_o (by rw [hq]; exact eL1) (fun M2 hG2 f2 => ?_)))
            have g2 := g1.trans f2
            refine q_istore_n d30_10 (by decide) rfl ?_
            refine q_aload_n d30_11 rfl ?_
            refine q_bipush (x := nI 124) d30_12 rfl ?_
            refine q_v1 d30_14 rfl rfl hG2.1.2.1.1 (Nat.le_of_ble_eq_true rfl) (c31y hG2 hvb tX1 (fun M3 hG3 f3 => ?_))
            have g3 := g2.trans f3
            refine q_iload_n d30_17 rfl ?_
            refine q_aload_n d30_18 rfl ?_
            refine q_iload_n d30_19 rfl ?_
            refine q_iload_n d30_20 rfl ?_
            refine q_v2 d30_21 rfl rfl hG3.1.2.1.1 (Nat.le_of_ble_eq_true rfl) (hL _ _ _ _ _ _ _ _ hG3 hvc hahc (cOut_o (by rw [hq]; exact eL2) (fun M4 hG4 f4 => ?_)))
            have g4 := g3.trans f4
            refine n_ior d30_24 ?_
            refine q_istore_n d30_25 (by decide) rfl ?_
            refine q_aload_n d30_26 rfl ?_
            refine q_getv (c := 3) (f := 5) d30_27 ⟨rfl, by decide⟩ hG4.1.2.1.1 hG4.2.2.2.2.1 ?_
            refine q_iconst (x := (-1)) d30_30 rfl ?_
            refine ic_ne 56 d30_31 (by decide) (fun h31 => (False.elim (h31 rfl))) (fun h31 => ?_)
            refine q_aload_n d30_34 rfl ?_
            refine q_getv (c := 3) (f := 3) d30_35 ⟨rfl, by decide⟩ hG4.1.2.1.1 hG4.2.2.2.1.1 ?_
            refine q_bipush (x := nI 124) d30_38 rfl ?_
            refine nc_ne 56 d30_40 (by decide) (by omega) (by omega) (fun h40 => ?_) (fun h40 => (False.elim (tT3 h40)))
            refine q_aload_n d30_56 rfl ?_
            refine q_bipush (x := nI 125) d30_57 rfl ?_
            refine q_v1 d30_59 rfl rfl hG4.1.2.1.1 (Nat.le_of_ble_eq_true rfl) (c31y hG4 hvd tX2 (fun M5 hG5 f5 => ?_))
            have g5 := g4.trans f5
            refine q_iload_n d30_62 rfl ?_
            refine q_iret d30_63 rfl ?_
            exact cOut_y hk (by unfold pBr pEx pB3; simp [eL1, tX1, eL2, tT3, tX2]) _ hG5 g5
          · skip
            refine q_aload_n d30_0 rfl ?_
            refine q_v0 d30_1 rfl rfl hG.1.2.1.1 (Nat.le_of_ble_eq_true rfl) (c16 hG.1.2.1 hG.2.2.1 hG.2.2.2.1.2.2 (by omega) (fun M1 hk1 f1 => ?_))
            have hG1 := hG.ad hk1 f1
            have g1 : Fi (FG c) M M1 := f1.mono FK_G
            refine q_aload_n d30_4 rfl ?_
            refine q_iload_n d30_5 rfl ?_
            refine q_iload_n d30_6 rfl ?_
            refine q_v2 d30_7 rfl rfl hG1.1.2.1.1 (Nat.le_of_ble_eq_true rfl) (hL _ _ _ _ _ _ _ _ hG1 hva hah (cOut_o (by rw [hq]; exact eL1) (fun M2 hG2 f2 => ?_)))
            have g2 := g1.trans f2
            refine q_istore_n d30_10 (by decide) rfl ?_
            refine q_aload_n d30_11 rfl ?_
            refine q_bipush (x := nI 124) d30_12 rfl ?_
            refine q_v1 d30_14 rfl rfl hG2.1.2.1.1 (Nat.le_of_ble_eq_true rfl) (c31y hG2 hvb tX1 (fun M3 hG3 f3 => ?_))
            have g3 := g2.trans f3
            refine q_iload_n d30_17 rfl ?_
            refine q_aload_n d30_18 rfl ?_
            refine q_iload_n d30_19 rfl ?_
            refine q_iload_n d30_20 rfl ?_
            refine q_v2 d30_21 rfl rfl hG3.1.2.1.1 (Nat.le_of_ble_eq_true rfl) (hL _ _ _ _ _ _ _ _ hG3 hvc hahc (cOut_o (by rw [hq]; exact eL2) (fun M4 hG4 f4 => ?_)))
            have g4 := g3.trans f4
            refine n_ior d30_24 ?_
            refine q_istore_n d30_25 (by decide) rfl ?_
            refine q_aload_n d30_26 rfl ?_
            refine q_getv (c := 3) (f := 5) d30_27 ⟨rfl, by decide⟩ hG4.1.2.1.1 hG4.2.2.2.2.1 ?_
            refine q_iconst (x := (-1)) d30_30 rfl ?_
            refine ic_ne 56 d30_31 (by decide) (fun h31 => (False.elim (h31 rfl))) (fun h31 => ?_)
            refine q_aload_n d30_34 rfl ?_
            refine q_getv (c := 3) (f := 3) d30_35 ⟨rfl, by decide⟩ hG4.1.2.1.1 hG4.2.2.2.1.1 ?_
            refine q_bipush (x := nI 124) d30_38 rfl ?_
            refine nc_ne 56 d30_40 (by decide) (by omega) (by omega) (fun h40 => ?_) (fun h40 => (False.elim (tT3 h40)))
            refine q_aload_n d30_56 rfl ?_
            refine q_bipush (x := nI 125) d30_57 rfl ?_
            refine q_v1 d30_59 rfl rfl hG4.1.2.1.1 (Nat.le_of_ble_eq_true rfl) (c31n hG4 hvd (by decide) tX2 (fun M5 hB f5 => ?_))
            have g5 := g4.trans f5
            have hf := Nat.le_trans hvd.f h120
            refine q_iload_n d30_62 rfl ?_
            refine q_iret d30_63 rfl ?_
            exact cOut_x hk (by unfold pBr pEx pB3; simp [eL1, tX1, eL2, tT3, tX2]) _ _ hB g5
    · skip
      refine q_aload_n d30_0 rfl ?_
      refine q_v0 d30_1 rfl rfl hG.1.2.1.1 (Nat.le_of_ble_eq_true rfl) (c16 hG.1.2.1 hG.2.2.1 hG.2.2.2.1.2.2 (by omega) (fun M1 hk1 f1 => ?_))
      have hG1 := hG.ad hk1 f1
      have g1 : Fi (FG c) M M1 := f1.mono FK_G
      refine q_aload_n d30_4 rfl ?_
      refine q_iload_n d30_5 rfl ?_
      refine q_iload_n d30_6 rfl ?_
      refine q_v2 d30_7 rfl rfl hG1.1.2.1.1 (Nat.le_of_ble_eq_true rfl) (hL _ _ _ _ _ _ _ _ hG1 hva hah (cOut_o (by rw [hq]; exact eL1) (fun M2 hG2 f2 => ?_)))
      have g2 := g1.trans f2
      refine q_istore_n d30_10 (by decide) rfl ?_
      refine q_aload_n d30_11 rfl ?_
      refine q_bipush (x := nI 124) d30_12 rfl ?_
      refine q_v1 d30_14 rfl rfl hG2.1.2.1.1 (Nat.le_of_ble_eq_true rfl) (c31n hG2 hvb (by decide) tX1 (fun M3 hB f3 => ?_))
      have g3 := g2.trans f3
      have hf := Nat.le_trans hvb.f h120
      refine q_iload_n d30_17 rfl ?_
      refine q_aload_n d30_18 rfl ?_
      refine q_iload_n d30_19 rfl ?_
      refine q_iload_n d30_20 rfl ?_
      refine q_v2 d30_21 rfl rfl hB.1.2.1.1 (Nat.le_of_ble_eq_true rfl) (c18f hB hf ?_)
      refine n_ior d30_24 ?_
      refine q_istore_n d30_25 (by decide) rfl ?_
      refine q_aload_n d30_26 rfl ?_
      refine q_getv (c := 3) (f := 5) d30_27 ⟨rfl, by decide⟩ hB.1.2.1.1 hB.2.2.2.1 ?_
      refine q_iconst (x := (-1)) d30_30 rfl ?_
      refine ic_ne 56 d30_31 (by decide) (fun h31 => ?_) (fun h31 => (False.elim (nI_m1 (by omega) h31)))
      refine q_aload_n d30_56 rfl ?_
      refine q_bipush (x := nI 125) d30_57 rfl ?_
      refine q_v1 d30_59 rfl rfl hB.1.2.1.1 (Nat.le_of_ble_eq_true rfl) (c31f hB hf ?_)
      refine q_iload_n d30_62 rfl ?_
      refine q_iret d30_63 rfl ?_
      exact cOut_x hk (by unfold pBr pEx pB3; simp [eL1, tX1]) _ _ hB g3
theorem cLN_0 : cLN 0 := c18_of 0 c19_0
theorem cLN_1 : cLN 1 := c18_of 1 (c19_S 0 (by omega) (c30_of 0 (by omega) cLN_0))
theorem cLN_2 : cLN 2 := c18_of 2 (c19_S 1 (by omega) (c30_of 1 (by omega) cLN_1))
theorem cLN_3 : cLN 3 := c18_of 3 (c19_S 2 (by omega) (c30_of 2 (by omega) cLN_2))
theorem d14_0 : decode (zB 14) 0 = .ok (.aload_n 1, 1) := by decide +kernel
theorem d14_1 : decode (zB 14) 1 = .ok (.ifnonnull 8, 3) := by decide +kernel
theorem d14_4 : decode (zB 14) 4 = .ok (.aload_n 0, 1) := by decide +kernel
theorem d14_5 : decode (zB 14) 5 = .ok (.getfield 15, 3) := by decide +kernel
theorem d14_8 : decode (zB 14) 8 = .ok (.ireturn, 1) := by decide +kernel
theorem d14_9 : decode (zB 14) 9 = .ok (.aload_n 0, 1) := by decide +kernel
theorem d14_10 : decode (zB 14) 10 = .ok (.aload_n 1, 1) := by decide +kernel
theorem d14_11 : decode (zB 14) 11 = .ok (.putfield 19, 3) := by decide +kernel
theorem d14_14 : decode (zB 14) 14 = .ok (.aload_n 0, 1) := by decide +kernel
theorem d14_15 : decode (zB 14) 15 = .ok (.getfield 19, 3) := by decide +kernel
theorem d14_18 : decode (zB 14) 18 = .ok (.invokevirtual 23, 3) := by decide +kernel
theorem d14_21 : decode (zB 14) 21 = .ok (.aload_n 0, 1) := by decide +kernel
theorem d14_22 : decode (zB 14) 22 = .ok (.iconst 0, 1) := by decide +kernel
theorem d14_23 : decode (zB 14) 23 = .ok (.putfield 28, 3) := by decide +kernel
theorem d14_26 : decode (zB 14) 26 = .ok (.aload_n 0, 1) := by decide +kernel
theorem d14_27 : decode (zB 14) 27 = .ok (.iconst (-1), 1) := by decide +kernel
theorem d14_28 : decode (zB 14) 28 = .ok (.putfield 31, 3) := by decide +kernel
theorem d14_31 : decode (zB 14) 31 = .ok (.aload_n 0, 1) := by decide +kernel
theorem d14_32 : decode (zB 14) 32 = .ok (.invokevirtual 34, 3) := by decide +kernel
theorem d14_35 : decode (zB 14) 35 = .ok (.aload_n 0, 1) := by decide +kernel
theorem d14_36 : decode (zB 14) 36 = .ok (.iconst 0, 1) := by decide +kernel
theorem d14_37 : decode (zB 14) 37 = .ok (.iconst 0, 1) := by decide +kernel
theorem d14_38 : decode (zB 14) 38 = .ok (.invokevirtual 37, 3) := by decide +kernel
theorem d14_41 : decode (zB 14) 41 = .ok (.pop, 1) := by decide +kernel
theorem d14_42 : decode (zB 14) 42 = .ok (.aload_n 0, 1) := by decide +kernel
theorem d14_43 : decode (zB 14) 43 = .ok (.getfield 41, 3) := by decide +kernel
theorem d14_46 : decode (zB 14) 46 = .ok (.ifCond .eq 7, 3) := by decide +kernel
theorem d14_49 : decode (zB 14) 49 = .ok (.aload_n 0, 1) := by decide +kernel
theorem d14_50 : decode (zB 14) 50 = .ok (.invokevirtual 44, 3) := by decide +kernel
theorem d14_53 : decode (zB 14) 53 = .ok (.aload_n 0, 1) := by decide +kernel
theorem d14_54 : decode (zB 14) 54 = .ok (.getfield 31, 3) := by decide +kernel
theorem d14_57 : decode (zB 14) 57 = .ok (.iconst (-1), 1) := by decide +kernel
theorem d14_58 : decode (zB 14) 58 = .ok (.if_icmp .ne 21, 3) := by decide +kernel
theorem d14_61 : decode (zB 14) 61 = .ok (.aload_n 0, 1) := by decide +kernel
theorem d14_62 : decode (zB 14) 62 = .ok (.getfield 19, 3) := by decide +kernel
theorem d14_65 : decode (zB 14) 65 = .ok (.getfield 47, 3) := by decide +kernel
theorem d14_68 : decode (zB 14) 68 = .ok (.ifCond .ne 11, 3) := by decide +kernel
theorem d14_71 : decode (zB 14) 71 = .ok (.aload_n 0, 1) := by decide +kernel
theorem d14_72 : decode (zB 14) 72 = .ok (.aload_n 0, 1) := by decide +kernel
theorem d14_73 : decode (zB 14) 73 = .ok (.getfield 15, 3) := by decide +kernel
theorem d14_76 : decode (zB 14) 76 = .ok (.putfield 31, 3) := by decide +kernel
theorem d14_79 : decode (zB 14) 79 = .ok (.aload_n 0, 1) := by decide +kernel
theorem d14_80 : decode (zB 14) 80 = .ok (.getfield 31, 3) := by decide +kernel
theorem d14_83 : decode (zB 14) 83 = .ok (.ireturn, 1) := by decide +kernel
def FR (c : Nat) : Nat → Nat → Prop := fun a k => (a = 17 ∧ k ≠ 0 ∧ k ≠ 1) ∨ (20 + 7 * c ≤ a ∧ a < 27 + 7 * c)
theorem FG_R {c : Nat} : ∀ a k, FG c a k → FR c a k := fun a k q => by
  rcases q with q | q
  · exact Or.inl ⟨q.1, by have := q.2; omega, by have := q.2; omega⟩
  · exact Or.inr q
theorem c14 {d : Nat} {M : zM} {Q : Option Value → zM → Prop} {c n : Nat} {b : Nat → Nat} (hS : SC M) (hc : c < 6) (ht : RTp M n b) (k : ∀ T M', pTx n b = .ok T → RP M' (20 + 7 * c) T → Fr (FR c) M M' → SC M' → Q (some (.int (-1))) M') (kb : ∀ f M', pTx n b = .error f → f ≤ n → Fr (FR c) M M' → SC M' → Q (some (.int (nI f))) M') : qC (d + 22) 14 [.ref 17, .ref (20 + 7 * c)] M Q := by
  refine qC_of (d := d + 21) (by decide) (Nat.le_of_ble_eq_true rfl) ?_
  have h120 := ht.1
  have hs := hS.2.1
  have hbb : ∀ i, i < n → b i < 256 := fun i hi => (ht.2.2 i hi).2
  have h0 := ltk_v (Nat.zero_le n) hbb
  have hp0 := pLd_v hbb 3 true 0 (ltk n b 0, yT0) ⟨h0.1, OKB_0⟩ (by show 0 < 2 ^ 0; decide)
  cases e : pLd n b 3 true 0 (ltk n b 0, yT0) with
  | error f =>
    rw [e] at hp0
    have hp0 : f ≤ n := hp0
    refine q_aload_n d14_0 rfl ?_
    refine q_ifnonnull (r := some _) 9 d14_1 (by decide) (fun _ => ?_) (fun q => absurd q (Option.some_ne_none _))
    refine q_aload_n d14_9 rfl ?_
    refine q_aload_n d14_10 rfl ?_
    refine q_putr (r := some ((20 + 7 * c))) (c := 3) (f := 6) d14_11 ⟨rfl, rfl, by decide⟩ hs.1 ?_
    refine q_aload_n d14_14 rfl ?_
    refine q_getr (c := 3) (f := 6) d14_15 ⟨rfl, rfl⟩ hs.1 wr_s ?_
    refine q_v0 d14_18 rfl rfl (hS.pr hc).1 (Nat.le_of_ble_eq_true rfl) (c15 ((SC_wr hS (Or.inl ⟨rfl, rfl⟩)).pr hc) ?_)
    refine q_aload_n d14_21 rfl ?_
    refine q_iconstN (z := 0) d14_22 ?_
    refine q_puti (c := 3) (f := 2) d14_23 ⟨rfl, rfl, by decide⟩ hs.1 ?_
    refine q_aload_n d14_26 rfl ?_
    refine q_iconst (x := (-1)) d14_27 rfl ?_
    refine q_puti (c := 3) (f := 5) d14_28 ⟨rfl, rfl, by decide⟩ hs.1 ?_
    obtain ⟨M1, hM1⟩ : ∃ M1, M1 = zwi (zwi (zwi (zwi (zwr M 17 6 (some (20 + 7 * c))) (20 + 7 * c) 6 (nI 0)) (20 + 7 * c) 7 (-1)) 17 2 (nI 0)) 17 5 (-1) := ⟨_, rfl⟩
    rw [← hM1]
    have fr1 : Fr (FR c) M M1 := by subst hM1; exact (((((Fr.refl _ _).wr (Or.inl ⟨rfl, by omega, by omega⟩)).wi (Or.inr ⟨by omega, by omega⟩)).wi (Or.inr ⟨by omega, by omega⟩)).wi (Or.inl ⟨rfl, by omega, by omega⟩)).wi (Or.inl ⟨rfl, by omega, by omega⟩)
    have sc1 : SC M1 := by subst hM1; exact SC_wi (SC_wi (SC_wi (SC_wi (SC_wr hS (Or.inl ⟨rfl, rfl⟩)) (by omega)) (by omega)) (by omega)) (by omega)
    have ht1 : RTp M1 n b := RTp_fi ht fr1 ⟨fun q => by unfold FR at q; omega, fun k q => by unfold FR at q; omega⟩
    have hf1 : zi M1 17 5 = -1 := by subst hM1; exact wi_s _ _ _ _
    have hp1 : zi M1 17 2 = nI 0 := by subst hM1; rw [wi_n (Or.inr (by decide)), wi_s]
    have hr1 : zr M1 17 6 = some (20 + 7 * c) := by subst hM1; exact wr_s
    have hP1 : RP M1 (20 + 7 * c) yT0 := by subst hM1; exact ⟨by rw [wi_n (Or.inl (by omega)), wi_n (Or.inl (by omega)), wi_n (Or.inr (by decide)), wi_s]; rfl, by rw [wi_n (Or.inl (by omega)), wi_n (Or.inl (by omega)), wi_s]; rfl, fun k hk => absurd hk (Nat.not_lt_zero _)⟩
    refine q_aload_n d14_31 rfl ?_
    refine q_v0 d14_32 rfl rfl sc1.2.1.1 (Nat.le_of_ble_eq_true rfl) (c16 sc1.2.1 ht1 hp1 (by omega) (fun M2 hk2 f2 => ?_))
    have hG2 : GR M2 c n b (ltk n b 0, yT0) := ⟨f2.sc sc1 (fun a k ha q => by have := q.1; omega), hc, RTp_fi ht1 f2.fr FK_t, hk2, (f2.1 _ _ (by unfold FK; omega)).trans hf1, (f2.r _ _).trans hr1, RP_fr hP1 f2.fr (fun a k h1 h2 q => by have := q.1; omega)⟩
    have hv2 : yQv n b (ltk n b 0, yT0) := ⟨h0.1, OKB_0⟩
    have g2 : Fr (FR c) M M2 := fr1.trans (f2.fr.mono (fun a k q => FG_R a k (FK_G a k q)))
    refine q_aload_n d14_35 rfl ?_
    refine q_iconstN (z := 0) d14_36 ?_
    refine q_iconstN (z := 0) d14_37 ?_
    refine q_v2 d14_38 rfl rfl hG2.1.2.1.1 (Nat.le_of_ble_eq_true rfl) (cLN_3 _ _ _ _ _ _ _ _ hG2 hv2 (by show 0 < 2 ^ 0; decide) (cOut_e e (fun v M3 hB f3 => ?_)))
    have hf : f ≤ 120 := Nat.le_trans hp0 h120
    have g3 := g2.trans (f3.fr.mono FG_R)
    refine q_pop d14_41 rfl ?_
    refine q_aload_n d14_42 rfl ?_
    refine q_getv (c := 3) (f := 3) d14_43 ⟨rfl, by decide⟩ hB.1.2.1.1 rfl ?_
    refine i0_eq 53 d14_46 (by decide) (fun h46 => ?_) (fun h46 => ?_)
    · refine q_aload_n d14_53 rfl ?_
      refine q_getv (c := 3) (f := 5) d14_54 ⟨rfl, by decide⟩ hB.1.2.1.1 hB.2.2.2.1 ?_
      refine q_iconst (x := (-1)) d14_57 rfl ?_
      refine ic_ne 79 d14_58 (by decide) (fun h58 => ?_) (fun h58 => (False.elim (nI_m1 (by omega) h58)))
      refine q_aload_n d14_79 rfl ?_
      refine q_getv (c := 3) (f := 5) d14_80 ⟨rfl, by decide⟩ hB.1.2.1.1 hB.2.2.2.1 ?_
      refine q_iret d14_83 rfl ?_
      exact kb _ _ (by unfold pTx; rw [e]) hp0 g3 hB.1
    · refine q_aload_n d14_49 rfl ?_
      refine q_v0 d14_50 rfl rfl hB.1.2.1.1 (Nat.le_of_ble_eq_true rfl) (c24f hB hf ?_)
      refine q_aload_n d14_53 rfl ?_
      refine q_getv (c := 3) (f := 5) d14_54 ⟨rfl, by decide⟩ hB.1.2.1.1 hB.2.2.2.1 ?_
      refine q_iconst (x := (-1)) d14_57 rfl ?_
      refine ic_ne 79 d14_58 (by decide) (fun h58 => ?_) (fun h58 => (False.elim (nI_m1 (by omega) h58)))
      refine q_aload_n d14_79 rfl ?_
      refine q_getv (c := 3) (f := 5) d14_80 ⟨rfl, by decide⟩ hB.1.2.1.1 hB.2.2.2.1 ?_
      refine q_iret d14_83 rfl ?_
      exact kb _ _ (by unfold pTx; rw [e]) hp0 g3 hB.1
  | ok r =>
    obtain ⟨o, K1⟩ := r
    rw [e] at hp0
    by_cases ht0 : K1.1.1 ≠ 0
    · skip
      refine q_aload_n d14_0 rfl ?_
      refine q_ifnonnull (r := some _) 9 d14_1 (by decide) (fun _ => ?_) (fun q => absurd q (Option.some_ne_none _))
      refine q_aload_n d14_9 rfl ?_
      refine q_aload_n d14_10 rfl ?_
      refine q_putr (r := some ((20 + 7 * c))) (c := 3) (f := 6) d14_11 ⟨rfl, rfl, by decide⟩ hs.1 ?_
      refine q_aload_n d14_14 rfl ?_
      refine q_getr (c := 3) (f := 6) d14_15 ⟨rfl, rfl⟩ hs.1 wr_s ?_
      refine q_v0 d14_18 rfl rfl (hS.pr hc).1 (Nat.le_of_ble_eq_true rfl) (c15 ((SC_wr hS (Or.inl ⟨rfl, rfl⟩)).pr hc) ?_)
      refine q_aload_n d14_21 rfl ?_
      refine q_iconstN (z := 0) d14_22 ?_
      refine q_puti (c := 3) (f := 2) d14_23 ⟨rfl, rfl, by decide⟩ hs.1 ?_
      refine q_aload_n d14_26 rfl ?_
      refine q_iconst (x := (-1)) d14_27 rfl ?_
      refine q_puti (c := 3) (f := 5) d14_28 ⟨rfl, rfl, by decide⟩ hs.1 ?_
      obtain ⟨M1, hM1⟩ : ∃ M1, M1 = zwi (zwi (zwi (zwi (zwr M 17 6 (some (20 + 7 * c))) (20 + 7 * c) 6 (nI 0)) (20 + 7 * c) 7 (-1)) 17 2 (nI 0)) 17 5 (-1) := ⟨_, rfl⟩
      rw [← hM1]
      have fr1 : Fr (FR c) M M1 := by subst hM1; exact (((((Fr.refl _ _).wr (Or.inl ⟨rfl, by omega, by omega⟩)).wi (Or.inr ⟨by omega, by omega⟩)).wi (Or.inr ⟨by omega, by omega⟩)).wi (Or.inl ⟨rfl, by omega, by omega⟩)).wi (Or.inl ⟨rfl, by omega, by omega⟩)
      have sc1 : SC M1 := by subst hM1; exact SC_wi (SC_wi (SC_wi (SC_wi (SC_wr hS (Or.inl ⟨rfl, rfl⟩)) (by omega)) (by omega)) (by omega)) (by omega)
      have ht1 : RTp M1 n b := RTp_fi ht fr1 ⟨fun q => by unfold FR at q; omega, fun k q => by unfold FR at q; omega⟩
      have hf1 : zi M1 17 5 = -1 := by subst hM1; exact wi_s _ _ _ _
      have hp1 : zi M1 17 2 = nI 0 := by subst hM1; rw [wi_n (Or.inr (by decide)), wi_s]
      have hr1 : zr M1 17 6 = some (20 + 7 * c) := by subst hM1; exact wr_s
      have hP1 : RP M1 (20 + 7 * c) yT0 := by subst hM1; exact ⟨by rw [wi_n (Or.inl (by omega)), wi_n (Or.inl (by omega)), wi_n (Or.inr (by decide)), wi_s]; rfl, by rw [wi_n (Or.inl (by omega)), wi_n (Or.inl (by omega)), wi_s]; rfl, fun k hk => absurd hk (Nat.not_lt_zero _)⟩
      refine q_aload_n d14_31 rfl ?_
      refine q_v0 d14_32 rfl rfl sc1.2.1.1 (Nat.le_of_ble_eq_true rfl) (c16 sc1.2.1 ht1 hp1 (by omega) (fun M2 hk2 f2 => ?_))
      have hG2 : GR M2 c n b (ltk n b 0, yT0) := ⟨f2.sc sc1 (fun a k ha q => by have := q.1; omega), hc, RTp_fi ht1 f2.fr FK_t, hk2, (f2.1 _ _ (by unfold FK; omega)).trans hf1, (f2.r _ _).trans hr1, RP_fr hP1 f2.fr (fun a k h1 h2 q => by have := q.1; omega)⟩
      have hv2 : yQv n b (ltk n b 0, yT0) := ⟨h0.1, OKB_0⟩
      have g2 : Fr (FR c) M M2 := fr1.trans (f2.fr.mono (fun a k q => FG_R a k (FK_G a k q)))
      refine q_aload_n d14_35 rfl ?_
      refine q_iconstN (z := 0) d14_36 ?_
      refine q_iconstN (z := 0) d14_37 ?_
      refine q_v2 d14_38 rfl rfl hG2.1.2.1.1 (Nat.le_of_ble_eq_true rfl) (cLN_3 _ _ _ _ _ _ _ _ hG2 hv2 (by show 0 < 2 ^ 0; decide) (cOut_o e (fun M3 hG3 f3 => ?_)))
      have g3 := g2.trans (f3.fr.mono FG_R)
      have hv3 : yQv n b K1 := hp0.1
      have hk3 := hv3.1.1.2.2.1
      have htn := hv3.2.1
      refine q_pop d14_41 rfl ?_
      refine q_aload_n d14_42 rfl ?_
      refine q_getv (c := 3) (f := 3) d14_43 ⟨rfl, by decide⟩ hG3.1.2.1.1 hG3.2.2.2.1.1 ?_
      refine n0_eq 53 d14_46 (by decide) (by omega) (fun h46 => (False.elim (ht0 h46))) (fun h46 => ?_)
      refine q_aload_n d14_49 rfl ?_
      refine q_v0 d14_50 rfl rfl hG3.1.2.1.1 (Nat.le_of_ble_eq_true rfl) (c24 hG3 hv3 (fun M4 hB f4 => ?_))
      have hf := Nat.le_trans hv3.f h120
      have g4 := g3.trans (f4.fr.mono FG_R)
      refine q_aload_n d14_53 rfl ?_
      refine q_getv (c := 3) (f := 5) d14_54 ⟨rfl, by decide⟩ hB.1.2.1.1 hB.2.2.2.1 ?_
      refine q_iconst (x := (-1)) d14_57 rfl ?_
      refine ic_ne 79 d14_58 (by decide) (fun h58 => ?_) (fun h58 => (False.elim (nI_m1 (by omega) h58)))
      refine q_aload_n d14_79 rfl ?_
      refine q_getv (c := 3) (f := 5) d14_80 ⟨rfl, by decide⟩ hB.1.2.1.1 hB.2.2.2.1 ?_
      refine q_iret d14_83 rfl ?_
      exact kb _ _ (by unfold pTx; rw [e]; simp only []; exact if_pos ht0) hv3.f g4 hB.1
    · by_cases he0 : tn K1.2 = 0
      · skip
        refine q_aload_n d14_0 rfl ?_
        refine q_ifnonnull (r := some _) 9 d14_1 (by decide) (fun _ => ?_) (fun q => absurd q (Option.some_ne_none _))
        refine q_aload_n d14_9 rfl ?_
        refine q_aload_n d14_10 rfl ?_
        refine q_putr (r := some ((20 + 7 * c))) (c := 3) (f := 6) d14_11 ⟨rfl, rfl, by decide⟩ hs.1 ?_
        refine q_aload_n d14_14 rfl ?_
        refine q_getr (c := 3) (f := 6) d14_15 ⟨rfl, rfl⟩ hs.1 wr_s ?_
        refine q_v0 d14_18 rfl rfl (hS.pr hc).1 (Nat.le_of_ble_eq_true rfl) (c15 ((SC_wr hS (Or.inl ⟨rfl, rfl⟩)).pr hc) ?_)
        refine q_aload_n d14_21 rfl ?_
        refine q_iconstN (z := 0) d14_22 ?_
        refine q_puti (c := 3) (f := 2) d14_23 ⟨rfl, rfl, by decide⟩ hs.1 ?_
        refine q_aload_n d14_26 rfl ?_
        refine q_iconst (x := (-1)) d14_27 rfl ?_
        refine q_puti (c := 3) (f := 5) d14_28 ⟨rfl, rfl, by decide⟩ hs.1 ?_
        obtain ⟨M1, hM1⟩ : ∃ M1, M1 = zwi (zwi (zwi (zwi (zwr M 17 6 (some (20 + 7 * c))) (20 + 7 * c) 6 (nI 0)) (20 + 7 * c) 7 (-1)) 17 2 (nI 0)) 17 5 (-1) := ⟨_, rfl⟩
        rw [← hM1]
        have fr1 : Fr (FR c) M M1 := by subst hM1; exact (((((Fr.refl _ _).wr (Or.inl ⟨rfl, by omega, by omega⟩)).wi (Or.inr ⟨by omega, by omega⟩)).wi (Or.inr ⟨by omega, by omega⟩)).wi (Or.inl ⟨rfl, by omega, by omega⟩)).wi (Or.inl ⟨rfl, by omega, by omega⟩)
        have sc1 : SC M1 := by subst hM1; exact SC_wi (SC_wi (SC_wi (SC_wi (SC_wr hS (Or.inl ⟨rfl, rfl⟩)) (by omega)) (by omega)) (by omega)) (by omega)
        have ht1 : RTp M1 n b := RTp_fi ht fr1 ⟨fun q => by unfold FR at q; omega, fun k q => by unfold FR at q; omega⟩
        have hf1 : zi M1 17 5 = -1 := by subst hM1; exact wi_s _ _ _ _
        have hp1 : zi M1 17 2 = nI 0 := by subst hM1; rw [wi_n (Or.inr (by decide)), wi_s]
        have hr1 : zr M1 17 6 = some (20 + 7 * c) := by subst hM1; exact wr_s
        have hP1 : RP M1 (20 + 7 * c) yT0 := by subst hM1; exact ⟨by rw [wi_n (Or.inl (by omega)), wi_n (Or.inl (by omega)), wi_n (Or.inr (by decide)), wi_s]; rfl, by rw [wi_n (Or.inl (by omega)), wi_n (Or.inl (by omega)), wi_s]; rfl, fun k hk => absurd hk (Nat.not_lt_zero _)⟩
        refine q_aload_n d14_31 rfl ?_
        refine q_v0 d14_32 rfl rfl sc1.2.1.1 (Nat.le_of_ble_eq_true rfl) (c16 sc1.2.1 ht1 hp1 (by omega) (fun M2 hk2 f2 => ?_))
        have hG2 : GR M2 c n b (ltk n b 0, yT0) := ⟨f2.sc sc1 (fun a k ha q => by have := q.1; omega), hc, RTp_fi ht1 f2.fr FK_t, hk2, (f2.1 _ _ (by unfold FK; omega)).trans hf1, (f2.r _ _).trans hr1, RP_fr hP1 f2.fr (fun a k h1 h2 q => by have := q.1; omega)⟩
        have hv2 : yQv n b (ltk n b 0, yT0) := ⟨h0.1, OKB_0⟩
        have g2 : Fr (FR c) M M2 := fr1.trans (f2.fr.mono (fun a k q => FG_R a k (FK_G a k q)))
        refine q_aload_n d14_35 rfl ?_
        refine q_iconstN (z := 0) d14_36 ?_
        refine q_iconstN (z := 0) d14_37 ?_
        refine q_v2 d14_38 rfl rfl hG2.1.2.1.1 (Nat.le_of_ble_eq_true rfl) (cLN_3 _ _ _ _ _ _ _ _ hG2 hv2 (by show 0 < 2 ^ 0; decide) (cOut_o e (fun M3 hG3 f3 => ?_)))
        have g3 := g2.trans (f3.fr.mono FG_R)
        have hv3 : yQv n b K1 := hp0.1
        have hk3 := hv3.1.1.2.2.1
        have htn := hv3.2.1
        refine q_pop d14_41 rfl ?_
        refine q_aload_n d14_42 rfl ?_
        refine q_getv (c := 3) (f := 3) d14_43 ⟨rfl, by decide⟩ hG3.1.2.1.1 hG3.2.2.2.1.1 ?_
        refine n0_eq 53 d14_46 (by decide) (by omega) (fun h46 => ?_) (fun h46 => (False.elim (ht0 h46)))
        refine q_aload_n d14_53 rfl ?_
        refine q_getv (c := 3) (f := 5) d14_54 ⟨rfl, by decide⟩ hG3.1.2.1.1 hG3.2.2.2.2.1 ?_
        refine q_iconst (x := (-1)) d14_57 rfl ?_
        refine ic_ne 79 d14_58 (by decide) (fun h58 => (False.elim (h58 rfl))) (fun h58 => ?_)
        refine q_aload_n d14_61 rfl ?_
        refine q_getr (c := 3) (f := 6) d14_62 ⟨rfl, rfl⟩ hG3.1.2.1.1 hG3.2.2.2.2.2.1 ?_
        refine q_getv (c := 1) (f := 6) d14_65 ⟨rfl, by decide⟩ (hG3.1.pr hG3.2.1).1 hG3.2.2.2.2.2.2.1 ?_
        refine n0_ne 79 d14_68 (by decide) (by omega) (fun h68 => (False.elim (h68 he0))) (fun h68 => ?_)
        refine q_aload_n d14_71 rfl ?_
        refine q_aload_n d14_72 rfl ?_
        refine q_getv (c := 3) (f := 1) d14_73 ⟨rfl, by decide⟩ hG3.1.2.1.1 hG3.2.2.1.2.1 ?_
        refine q_puti (c := 3) (f := 5) d14_76 ⟨rfl, rfl, by decide⟩ hG3.1.2.1.1 ?_
        refine q_aload_n d14_79 rfl ?_
        refine q_getv (c := 3) (f := 5) d14_80 ⟨rfl, by decide⟩ hG3.1.2.1.1 (wi_s _ _ _ _) ?_
        refine q_iret d14_83 rfl ?_
        exact kb _ _ (by unfold pTx; rw [e]; simp only []; rw [if_neg ht0, if_pos he0]) (Nat.le_refl n) (g3.wi (Or.inl ⟨rfl, by omega, by omega⟩)) (SC_wi hG3.1 (by omega))
      · skip
        refine q_aload_n d14_0 rfl ?_
        refine q_ifnonnull (r := some _) 9 d14_1 (by decide) (fun _ => ?_) (fun q => absurd q (Option.some_ne_none _))
        refine q_aload_n d14_9 rfl ?_
        refine q_aload_n d14_10 rfl ?_
        refine q_putr (r := some ((20 + 7 * c))) (c := 3) (f := 6) d14_11 ⟨rfl, rfl, by decide⟩ hs.1 ?_
        refine q_aload_n d14_14 rfl ?_
        refine q_getr (c := 3) (f := 6) d14_15 ⟨rfl, rfl⟩ hs.1 wr_s ?_
        refine q_v0 d14_18 rfl rfl (hS.pr hc).1 (Nat.le_of_ble_eq_true rfl) (c15 ((SC_wr hS (Or.inl ⟨rfl, rfl⟩)).pr hc) ?_)
        refine q_aload_n d14_21 rfl ?_
        refine q_iconstN (z := 0) d14_22 ?_
        refine q_puti (c := 3) (f := 2) d14_23 ⟨rfl, rfl, by decide⟩ hs.1 ?_
        refine q_aload_n d14_26 rfl ?_
        refine q_iconst (x := (-1)) d14_27 rfl ?_
        refine q_puti (c := 3) (f := 5) d14_28 ⟨rfl, rfl, by decide⟩ hs.1 ?_
        obtain ⟨M1, hM1⟩ : ∃ M1, M1 = zwi (zwi (zwi (zwi (zwr M 17 6 (some (20 + 7 * c))) (20 + 7 * c) 6 (nI 0)) (20 + 7 * c) 7 (-1)) 17 2 (nI 0)) 17 5 (-1) := ⟨_, rfl⟩
        rw [← hM1]
        have fr1 : Fr (FR c) M M1 := by subst hM1; exact (((((Fr.refl _ _).wr (Or.inl ⟨rfl, by omega, by omega⟩)).wi (Or.inr ⟨by omega, by omega⟩)).wi (Or.inr ⟨by omega, by omega⟩)).wi (Or.inl ⟨rfl, by omega, by omega⟩)).wi (Or.inl ⟨rfl, by omega, by omega⟩)
        have sc1 : SC M1 := by subst hM1; exact SC_wi (SC_wi (SC_wi (SC_wi (SC_wr hS (Or.inl ⟨rfl, rfl⟩)) (by omega)) (by omega)) (by omega)) (by omega)
        have ht1 : RTp M1 n b := RTp_fi ht fr1 ⟨fun q => by unfold FR at q; omega, fun k q => by unfold FR at q; omega⟩
        have hf1 : zi M1 17 5 = -1 := by subst hM1; exact wi_s _ _ _ _
        have hp1 : zi M1 17 2 = nI 0 := by subst hM1; rw [wi_n (Or.inr (by decide)), wi_s]
        have hr1 : zr M1 17 6 = some (20 + 7 * c) := by subst hM1; exact wr_s
        have hP1 : RP M1 (20 + 7 * c) yT0 := by subst hM1; exact ⟨by rw [wi_n (Or.inl (by omega)), wi_n (Or.inl (by omega)), wi_n (Or.inr (by decide)), wi_s]; rfl, by rw [wi_n (Or.inl (by omega)), wi_n (Or.inl (by omega)), wi_s]; rfl, fun k hk => absurd hk (Nat.not_lt_zero _)⟩
        refine q_aload_n d14_31 rfl ?_
        refine q_v0 d14_32 rfl rfl sc1.2.1.1 (Nat.le_of_ble_eq_true rfl) (c16 sc1.2.1 ht1 hp1 (by omega) (fun M2 hk2 f2 => ?_))
        have hG2 : GR M2 c n b (ltk n b 0, yT0) := ⟨f2.sc sc1 (fun a k ha q => by have := q.1; omega), hc, RTp_fi ht1 f2.fr FK_t, hk2, (f2.1 _ _ (by unfold FK; omega)).trans hf1, (f2.r _ _).trans hr1, RP_fr hP1 f2.fr (fun a k h1 h2 q => by have := q.1; omega)⟩
        have hv2 : yQv n b (ltk n b 0, yT0) := ⟨h0.1, OKB_0⟩
        have g2 : Fr (FR c) M M2 := fr1.trans (f2.fr.mono (fun a k q => FG_R a k (FK_G a k q)))
        refine q_aload_n d14_35 rfl ?_
        refine q_iconstN (z := 0) d14_36 ?_
        refine q_iconstN (z := 0) d14_37 ?_
        refine q_v2 d14_38 rfl rfl hG2.1.2.1.1 (Nat.le_of_ble_eq_true rfl) (cLN_3 _ _ _ _ _ _ _ _ hG2 hv2 (by show 0 < 2 ^ 0; decide) (cOut_o e (fun M3 hG3 f3 => ?_)))
        have g3 := g2.trans (f3.fr.mono FG_R)
        have hv3 : yQv n b K1 := hp0.1
        have hk3 := hv3.1.1.2.2.1
        have htn := hv3.2.1
        refine q_pop d14_41 rfl ?_
        refine q_aload_n d14_42 rfl ?_
        refine q_getv (c := 3) (f := 3) d14_43 ⟨rfl, by decide⟩ hG3.1.2.1.1 hG3.2.2.2.1.1 ?_
        refine n0_eq 53 d14_46 (by decide) (by omega) (fun h46 => ?_) (fun h46 => (False.elim (ht0 h46)))
        refine q_aload_n d14_53 rfl ?_
        refine q_getv (c := 3) (f := 5) d14_54 ⟨rfl, by decide⟩ hG3.1.2.1.1 hG3.2.2.2.2.1 ?_
        refine q_iconst (x := (-1)) d14_57 rfl ?_
        refine ic_ne 79 d14_58 (by decide) (fun h58 => (False.elim (h58 rfl))) (fun h58 => ?_)
        refine q_aload_n d14_61 rfl ?_
        refine q_getr (c := 3) (f := 6) d14_62 ⟨rfl, rfl⟩ hG3.1.2.1.1 hG3.2.2.2.2.2.1 ?_
        refine q_getv (c := 1) (f := 6) d14_65 ⟨rfl, by decide⟩ (hG3.1.pr hG3.2.1).1 hG3.2.2.2.2.2.2.1 ?_
        refine n0_ne 79 d14_68 (by decide) (by omega) (fun h68 => ?_) (fun h68 => (False.elim (he0 h68)))
        refine q_aload_n d14_79 rfl ?_
        refine q_getv (c := 3) (f := 5) d14_80 ⟨rfl, by decide⟩ hG3.1.2.1.1 hG3.2.2.2.2.1 ?_
        refine q_iret d14_83 rfl ?_
        exact k _ _ (by unfold pTx; rw [e]; simp only []; rw [if_neg ht0, if_neg he0]) hG3.2.2.2.2.2.2 g3 hG3.1
