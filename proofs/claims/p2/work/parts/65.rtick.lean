/-! ===== the reference: a tick ===== -/
section RG
variable {G : List yL}
theorem bI_is {p : Bool} (h : bI p = nI 1) : p = true := by
  cases p with
  | true => rfl
  | false => exact absurd h (by decide)
theorem bI_not {p : Bool} (h : ¬ bI p = nI 1) : p = false := by
  cases p with
  | false => rfl
  | true => exact absurd rfl h
theorem d176_0 : decode (zB 176) 0 = .ok (.aload_n 0, 1) := by decide +kernel
theorem d176_1 : decode (zB 176) 1 = .ok (.getfield 36, 3) := by decide +kernel
theorem d176_4 : decode (zB 176) 4 = .ok (.iload_n 1, 1) := by decide +kernel
theorem d176_5 : decode (zB 176) 5 = .ok (.iaload, 1) := by decide +kernel
theorem d176_6 : decode (zB 176) 6 = .ok (.iconst 2, 1) := by decide +kernel
theorem d176_7 : decode (zB 176) 7 = .ok (.if_icmp .ne 11, 3) := by decide +kernel
theorem d176_10 : decode (zB 176) 10 = .ok (.aload_n 0, 1) := by decide +kernel
theorem d176_11 : decode (zB 176) 11 = .ok (.iload_n 1, 1) := by decide +kernel
theorem d176_12 : decode (zB 176) 12 = .ok (.invokevirtual 333, 3) := by decide +kernel
theorem d176_15 : decode (zB 176) 15 = .ok (.goto 99, 3) := by decide +kernel
theorem d176_18 : decode (zB 176) 18 = .ok (.aload_n 0, 1) := by decide +kernel
theorem d176_19 : decode (zB 176) 19 = .ok (.getfield 36, 3) := by decide +kernel
theorem d176_22 : decode (zB 176) 22 = .ok (.iload_n 1, 1) := by decide +kernel
theorem d176_23 : decode (zB 176) 23 = .ok (.iaload, 1) := by decide +kernel
theorem d176_24 : decode (zB 176) 24 = .ok (.iconst 1, 1) := by decide +kernel
theorem d176_25 : decode (zB 176) 25 = .ok (.if_icmp .ne 89, 3) := by decide +kernel
theorem d176_28 : decode (zB 176) 28 = .ok (.aload_n 0, 1) := by decide +kernel
theorem d176_29 : decode (zB 176) 29 = .ok (.iload_n 1, 1) := by decide +kernel
theorem d176_30 : decode (zB 176) 30 = .ok (.invokevirtual 336, 3) := by decide +kernel
theorem d176_33 : decode (zB 176) 33 = .ok (.istore_n 2, 1) := by decide +kernel
theorem d176_34 : decode (zB 176) 34 = .ok (.iconst 1, 1) := by decide +kernel
theorem d176_35 : decode (zB 176) 35 = .ok (.istore_n 3, 1) := by decide +kernel
theorem d176_36 : decode (zB 176) 36 = .ok (.iconst 0, 1) := by decide +kernel
theorem d176_37 : decode (zB 176) 37 = .ok (.istore 4, 2) := by decide +kernel
theorem d176_39 : decode (zB 176) 39 = .ok (.iload 4, 2) := by decide +kernel
theorem d176_41 : decode (zB 176) 41 = .ok (.bipush 12, 2) := by decide +kernel
theorem d176_43 : decode (zB 176) 43 = .ok (.if_icmp .ge 31, 3) := by decide +kernel
theorem d176_46 : decode (zB 176) 46 = .ok (.iload_n 3, 1) := by decide +kernel
theorem d176_47 : decode (zB 176) 47 = .ok (.ifCond .eq 27, 3) := by decide +kernel
theorem d176_50 : decode (zB 176) 50 = .ok (.iload_n 2, 1) := by decide +kernel
theorem d176_51 : decode (zB 176) 51 = .ok (.iload 4, 2) := by decide +kernel
theorem d176_53 : decode (zB 176) 53 = .ok (.ishr, 1) := by decide +kernel
theorem d176_54 : decode (zB 176) 54 = .ok (.iconst 1, 1) := by decide +kernel
theorem d176_55 : decode (zB 176) 55 = .ok (.iand, 1) := by decide +kernel
theorem d176_56 : decode (zB 176) 56 = .ok (.iconst 1, 1) := by decide +kernel
theorem d176_57 : decode (zB 176) 57 = .ok (.if_icmp .ne 11, 3) := by decide +kernel
theorem d176_60 : decode (zB 176) 60 = .ok (.aload_n 0, 1) := by decide +kernel
theorem d176_61 : decode (zB 176) 61 = .ok (.iload_n 1, 1) := by decide +kernel
theorem d176_62 : decode (zB 176) 62 = .ok (.iload 4, 2) := by decide +kernel
theorem d176_64 : decode (zB 176) 64 = .ok (.invokevirtual 339, 3) := by decide +kernel
theorem d176_67 : decode (zB 176) 67 = .ok (.istore_n 3, 1) := by decide +kernel
theorem d176_68 : decode (zB 176) 68 = .ok (.iinc 4 1, 3) := by decide +kernel
theorem d176_71 : decode (zB 176) 71 = .ok (.goto (-32), 3) := by decide +kernel
theorem d176_74 : decode (zB 176) 74 = .ok (.aload_n 0, 1) := by decide +kernel
theorem d176_75 : decode (zB 176) 75 = .ok (.getfield 36, 3) := by decide +kernel
theorem d176_78 : decode (zB 176) 78 = .ok (.iload_n 1, 1) := by decide +kernel
theorem d176_79 : decode (zB 176) 79 = .ok (.iaload, 1) := by decide +kernel
theorem d176_80 : decode (zB 176) 80 = .ok (.iconst 1, 1) := by decide +kernel
theorem d176_81 : decode (zB 176) 81 = .ok (.if_icmp .ne 33, 3) := by decide +kernel
theorem d176_84 : decode (zB 176) 84 = .ok (.aload_n 0, 1) := by decide +kernel
theorem d176_85 : decode (zB 176) 85 = .ok (.iload_n 1, 1) := by decide +kernel
theorem d176_86 : decode (zB 176) 86 = .ok (.iconst 1, 1) := by decide +kernel
theorem d176_87 : decode (zB 176) 87 = .ok (.invokevirtual 304, 3) := by decide +kernel
theorem d176_90 : decode (zB 176) 90 = .ok (.iconst 1, 1) := by decide +kernel
theorem d176_91 : decode (zB 176) 91 = .ok (.aload_n 0, 1) := by decide +kernel
theorem d176_92 : decode (zB 176) 92 = .ok (.getfield 9, 3) := by decide +kernel
theorem d176_95 : decode (zB 176) 95 = .ok (.aload_n 0, 1) := by decide +kernel
theorem d176_96 : decode (zB 176) 96 = .ok (.getfield 39, 3) := by decide +kernel
theorem d176_99 : decode (zB 176) 99 = .ok (.iload_n 1, 1) := by decide +kernel
theorem d176_100 : decode (zB 176) 100 = .ok (.iaload, 1) := by decide +kernel
theorem d176_101 : decode (zB 176) 101 = .ok (.iaload, 1) := by decide +kernel
theorem d176_102 : decode (zB 176) 102 = .ok (.ishl, 1) := by decide +kernel
theorem d176_103 : decode (zB 176) 103 = .ok (.iconst 1, 1) := by decide +kernel
theorem d176_104 : decode (zB 176) 104 = .ok (.isub, 1) := by decide +kernel
theorem d176_105 : decode (zB 176) 105 = .ok (.if_icmp .ne 9, 3) := by decide +kernel
theorem d176_108 : decode (zB 176) 108 = .ok (.aload_n 0, 1) := by decide +kernel
theorem d176_109 : decode (zB 176) 109 = .ok (.iload_n 1, 1) := by decide +kernel
theorem d176_110 : decode (zB 176) 110 = .ok (.iconst 3, 1) := by decide +kernel
theorem d176_111 : decode (zB 176) 111 = .ok (.invokevirtual 323, 3) := by decide +kernel
theorem d176_114 : decode (zB 176) 114 = .ok (.return_, 1) := by decide +kernel
theorem l176 {d : Nat} {Q : Option Value → zM → Prop} {M0 : zM} {T : Nat → yT} {c s g0 fr L0 κ : Nat} {nm : Nat → Nat → Int32} {XF : yX} (hs : s < 3) (hfr : fr < 4096) (hL : L0 + 13 ≤ 240) (hκ : κ + 12 < 2147483648) (k : ∀ M' κ', κ' ≤ κ + 12 → CX G M' T c nm (if gt (yxs XF s) = 1 ∧ gm (yxs XF s) 1 = 2 ^ tn (T g0) - 1 then yen XF s 3 else XF) κ' → Fi FX M0 M' → Q none M') : ∀ (r i : Nat) (κ1 : Nat) (M1 : zM) (X1 : yX), i ≤ 12 → 12 < i + r →  CX G M1 T c nm X1 κ1 → Fi FX M0 M1 → κ1 ≤ κ + i → gx (yxs X1 s) = g0 → (∀ j, i ≤ j → fr.testBit j = true → j < tn (T g0) ∧ gd (yxs X1 s) j = 0) → (gt (yxs X1 s) = 1 ∨ gt (yxs X1 s) = 2 ∨ gt (yxs X1 s) = 5) → ym1 X1 s ≤ L0 + 1 + i → yfl (T g0) (nm s) s fr (12 - i) i X1 = XF → qW (zEv (d + 4)) 176 Q 39 [(4, .int (nI i)), (3, .int (bI (decide (gt (yxs X1 s) = 1)))), (2, .int (nI fr)), (0, .ref 136), (1, .int (nI s))] [] M1 := by
  intro r
  induction r with
  | zero => intros; omega
  | succ r ih =>
    intro i κ1 M1 X1 h1 h2 hC1 hF hk1 hgx hf hg hm hy
    have hX := hC1.1
    have hOs : OKS T c (yxs X1 s) := hC1.2.2.1.2.2 s hs
    have hx : gx (yxs X1 s) < c := hOs.2.1 (by omega)
    have hT := hC1.k
    have hoT := hT.2.2 _ hx
    have hn := hoT.n
    have hc6 := hT.2.1
    have hm4 := gm_lt (yxs X1 s) 1
    have hsa : XSa M1 s (yxs X1 s) κ1 := hC1.2.2.2.2.1 s hs
    have hx1 : zi M1 176 s = nI (gx (yxs X1 s)) := hsa.1.2.trans (if_neg (by omega))
    have hpw : 2 ^ tn (T (gx (yxs X1 s))) ≤ 2 ^ 12 := Nat.pow_le_pow_right (by omega) hn
    have hpw : 2 ^ tn (T (gx (yxs X1 s))) ≤ 4096 := hpw
    have hpw1 : 1 ≤ 2 ^ tn (T (gx (yxs X1 s))) := Nat.one_le_two_pow
    refine q_iload d176_39 rfl ?_
    refine q_bipush (x := nI 12) d176_41 rfl ?_
    refine nc_ge 74 d176_43 (by decide) (by omega) (by omega) (fun h43 => ?_) (fun h43 => ?_)
    · have hXF : XF = X1 := by
        first
        | (rw [show 12 - i = 0 by omega] at hy; exact hy.symm)
        | (rw [show 12 - i = (12 - (i + 1)) + 1 by omega, yfl, if_neg (of_decide_eq_false h47)] at hy; exact hy.symm)
      subst hXF
      rw [← hgx] at k
      refine q_aload_n d176_74 rfl ?_
      refine q_getr (c := 8) (f := 11) d176_75 ⟨rfl, rfl⟩ (xk_136 hX) (xf_states hX) ?_
      refine q_iload_n d176_78 rfl ?_
      refine n_iald d176_79 (xk_states hX) (by omega) (by decide) hsa.1.1 ?_
      refine q_iconstN (z := 1) d176_80 ?_
      refine nc_ne 114 d176_81 (by decide) (by omega) (by omega) (fun h81 => ?_) (fun h81 => ?_)
      · refine q_ret d176_114 rfl ?_
        first
        | (rw [if_pos ⟨h81, h105⟩] at k; exact k _ _ (by omega) hC2 (hF.trans f2))
        | (rw [if_neg (fun q => h105 q.2)] at k; exact k _ _ (by omega) hC1 hF)
        | (rw [if_neg (fun q => h81 q.1)] at k; exact k _ _ (by omega) hC1 hF)
      · refine q_aload_n d176_84 rfl ?_
        refine q_iload_n d176_85 rfl ?_
        refine q_iconstN (z := 1) d176_86 ?_
        refine q_v2 d176_87 rfl rfl (xk_136 hX) (Nat.le_of_ble_eq_true rfl) (c179 (S := yxs _ s) hX hs hsa hT hOs (by omega) ?_)
        refine q_iconstN (z := 1) d176_90 ?_
        refine q_aload_n d176_91 rfl ?_
        refine q_getr (c := 8) (f := 1) d176_92 ⟨rfl, rfl⟩ (xk_136 hX) (xf_stepMany hX) ?_
        refine q_aload_n d176_95 rfl ?_
        refine q_getr (c := 8) (f := 12) d176_96 ⟨rfl, rfl⟩ (xk_136 hX) (xf_textOf hX) ?_
        refine q_iload_n d176_99 rfl ?_
        refine n_iald d176_100 (xk_textOf hX) (by omega) (by decide) hx1 ?_
        refine n_iald d176_101 (xk_stepMany hX) (by omega) (by decide) (hT.1 _ hx).1 ?_
        refine n_ishl1 d176_102 (by omega) ?_
        refine q_iconstN (z := 1) d176_103 ?_
        refine n_isub d176_104 hpw1 ?_
        refine nc_ne 114 d176_105 (by decide) (by omega) (by omega) (fun h105 => ?_) (fun h105 => ?_)
        · refine q_ret d176_114 rfl ?_
          first
          | (rw [if_pos ⟨h81, h105⟩] at k; exact k _ _ (by omega) hC2 (hF.trans f2))
          | (rw [if_neg (fun q => h105 q.2)] at k; exact k _ _ (by omega) hC1 hF)
          | (rw [if_neg (fun q => h81 q.1)] at k; exact k _ _ (by omega) hC1 hF)
        · refine q_aload_n d176_108 rfl ?_
          refine q_iload_n d176_109 rfl ?_
          refine q_iconstN (z := 3) d176_110 ?_
          refine q_v2 d176_111 rfl rfl (xk_136 hX) (Nat.le_of_ble_eq_true rfl) (hC1.over hs (by omega) (by decide) (by decide) (by unfold ym1 at hm; rw [if_pos h81] at hm; omega) (fun M2 hC2 f2 => ?_))
          refine q_ret d176_114 rfl ?_
          first
          | (rw [if_pos ⟨h81, h105⟩] at k; exact k _ _ (by omega) hC2 (hF.trans f2))
          | (rw [if_neg (fun q => h105 q.2)] at k; exact k _ _ (by omega) hC1 hF)
          | (rw [if_neg (fun q => h81 q.1)] at k; exact k _ _ (by omega) hC1 hF)
    · refine q_iload_n d176_46 rfl ?_
      refine b0_eq 74 d176_47 (by decide) (fun h47 => ?_) (fun h47 => ?_)
      · have hXF : XF = X1 := by
          first
          | (rw [show 12 - i = 0 by omega] at hy; exact hy.symm)
          | (rw [show 12 - i = (12 - (i + 1)) + 1 by omega, yfl, if_neg (of_decide_eq_false h47)] at hy; exact hy.symm)
        subst hXF
        rw [← hgx] at k
        refine q_aload_n d176_74 rfl ?_
        refine q_getr (c := 8) (f := 11) d176_75 ⟨rfl, rfl⟩ (xk_136 hX) (xf_states hX) ?_
        refine q_iload_n d176_78 rfl ?_
        refine n_iald d176_79 (xk_states hX) (by omega) (by decide) hsa.1.1 ?_
        refine q_iconstN (z := 1) d176_80 ?_
        refine nc_ne 114 d176_81 (by decide) (by omega) (by omega) (fun h81 => ?_) (fun h81 => ?_)
        · refine q_ret d176_114 rfl ?_
          first
          | (rw [if_pos ⟨h81, h105⟩] at k; exact k _ _ (by omega) hC2 (hF.trans f2))
          | (rw [if_neg (fun q => h105 q.2)] at k; exact k _ _ (by omega) hC1 hF)
          | (rw [if_neg (fun q => h81 q.1)] at k; exact k _ _ (by omega) hC1 hF)
        · refine q_aload_n d176_84 rfl ?_
          refine q_iload_n d176_85 rfl ?_
          refine q_iconstN (z := 1) d176_86 ?_
          refine q_v2 d176_87 rfl rfl (xk_136 hX) (Nat.le_of_ble_eq_true rfl) (c179 (S := yxs _ s) hX hs hsa hT hOs (by omega) ?_)
          refine q_iconstN (z := 1) d176_90 ?_
          refine q_aload_n d176_91 rfl ?_
          refine q_getr (c := 8) (f := 1) d176_92 ⟨rfl, rfl⟩ (xk_136 hX) (xf_stepMany hX) ?_
          refine q_aload_n d176_95 rfl ?_
          refine q_getr (c := 8) (f := 12) d176_96 ⟨rfl, rfl⟩ (xk_136 hX) (xf_textOf hX) ?_
          refine q_iload_n d176_99 rfl ?_
          refine n_iald d176_100 (xk_textOf hX) (by omega) (by decide) hx1 ?_
          refine n_iald d176_101 (xk_stepMany hX) (by omega) (by decide) (hT.1 _ hx).1 ?_
          refine n_ishl1 d176_102 (by omega) ?_
          refine q_iconstN (z := 1) d176_103 ?_
          refine n_isub d176_104 hpw1 ?_
          refine nc_ne 114 d176_105 (by decide) (by omega) (by omega) (fun h105 => ?_) (fun h105 => ?_)
          · refine q_ret d176_114 rfl ?_
            first
            | (rw [if_pos ⟨h81, h105⟩] at k; exact k _ _ (by omega) hC2 (hF.trans f2))
            | (rw [if_neg (fun q => h105 q.2)] at k; exact k _ _ (by omega) hC1 hF)
            | (rw [if_neg (fun q => h81 q.1)] at k; exact k _ _ (by omega) hC1 hF)
          · refine q_aload_n d176_108 rfl ?_
            refine q_iload_n d176_109 rfl ?_
            refine q_iconstN (z := 3) d176_110 ?_
            refine q_v2 d176_111 rfl rfl (xk_136 hX) (Nat.le_of_ble_eq_true rfl) (hC1.over hs (by omega) (by decide) (by decide) (by unfold ym1 at hm; rw [if_pos h81] at hm; omega) (fun M2 hC2 f2 => ?_))
            refine q_ret d176_114 rfl ?_
            first
            | (rw [if_pos ⟨h81, h105⟩] at k; exact k _ _ (by omega) hC2 (hF.trans f2))
            | (rw [if_neg (fun q => h105 q.2)] at k; exact k _ _ (by omega) hC1 hF)
            | (rw [if_neg (fun q => h81 q.1)] at k; exact k _ _ (by omega) hC1 hF)
      · refine q_iload_n d176_50 rfl ?_
        refine q_iload d176_51 rfl ?_
        refine q_ishr d176_53 ?_
        refine q_iconstN (z := 1) d176_54 ?_
        refine q_iand d176_55 ?_
        rw [n_bit (by omega) (by omega)]
        refine q_iconstN (z := 1) d176_56 ?_
        refine ic_ne 68 d176_57 (by decide) (fun h57 => ?_) (fun h57 => ?_)
        · refine n_iinc 1 d176_68 (by decide) rfl rfl ?_
          refine q_goto 39 d176_71 (by decide) ?_
          first
          | (have h1 : gt (yxs X1 s) = 1 := of_decide_eq_true h47
             rw [hgx] at hC2
             have hb := bI_is h57
             have hd1 := ytr_d (T := T g0) (n := nm s i) (i := i) h1
             have hm1 := ytr_m (T := T g0) (n := nm s i) (i := i) h1
             rw [hgx]
             exact ih (i + 1) _ _ _ (by omega) (by omega) hC2 (hF.trans f2) (by omega) (hd1.2.1.trans hgx) (fun j hj hb => ⟨(hf j (by omega) hb).1, by rw [hd1.1 j (by omega)]; exact (hf j (by omega) hb).2⟩) hd1.2.2.2 (by omega) (by rw [show 12 - i = (12 - (i + 1)) + 1 by omega, yfl, if_pos h1, if_pos hb] at hy; exact hy))
          | (have h1 : gt (yxs X1 s) = 1 := of_decide_eq_true h47
             have hb := bI_not h57
             exact ih (i + 1) _ _ _ (by omega) (by omega) hC1 hF (by omega) hgx (fun j hj hb => hf j (by omega) hb) hg (by omega) (by rw [show 12 - i = (12 - (i + 1)) + 1 by omega, yfl, if_pos h1, hb, if_neg (by decide)] at hy; exact hy))
        · refine q_aload_n d176_60 rfl ?_
          refine q_iload_n d176_61 rfl ?_
          refine q_iload d176_62 rfl ?_
          refine q_v2 d176_64 rfl rfl (xk_136 hX) (Nat.le_of_ble_eq_true rfl) (c183 hC1 hs (by rw [hgx]; exact (hf i (Nat.le_refl _) (bI_is h57)).1) (of_decide_eq_true h47) (hf i (Nat.le_refl _) (bI_is h57)).2 (by have h1 : gt (yxs X1 s) = 1 := of_decide_eq_true h47; unfold ym1 at hm; rw [if_pos h1] at hm; omega) (by omega) (fun M2 κ2 hk2 hC2 f2 => ?_))
          refine q_istore_n d176_67 (by decide) rfl ?_
          refine n_iinc 1 d176_68 (by decide) rfl rfl ?_
          refine q_goto 39 d176_71 (by decide) ?_
          first
          | (have h1 : gt (yxs X1 s) = 1 := of_decide_eq_true h47
             rw [hgx] at hC2
             have hb := bI_is h57
             have hd1 := ytr_d (T := T g0) (n := nm s i) (i := i) h1
             have hm1 := ytr_m (T := T g0) (n := nm s i) (i := i) h1
             rw [hgx]
             exact ih (i + 1) _ _ _ (by omega) (by omega) hC2 (hF.trans f2) (by omega) (hd1.2.1.trans hgx) (fun j hj hb => ⟨(hf j (by omega) hb).1, by rw [hd1.1 j (by omega)]; exact (hf j (by omega) hb).2⟩) hd1.2.2.2 (by omega) (by rw [show 12 - i = (12 - (i + 1)) + 1 by omega, yfl, if_pos h1, if_pos hb] at hy; exact hy))
          | (have h1 : gt (yxs X1 s) = 1 := of_decide_eq_true h47
             have hb := bI_not h57
             exact ih (i + 1) _ _ _ (by omega) (by omega) hC1 hF (by omega) hgx (fun j hj hb => hf j (by omega) hb) hg (by omega) (by rw [show 12 - i = (12 - (i + 1)) + 1 by omega, yfl, if_pos h1, hb, if_neg (by decide)] at hy; exact hy))
theorem c176 {d : Nat} {M : zM} {Q : Option Value → zM → Prop} {T : Nat → yT} {c s κ : Nat} {nm : Nat → Nat → Int32} {X : yX} (hC : CX G M T c nm X κ) (hs : s < 3) (hl : yln X.2 + 13 ≤ 240) (hκ : κ + 12 < 2147483648) (k : ∀ M' κ', κ' ≤ κ + 12 → CX G M' T c nm (ytu T nm s X) κ' → Fi FX M M' → Q none M') : qC (d + 5) 176 [.ref 136, .int (nI s)] M Q := by
  refine qC_of (by decide) (Nat.le_of_ble_eq_true rfl) ?_
  have hX := hC.1
  have hOs : OKS T c (yxs X s) := hC.2.2.1.2.2 s hs
  have hg5 := hOs.1
  have hT := hC.k
  have hsa : XSa M s (yxs X s) κ := hC.2.2.2.2.1 s hs
  by_cases g2 : gt (yxs X s) = 2
  · rw [ytu_2 g2] at k
    refine q_aload_n d176_0 rfl ?_
    refine q_getr (c := 8) (f := 11) d176_1 ⟨rfl, rfl⟩ (xk_136 hX) (xf_states hX) ?_
    refine q_iload_n d176_4 rfl ?_
    refine n_iald d176_5 (xk_states hX) (by omega) (by decide) hsa.1.1 ?_
    refine q_iconstN (z := 2) d176_6 ?_
    refine nc_ne 18 d176_7 (by decide) (by omega) (by omega) (fun h7 => (False.elim (h7 g2))) (fun h7 => ?_)
    refine q_aload_n d176_10 rfl ?_
    refine q_iload_n d176_11 rfl ?_
    refine q_v1 d176_12 rfl rfl (xk_136 hX) (Nat.le_of_ble_eq_true rfl) (c177 hC hs (by omega) (by omega) (by omega) (fun M1 hC1 f1 => ?_))
    refine q_goto 114 d176_15 (by decide) ?_
    refine q_ret d176_114 rfl ?_
    exact k _ _ (by omega) hC1 f1
  · by_cases g1 : gt (yxs X s) = 1
    · rw [ytu_1 g1] at k
      have hn := (hT.2.2 _ (hOs.2.1 (by omega))).n
      refine q_aload_n d176_0 rfl ?_
      refine q_getr (c := 8) (f := 11) d176_1 ⟨rfl, rfl⟩ (xk_136 hX) (xf_states hX) ?_
      refine q_iload_n d176_4 rfl ?_
      refine n_iald d176_5 (xk_states hX) (by omega) (by decide) hsa.1.1 ?_
      refine q_iconstN (z := 2) d176_6 ?_
      refine nc_ne 18 d176_7 (by decide) (by omega) (by omega) (fun h7 => ?_) (fun h7 => (False.elim (g2 h7)))
      refine q_aload_n d176_18 rfl ?_
      refine q_getr (c := 8) (f := 11) d176_19 ⟨rfl, rfl⟩ (xk_136 hX) (xf_states hX) ?_
      refine q_iload_n d176_22 rfl ?_
      refine n_iald d176_23 (xk_states hX) (by omega) (by decide) hsa.1.1 ?_
      refine q_iconstN (z := 1) d176_24 ?_
      refine nc_ne 114 d176_25 (by decide) (by omega) (by omega) (fun h25 => (False.elim (h25 g1))) (fun h25 => ?_)
      refine q_aload_n d176_28 rfl ?_
      refine q_iload_n d176_29 rfl ?_
      refine q_v1 d176_30 rfl rfl (xk_136 hX) (Nat.le_of_ble_eq_true rfl) (c182 (S := yxs X s) hX hs hsa hT hOs ?_)
      rw [if_pos g1]
      refine q_istore_n d176_33 (by decide) rfl ?_
      refine q_iconstN (z := 1) d176_34 ?_
      refine q_istore_n d176_35 (by decide) rfl ?_
      refine q_iconstN (z := 0) d176_36 ?_
      refine q_istore d176_37 (by decide) rfl ?_
      rw [show nI 1 = bI (decide (gt (yxs X s) = 1)) by rw [g1]; rfl]
      exact l176 (XF := yfl (T (gx (yxs X s))) (nm s) s (yfr (T (gx (yxs X s))) (yxs X s)) 12 0 X) (L0 := yln X.2) hs (yfr_lt _ _ hn) (by omega) hκ (fun M' κ' q1 q2 f => k M' κ' q1 q2 f) 13 0 κ M X (by omega) (by omega) hC (Fi.refl _ _) (by omega) rfl (fun j _ hj => front_bit hj) (Or.inl g1) (by unfold ym1; rw [if_pos g1]; omega) rfl
    · rw [ytu_0 g1 g2] at k
      refine q_aload_n d176_0 rfl ?_
      refine q_getr (c := 8) (f := 11) d176_1 ⟨rfl, rfl⟩ (xk_136 hX) (xf_states hX) ?_
      refine q_iload_n d176_4 rfl ?_
      refine n_iald d176_5 (xk_states hX) (by omega) (by decide) hsa.1.1 ?_
      refine q_iconstN (z := 2) d176_6 ?_
      refine nc_ne 18 d176_7 (by decide) (by omega) (by omega) (fun h7 => ?_) (fun h7 => (False.elim (g2 h7)))
      refine q_aload_n d176_18 rfl ?_
      refine q_getr (c := 8) (f := 11) d176_19 ⟨rfl, rfl⟩ (xk_136 hX) (xf_states hX) ?_
      refine q_iload_n d176_22 rfl ?_
      refine n_iald d176_23 (xk_states hX) (by omega) (by decide) hsa.1.1 ?_
      refine q_iconstN (z := 1) d176_24 ?_
      refine nc_ne 114 d176_25 (by decide) (by omega) (by omega) (fun h25 => ?_) (fun h25 => (False.elim (g1 h25)))
      refine q_ret d176_114 rfl ?_
      exact k _ _ (by omega) hC (Fi.refl _ _)
theorem d175_0 : decode (zB 175) 0 = .ok (.iconst 0, 1) := by decide +kernel
theorem d175_1 : decode (zB 175) 1 = .ok (.istore_n 1, 1) := by decide +kernel
theorem d175_2 : decode (zB 175) 2 = .ok (.iload_n 1, 1) := by decide +kernel
theorem d175_3 : decode (zB 175) 3 = .ok (.iconst 3, 1) := by decide +kernel
theorem d175_4 : decode (zB 175) 4 = .ok (.if_icmp .ge 14, 3) := by decide +kernel
theorem d175_7 : decode (zB 175) 7 = .ok (.aload_n 0, 1) := by decide +kernel
theorem d175_8 : decode (zB 175) 8 = .ok (.iload_n 1, 1) := by decide +kernel
theorem d175_9 : decode (zB 175) 9 = .ok (.invokevirtual 342, 3) := by decide +kernel
theorem d175_12 : decode (zB 175) 12 = .ok (.iinc 1 1, 3) := by decide +kernel
theorem d175_15 : decode (zB 175) 15 = .ok (.goto (-13), 3) := by decide +kernel
theorem d175_18 : decode (zB 175) 18 = .ok (.return_, 1) := by decide +kernel
theorem l175 {d : Nat} {Q : Option Value → zM → Prop} {M0 : zM} {T : Nat → yT} {c κ : Nat} {nm : Nat → Nat → Int32} {XF : yX} (hκ : κ + 36 < 2147483648) (k : ∀ M' κ', κ' ≤ κ + 36 → CX G M' T c nm XF κ' → Fi FX M0 M' → Q none M') : ∀ (r i : Nat) (κ1 : Nat) (M1 : zM) (X1 : yX), i ≤ 3 → 3 < i + r →  CX G M1 T c nm X1 κ1 → Fi FX M0 M1 → κ1 ≤ κ + 12 * i → yln X1.2 + 13 * (3 - i) ≤ 240 → ytf T nm (3 - i) i X1 = XF → qW (zEv (d + 5)) 175 Q 2 [(1, .int (nI i)), (0, .ref 136)] [] M1 := by
  intro r
  induction r with
  | zero => intros; omega
  | succ r ih =>
    intro i κ1 M1 X1 h1 h2 hC1 hF hk1 hl hy
    refine q_iload_n d175_2 rfl ?_
    refine q_iconstN (z := 3) d175_3 ?_
    refine nc_ge 18 d175_4 (by decide) (by omega) (by omega) (fun h4 => ?_) (fun h4 => ?_)
    · refine q_ret d175_18 rfl ?_
      rw [show 3 - i = 0 by omega] at hy
      have hy : X1 = XF := hy
      rw [hy] at hC1
      exact k _ _ (by omega) hC1 hF
    · refine q_aload_n d175_7 rfl ?_
      refine q_iload_n d175_8 rfl ?_
      refine q_v1 d175_9 rfl rfl (xk_136 hC1.1) (Nat.le_of_ble_eq_true rfl) (c176 hC1 (by omega) (by omega) (by omega) (fun M2 κ2 hk2 hC2 f2 => ?_))
      refine n_iinc 1 d175_12 (by decide) rfl rfl ?_
      refine q_goto 2 d175_15 (by decide) ?_
      exact ih (i + 1) _ _ _ (by omega) (by omega) hC2 (hF.trans f2) (by omega) (by have := (ytu_ok (nm := nm) hC1.2.2.1 (show i < 3 by omega)).2.2; omega) (by rw [show 3 - i = (3 - (i + 1)) + 1 by omega, ytf] at hy; exact hy)
/-- a tick of the reference's world -/
theorem c175 {d : Nat} {M : zM} {Q : Option Value → zM → Prop} {T : Nat → yT} {c κ : Nat} {nm : Nat → Nat → Int32} {X : yX} (hC : CX G M T c nm X κ) (hl : yln X.2 + 39 ≤ 240) (hκ : κ + 36 < 2147483648) (k : ∀ M' κ', κ' ≤ κ + 36 → CX G M' T c nm (yti T nm X) κ' → Fi FX M M' → Q none M') : qC (d + 6) 175 [.ref 136] M Q := by
  refine qC_of (by decide) (Nat.le_of_ble_eq_true rfl) ?_
  refine q_iconstN (z := 0) d175_0 ?_
  refine q_istore_n d175_1 (by decide) rfl ?_
  exact l175 (XF := yti T nm X) hκ k 4 0 κ M X (by omega) (by omega) hC (Fi.refl _ _) (by omega) (by omega) rfl
end RG
