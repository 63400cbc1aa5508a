/-! ===== contracts: turns and ticks ===== -/
theorem yfo_eq {T : yT} {nm : Nat → Int32} {s : Nat} {X : yX} : yfo T nm s X = if gt (yxs (yfl T nm s (yfr T (yxs X s)) 12 0 X) s) = 1 ∧ gm (yxs (yfl T nm s (yfr T (yxs X s)) 12 0 X) s) 1 = 2 ^ tn T - 1 then yen (yfl T nm s (yfr T (yxs X s)) 12 0 X) s 3 else yfl T nm s (yfr T (yxs X s)) 12 0 X := rfl
theorem c71r {d : Nat} {M : zM} {Q : Option Value → zM → Prop} {a b : Nat} {T : yT} {S : yS} (hs : SSg M a) (q2 : zr M a 2 = some b) (hp : SPr M b) (hr : RP M b T) (ho : OKT T) (h3 : ∀ i, gd S i ≤ 3) (q0 : zi M a 0 = nI (gt S)) (hg : gt S = 1) (q3 : zi M a 3 = nI (gm S 1)) (q4 : zi M a 4 = nI (gm S 2)) (q5 : zi M a 5 = nI (gm S 3)) (k : Q (some (.int (nI (yfr T S)))) M) : qC (d + 3) 71 [.ref a] M Q :=
  c71 hs q2 hp hr ho h3 q0 (by omega) q3 q4 q5 (by rw [if_pos hg]; exact k)
theorem yfr_lt (T : yT) (S : yS) (h : tn T ≤ 12) : yfr T S < 4096 := ymk_lt12 _ h
theorem d70_0 : decode (zB 70) 0 = .ok (.aload_n 2, 1) := (congrArg (fun c => decode c 0) zeq70).trans (by decide +kernel)
theorem d70_1 : decode (zB 70) 1 = .ok (.invokevirtual 84, 3) := (congrArg (fun c => decode c 1) zeq70).trans (by decide +kernel)
theorem d70_4 : decode (zB 70) 4 = .ok (.istore_n 3, 1) := (congrArg (fun c => decode c 4) zeq70).trans (by decide +kernel)
theorem d70_5 : decode (zB 70) 5 = .ok (.iconst 0, 1) := (congrArg (fun c => decode c 5) zeq70).trans (by decide +kernel)
theorem d70_6 : decode (zB 70) 6 = .ok (.istore 4, 2) := (congrArg (fun c => decode c 6) zeq70).trans (by decide +kernel)
theorem d70_8 : decode (zB 70) 8 = .ok (.iload 4, 2) := (congrArg (fun c => decode c 8) zeq70).trans (by decide +kernel)
theorem d70_10 : decode (zB 70) 10 = .ok (.bipush 12, 2) := (congrArg (fun c => decode c 10) zeq70).trans (by decide +kernel)
theorem d70_12 : decode (zB 70) 12 = .ok (.if_icmp .ge 34, 3) := (congrArg (fun c => decode c 12) zeq70).trans (by decide +kernel)
theorem d70_15 : decode (zB 70) 15 = .ok (.aload_n 2, 1) := (congrArg (fun c => decode c 15) zeq70).trans (by decide +kernel)
theorem d70_16 : decode (zB 70) 16 = .ok (.getfield 65, 3) := (congrArg (fun c => decode c 16) zeq70).trans (by decide +kernel)
theorem d70_19 : decode (zB 70) 19 = .ok (.iconst 1, 1) := (congrArg (fun c => decode c 19) zeq70).trans (by decide +kernel)
theorem d70_20 : decode (zB 70) 20 = .ok (.if_icmp .ne 26, 3) := (congrArg (fun c => decode c 20) zeq70).trans (by decide +kernel)
theorem d70_23 : decode (zB 70) 23 = .ok (.iload_n 3, 1) := (congrArg (fun c => decode c 23) zeq70).trans (by decide +kernel)
theorem d70_24 : decode (zB 70) 24 = .ok (.iload 4, 2) := (congrArg (fun c => decode c 24) zeq70).trans (by decide +kernel)
theorem d70_26 : decode (zB 70) 26 = .ok (.invokestatic 88, 3) := (congrArg (fun c => decode c 26) zeq70).trans (by decide +kernel)
theorem d70_29 : decode (zB 70) 29 = .ok (.ifCond .eq 11, 3) := (congrArg (fun c => decode c 29) zeq70).trans (by decide +kernel)
theorem d70_32 : decode (zB 70) 32 = .ok (.aload_n 0, 1) := (congrArg (fun c => decode c 32) zeq70).trans (by decide +kernel)
theorem d70_33 : decode (zB 70) 33 = .ok (.iload_n 1, 1) := (congrArg (fun c => decode c 33) zeq70).trans (by decide +kernel)
theorem d70_34 : decode (zB 70) 34 = .ok (.aload_n 2, 1) := (congrArg (fun c => decode c 34) zeq70).trans (by decide +kernel)
theorem d70_35 : decode (zB 70) 35 = .ok (.iload 4, 2) := (congrArg (fun c => decode c 35) zeq70).trans (by decide +kernel)
theorem d70_37 : decode (zB 70) 37 = .ok (.invokevirtual 92, 3) := (congrArg (fun c => decode c 37) zeq70).trans (by decide +kernel)
theorem d70_40 : decode (zB 70) 40 = .ok (.iinc 4 1, 3) := (congrArg (fun c => decode c 40) zeq70).trans (by decide +kernel)
theorem d70_43 : decode (zB 70) 43 = .ok (.goto (-35), 3) := (congrArg (fun c => decode c 43) zeq70).trans (by decide +kernel)
theorem d70_46 : decode (zB 70) 46 = .ok (.aload_n 2, 1) := (congrArg (fun c => decode c 46) zeq70).trans (by decide +kernel)
theorem d70_47 : decode (zB 70) 47 = .ok (.getfield 65, 3) := (congrArg (fun c => decode c 47) zeq70).trans (by decide +kernel)
theorem d70_50 : decode (zB 70) 50 = .ok (.iconst 1, 1) := (congrArg (fun c => decode c 50) zeq70).trans (by decide +kernel)
theorem d70_51 : decode (zB 70) 51 = .ok (.if_icmp .ne 17, 3) := (congrArg (fun c => decode c 51) zeq70).trans (by decide +kernel)
theorem d70_54 : decode (zB 70) 54 = .ok (.aload_n 2, 1) := (congrArg (fun c => decode c 54) zeq70).trans (by decide +kernel)
theorem d70_55 : decode (zB 70) 55 = .ok (.invokevirtual 96, 3) := (congrArg (fun c => decode c 55) zeq70).trans (by decide +kernel)
theorem d70_58 : decode (zB 70) 58 = .ok (.ifCond .eq 10, 3) := (congrArg (fun c => decode c 58) zeq70).trans (by decide +kernel)
theorem d70_61 : decode (zB 70) 61 = .ok (.aload_n 0, 1) := (congrArg (fun c => decode c 61) zeq70).trans (by decide +kernel)
theorem d70_62 : decode (zB 70) 62 = .ok (.iload_n 1, 1) := (congrArg (fun c => decode c 62) zeq70).trans (by decide +kernel)
theorem d70_63 : decode (zB 70) 63 = .ok (.aload_n 2, 1) := (congrArg (fun c => decode c 63) zeq70).trans (by decide +kernel)
theorem d70_64 : decode (zB 70) 64 = .ok (.iconst 3, 1) := (congrArg (fun c => decode c 64) zeq70).trans (by decide +kernel)
theorem d70_65 : decode (zB 70) 65 = .ok (.invokevirtual 99, 3) := (congrArg (fun c => decode c 65) zeq70).trans (by decide +kernel)
theorem d70_68 : decode (zB 70) 68 = .ok (.return_, 1) := (congrArg (fun c => decode c 68) zeq70).trans (by decide +kernel)
theorem l70 {d : Nat} {Q : Option Value → zM → Prop} {lo w u j c : Nat} {T : Nat → yT} {nm : Nat → Nat → Int32} {s : Nat} {M0 : zM} {g0 fr L0 : Nat} {XF : yX} (hs3 : s < 3) (hfr : fr < 4096) (hL : L0 + 13 ≤ 240) (k : ∀ M', CW M' lo w u j T c nm (if gt (yxs XF s) = 1 ∧ gm (yxs XF s) 1 = 2 ^ tn (T g0) - 1 then yen XF s 3 else XF) → Fi (FW lo) M0 M' → Q none M') : ∀ (r i : Nat) (M1 : zM) (X1 : yX), i ≤ 12 → 12 < i + r → CW M1 lo w u j T c nm X1 → Fi (FW lo) M0 M1 → gx (yxs X1 s) = g0 → (∀ j, i ≤ j → fr.testBit j = true → j < tn (T g0) ∧ gd (yxs X1 s) j = 0) → (gt (yxs X1 s) = 1 ∨ gt (yxs X1 s) = 2 ∨ gt (yxs X1 s) = 5) → ym1 X1 s ≤ L0 + 1 + i → yfl (T g0) (nm s) s fr (12 - i) i X1 = XF → qW (zEv (d + 3)) 70 Q 8 [(4, .int (nI i)), (3, .int (nI fr)), (0, .ref w), (1, .int (nI s)), (2, .ref (u + 3 + 8 * s))] [] M1 := by
  intro r
  induction r with
  | zero => intros; omega
  | succ r ih =>
    intro i M1 X1 h1 h2 hC1 hF hgx hf hg hm hy
    have hC1' := hC1
    obtain ⟨hS, hw, hT, hO, hR⟩ := hC1
    have hwo := hS.wo hw
    have hsa := hw.sg hs3
    have hs := hS.sg hsa
    have hd := hw.d
    have hRs : RS M1 (u + 3 + 8 * s) T (nm s) (yxs X1 s) := hR.2.1 s hs3
    have hOs : OKS T c (yxs X1 s) := hO.2.2 s hs3
    have hx : gx (yxs X1 s) < c := hOs.2.1 (by omega)
    have hc6 := hO.1.1
    have ho := hO.1.2 _ hx
    have hn := ho.n
    have hm4 := gm_lt (yxs X1 s) 1
    obtain ⟨⟨q0, q1, q2⟩, ⟨q3, q4, q5⟩, ⟨q7, q8⟩, q9, qa, qb⟩ := hRs
    have e2 : zr M1 (u + 3 + 8 * s) 2 = some (20 + 7 * gx (yxs X1 s)) := q2.trans (if_neg (by show ¬ gt (yxs X1 s) = 0; omega))
    refine q_iload d70_8 rfl ?_
    refine q_bipush (x := nI 12) d70_10 rfl ?_
    refine nc_ge 46 d70_12 (by decide) (by omega) (by omega) (fun h12 => ?_) (fun h12 => ?_)
    · have hXF : XF = X1 := by
        first
        | (rw [show 12 - i = 0 by omega] at hy; exact hy.symm)
        | (rw [show 12 - i = (12 - (i + 1)) + 1 by omega, yfl, if_neg h20] at hy; exact hy.symm)
      subst hXF
      rw [← hgx] at k
      refine q_aload_n d70_46 rfl ?_
      refine q_getv (c := 5) (f := 0) d70_47 ⟨rfl, by decide⟩ hs.1 q0 ?_
      refine q_iconstN (z := 1) d70_50 ?_
      refine nc_ne 68 d70_51 (by decide) (by omega) (by omega) (fun h51 => ?_) (fun h51 => ?_)
      · refine q_ret d70_68 rfl ?_
        first
        | (rw [if_pos ⟨h51, of_decide_eq_true h58⟩] at k; exact k _ hC2 (hF.trans f2))
        | (rw [if_neg (fun q => absurd q.2 (of_decide_eq_false h58))] at k; exact k _ hC1' hF)
        | (rw [if_neg (fun q => h51 q.1)] at k; exact k _ hC1' hF)
      · refine q_aload_n d70_54 rfl ?_
        refine q_v0 d70_55 rfl rfl hs.1 (Nat.le_of_ble_eq_true rfl) (c80 hs e2 (hS.pr (by omega)) (hT _ hx) hn q3 hm4 ?_)
        refine b0_eq 68 d70_58 (by decide) (fun h58 => ?_) (fun h58 => ?_)
        · refine q_ret d70_68 rfl ?_
          first
          | (rw [if_pos ⟨h51, of_decide_eq_true h58⟩] at k; exact k _ hC2 (hF.trans f2))
          | (rw [if_neg (fun q => absurd q.2 (of_decide_eq_false h58))] at k; exact k _ hC1' hF)
          | (rw [if_neg (fun q => h51 q.1)] at k; exact k _ hC1' hF)
        · refine q_aload_n d70_61 rfl ?_
          refine q_iload_n d70_62 rfl ?_
          refine q_aload_n d70_63 rfl ?_
          refine q_iconstN (z := 3) d70_64 ?_
          refine q_v3 d70_65 rfl rfl hwo.1 (Nat.le_of_ble_eq_true rfl) (c79 hC1' hs3 (by omega) (by decide) (by decide) (by unfold ym1 at hm; rw [if_pos h51] at hm; omega) (fun M2 hC2 f2 => ?_))
          refine q_ret d70_68 rfl ?_
          first
          | (rw [if_pos ⟨h51, of_decide_eq_true h58⟩] at k; exact k _ hC2 (hF.trans f2))
          | (rw [if_neg (fun q => absurd q.2 (of_decide_eq_false h58))] at k; exact k _ hC1' hF)
          | (rw [if_neg (fun q => h51 q.1)] at k; exact k _ hC1' hF)
    · refine q_aload_n d70_15 rfl ?_
      refine q_getv (c := 5) (f := 0) d70_16 ⟨rfl, by decide⟩ hs.1 q0 ?_
      refine q_iconstN (z := 1) d70_19 ?_
      refine nc_ne 46 d70_20 (by decide) (by omega) (by omega) (fun h20 => ?_) (fun h20 => ?_)
      · have hXF : XF = X1 := by
          first
          | (rw [show 12 - i = 0 by omega] at hy; exact hy.symm)
          | (rw [show 12 - i = (12 - (i + 1)) + 1 by omega, yfl, if_neg h20] at hy; exact hy.symm)
        subst hXF
        rw [← hgx] at k
        refine q_aload_n d70_46 rfl ?_
        refine q_getv (c := 5) (f := 0) d70_47 ⟨rfl, by decide⟩ hs.1 q0 ?_
        refine q_iconstN (z := 1) d70_50 ?_
        refine nc_ne 68 d70_51 (by decide) (by omega) (by omega) (fun h51 => ?_) (fun h51 => ?_)
        · refine q_ret d70_68 rfl ?_
          first
          | (rw [if_pos ⟨h51, of_decide_eq_true h58⟩] at k; exact k _ hC2 (hF.trans f2))
          | (rw [if_neg (fun q => absurd q.2 (of_decide_eq_false h58))] at k; exact k _ hC1' hF)
          | (rw [if_neg (fun q => h51 q.1)] at k; exact k _ hC1' hF)
        · refine q_aload_n d70_54 rfl ?_
          refine q_v0 d70_55 rfl rfl hs.1 (Nat.le_of_ble_eq_true rfl) (c80 hs e2 (hS.pr (by omega)) (hT _ hx) hn q3 hm4 ?_)
          refine b0_eq 68 d70_58 (by decide) (fun h58 => ?_) (fun h58 => ?_)
          · refine q_ret d70_68 rfl ?_
            first
            | (rw [if_pos ⟨h51, of_decide_eq_true h58⟩] at k; exact k _ hC2 (hF.trans f2))
            | (rw [if_neg (fun q => absurd q.2 (of_decide_eq_false h58))] at k; exact k _ hC1' hF)
            | (rw [if_neg (fun q => h51 q.1)] at k; exact k _ hC1' hF)
          · refine q_aload_n d70_61 rfl ?_
            refine q_iload_n d70_62 rfl ?_
            refine q_aload_n d70_63 rfl ?_
            refine q_iconstN (z := 3) d70_64 ?_
            refine q_v3 d70_65 rfl rfl hwo.1 (Nat.le_of_ble_eq_true rfl) (c79 hC1' hs3 (by omega) (by decide) (by decide) (by unfold ym1 at hm; rw [if_pos h51] at hm; omega) (fun M2 hC2 f2 => ?_))
            refine q_ret d70_68 rfl ?_
            first
            | (rw [if_pos ⟨h51, of_decide_eq_true h58⟩] at k; exact k _ hC2 (hF.trans f2))
            | (rw [if_neg (fun q => absurd q.2 (of_decide_eq_false h58))] at k; exact k _ hC1' hF)
            | (rw [if_neg (fun q => h51 q.1)] at k; exact k _ hC1' hF)
      · refine q_iload_n d70_23 rfl ?_
        refine q_iload d70_24 rfl ?_
        refine q_s2 d70_26 (Or.inr rfl) rfl (Nat.le_of_ble_eq_true rfl) (c35 (by omega) (by omega) ?_)
        refine b0_eq 40 d70_29 (by decide) (fun h29 => ?_) (fun h29 => ?_)
        · refine n_iinc 1 d70_40 (by decide) rfl rfl ?_
          refine q_goto 8 d70_43 (by decide) ?_
          first
          | (have h1 : gt (yxs X1 s) = 1 := h20
             rw [hgx] at hC2
             have hd1 := ytr_d (T := T g0) (n := nm s i) (i := i) h1
             have hm1 := ytr_m (T := T g0) (n := nm s i) (i := i) h1
             exact ih (i + 1) _ _ (by omega) (by omega) hC2 (hF.trans f2) (hd1.2.1.trans hgx) (fun j hj hb => ⟨(hf j (by omega) hb).1, by rw [hd1.1 j (by omega)]; exact (hf j (by omega) hb).2⟩) hd1.2.2.2 (by omega) (by rw [show 12 - i = (12 - (i + 1)) + 1 by omega, yfl, if_pos h1, if_pos h29] at hy; exact hy))
          | (have h1 : gt (yxs X1 s) = 1 := h20
             exact ih (i + 1) _ _ (by omega) (by omega) hC1' hF hgx (fun j hj hb => hf j (by omega) hb) hg (by omega) (by rw [show 12 - i = (12 - (i + 1)) + 1 by omega, yfl, if_pos h1, h29, if_neg (by decide)] at hy; exact hy))
        · refine q_aload_n d70_32 rfl ?_
          refine q_iload_n d70_33 rfl ?_
          refine q_aload_n d70_34 rfl ?_
          refine q_iload d70_35 rfl ?_
          refine q_v3 d70_37 rfl rfl hwo.1 (Nat.le_of_ble_eq_true rfl) (c72 hC1' hs3 h20 (by rw [hgx]; exact (hf i (Nat.le_refl _) h29).1) (hf i (Nat.le_refl _) h29).2 (by unfold ym1 at hm; rw [if_pos h20] at hm; omega) (fun M2 hC2 f2 => ?_))
          refine n_iinc 1 d70_40 (by decide) rfl rfl ?_
          refine q_goto 8 d70_43 (by decide) ?_
          first
          | (have h1 : gt (yxs X1 s) = 1 := h20
             rw [hgx] at hC2
             have hd1 := ytr_d (T := T g0) (n := nm s i) (i := i) h1
             have hm1 := ytr_m (T := T g0) (n := nm s i) (i := i) h1
             exact ih (i + 1) _ _ (by omega) (by omega) hC2 (hF.trans f2) (hd1.2.1.trans hgx) (fun j hj hb => ⟨(hf j (by omega) hb).1, by rw [hd1.1 j (by omega)]; exact (hf j (by omega) hb).2⟩) hd1.2.2.2 (by omega) (by rw [show 12 - i = (12 - (i + 1)) + 1 by omega, yfl, if_pos h1, if_pos h29] at hy; exact hy))
          | (have h1 : gt (yxs X1 s) = 1 := h20
             exact ih (i + 1) _ _ (by omega) (by omega) hC1' hF hgx (fun j hj hb => hf j (by omega) hb) hg (by omega) (by rw [show 12 - i = (12 - (i + 1)) + 1 by omega, yfl, if_pos h1, h29, if_neg (by decide)] at hy; exact hy))
theorem c70 {d : Nat} {M : zM} {Q : Option Value → zM → Prop} {lo w u j c : Nat} {T : Nat → yT} {nm : Nat → Nat → Int32} {X : yX} {s : Nat} (hC : CW M lo w u j T c nm X) (hs3 : s < 3) (h1 : gt (yxs X s) = 1) (hl : yln X.2 + 13 ≤ 240) (k : ∀ M', CW M' lo w u j T c nm (yfo (T (gx (yxs X s))) (nm s) s X) → Fi (FW lo) M M' → Q none M') : qC (d + 4) 70 [.ref w, .int (nI s), .ref (u + 3 + 8 * s)] M Q := by
  have hC0 := hC
  obtain ⟨hS, hw, hT, hO, hR⟩ := hC
  have hwo := hS.wo hw
  have hsa := hw.sg hs3
  have hs := hS.sg hsa
  have hd := hw.d
  have hRs : RS M (u + 3 + 8 * s) T (nm s) (yxs X s) := hR.2.1 s hs3
  have hRs' := hRs
  have hOs : OKS T c (yxs X s) := hO.2.2 s hs3
  have hx : gx (yxs X s) < c := hOs.2.1 (by show gt (yxs X s) ≠ 0; omega)
  have hc6 := hO.1.1
  have ho := hO.1.2 _ hx
  have hn := ho.n
  have hz : gz T (yxs X s) = tn (T (gx (yxs X s))) := by unfold gz; rw [if_neg (by omega)]
  obtain ⟨⟨q0, q1, q2⟩, ⟨q3, q4, q5⟩, ⟨q7, q8⟩, q9, qa, qb⟩ := hRs
  have e2 : zr M (u + 3 + 8 * s) 2 = some (20 + 7 * gx (yxs X s)) := q2.trans (if_neg (by show ¬ gt (yxs X s) = 0; omega))
  refine qC_of (by decide) (Nat.le_of_ble_eq_true rfl) ?_
  refine q_aload_n d70_0 rfl ?_
  refine q_v0 d70_1 rfl rfl hs.1 (Nat.le_of_ble_eq_true rfl) (c71r hs e2 (hS.pr (by omega)) (hT _ hx) ho hOs.2.2.2.2.2 q0 h1 q3 q4 q5 ?_)
  refine q_istore_n d70_4 (by decide) rfl ?_
  refine q_iconstN (z := 0) d70_5 ?_
  refine q_istore d70_6 (by decide) rfl ?_
  exact l70 (XF := yfl (T (gx (yxs X s))) (nm s) s (yfr (T (gx (yxs X s))) (yxs X s)) 12 0 X) (L0 := yln X.2) hs3 (yfr_lt _ _ hn) (by omega) (fun M' hC f => k M' hC f) 13 0 M X (by omega) (by omega) hC0 (Fi.refl _ _) rfl (fun j _ hj => front_bit hj) (Or.inl h1) (by unfold ym1; rw [if_pos h1]; omega) rfl
/-- the turns from saga i on -/
def ytf (T : Nat → yT) (nm : Nat → Nat → Int32) : Nat → Nat → yX → yX
  | 0, _, X => X
  | k + 1, i, X => ytf T nm k (i + 1) (ytu T nm i X)
theorem ytf_ti (T : Nat → yT) (nm : Nat → Nat → Int32) (X : yX) : ytf T nm 3 0 X = yti T nm X := rfl
theorem ytu_1 {T : Nat → yT} {nm : Nat → Nat → Int32} {s : Nat} {X : yX} (h : gt (yxs X s) = 1) : ytu T nm s X = yfo (T (gx (yxs X s))) (nm s) s X := if_pos h
theorem ytu_2 {T : Nat → yT} {nm : Nat → Nat → Int32} {s : Nat} {X : yX} (h : gt (yxs X s) = 2) : ytu T nm s X = yba (T (gx (yxs X s))) s X := by unfold ytu; rw [if_neg (by omega), if_pos h]
theorem ytu_0 {T : Nat → yT} {nm : Nat → Nat → Int32} {s : Nat} {X : yX} (h1 : ¬ gt (yxs X s) = 1) (h2 : ¬ gt (yxs X s) = 2) : ytu T nm s X = X := by unfold ytu; rw [if_neg h1, if_neg h2]
theorem d69_0 : decode (zB 69) 0 = .ok (.iconst 0, 1) := (congrArg (fun c => decode c 0) zeq69).trans (by decide +kernel)
theorem d69_1 : decode (zB 69) 1 = .ok (.istore_n 1, 1) := (congrArg (fun c => decode c 1) zeq69).trans (by decide +kernel)
theorem d69_2 : decode (zB 69) 2 = .ok (.iload_n 1, 1) := (congrArg (fun c => decode c 2) zeq69).trans (by decide +kernel)
theorem d69_3 : decode (zB 69) 3 = .ok (.iconst 3, 1) := (congrArg (fun c => decode c 3) zeq69).trans (by decide +kernel)
theorem d69_4 : decode (zB 69) 4 = .ok (.if_icmp .ge 47, 3) := (congrArg (fun c => decode c 4) zeq69).trans (by decide +kernel)
theorem d69_7 : decode (zB 69) 7 = .ok (.aload_n 0, 1) := (congrArg (fun c => decode c 7) zeq69).trans (by decide +kernel)
theorem d69_8 : decode (zB 69) 8 = .ok (.getfield 20, 3) := (congrArg (fun c => decode c 8) zeq69).trans (by decide +kernel)
theorem d69_11 : decode (zB 69) 11 = .ok (.iload_n 1, 1) := (congrArg (fun c => decode c 11) zeq69).trans (by decide +kernel)
theorem d69_12 : decode (zB 69) 12 = .ok (.aaload, 1) := (congrArg (fun c => decode c 12) zeq69).trans (by decide +kernel)
theorem d69_13 : decode (zB 69) 13 = .ok (.astore_n 2, 1) := (congrArg (fun c => decode c 13) zeq69).trans (by decide +kernel)
theorem d69_14 : decode (zB 69) 14 = .ok (.aload_n 2, 1) := (congrArg (fun c => decode c 14) zeq69).trans (by decide +kernel)
theorem d69_15 : decode (zB 69) 15 = .ok (.getfield 65, 3) := (congrArg (fun c => decode c 15) zeq69).trans (by decide +kernel)
theorem d69_18 : decode (zB 69) 18 = .ok (.iconst 1, 1) := (congrArg (fun c => decode c 18) zeq69).trans (by decide +kernel)
theorem d69_19 : decode (zB 69) 19 = .ok (.if_icmp .ne 12, 3) := (congrArg (fun c => decode c 19) zeq69).trans (by decide +kernel)
theorem d69_22 : decode (zB 69) 22 = .ok (.aload_n 0, 1) := (congrArg (fun c => decode c 22) zeq69).trans (by decide +kernel)
theorem d69_23 : decode (zB 69) 23 = .ok (.iload_n 1, 1) := (congrArg (fun c => decode c 23) zeq69).trans (by decide +kernel)
theorem d69_24 : decode (zB 69) 24 = .ok (.aload_n 2, 1) := (congrArg (fun c => decode c 24) zeq69).trans (by decide +kernel)
theorem d69_25 : decode (zB 69) 25 = .ok (.invokevirtual 77, 3) := (congrArg (fun c => decode c 25) zeq69).trans (by decide +kernel)
theorem d69_28 : decode (zB 69) 28 = .ok (.goto 17, 3) := (congrArg (fun c => decode c 28) zeq69).trans (by decide +kernel)
theorem d69_31 : decode (zB 69) 31 = .ok (.aload_n 2, 1) := (congrArg (fun c => decode c 31) zeq69).trans (by decide +kernel)
theorem d69_32 : decode (zB 69) 32 = .ok (.getfield 65, 3) := (congrArg (fun c => decode c 32) zeq69).trans (by decide +kernel)
theorem d69_35 : decode (zB 69) 35 = .ok (.iconst 2, 1) := (congrArg (fun c => decode c 35) zeq69).trans (by decide +kernel)
theorem d69_36 : decode (zB 69) 36 = .ok (.if_icmp .ne 9, 3) := (congrArg (fun c => decode c 36) zeq69).trans (by decide +kernel)
theorem d69_39 : decode (zB 69) 39 = .ok (.aload_n 0, 1) := (congrArg (fun c => decode c 39) zeq69).trans (by decide +kernel)
theorem d69_40 : decode (zB 69) 40 = .ok (.iload_n 1, 1) := (congrArg (fun c => decode c 40) zeq69).trans (by decide +kernel)
theorem d69_41 : decode (zB 69) 41 = .ok (.aload_n 2, 1) := (congrArg (fun c => decode c 41) zeq69).trans (by decide +kernel)
theorem d69_42 : decode (zB 69) 42 = .ok (.invokevirtual 81, 3) := (congrArg (fun c => decode c 42) zeq69).trans (by decide +kernel)
theorem d69_45 : decode (zB 69) 45 = .ok (.iinc 1 1, 3) := (congrArg (fun c => decode c 45) zeq69).trans (by decide +kernel)
theorem d69_48 : decode (zB 69) 48 = .ok (.goto (-46), 3) := (congrArg (fun c => decode c 48) zeq69).trans (by decide +kernel)
theorem d69_51 : decode (zB 69) 51 = .ok (.return_, 1) := (congrArg (fun c => decode c 51) zeq69).trans (by decide +kernel)
theorem l69 {d : Nat} {Q : Option Value → zM → Prop} {lo w u j c : Nat} {T : Nat → yT} {nm : Nat → Nat → Int32} {M0 : zM} {XF : yX} (k : ∀ M', CW M' lo w u j T c nm XF → Fi (FW lo) M0 M' → Q none M') : ∀ (r i : Nat) (a2 : Nat) (M1 : zM) (X1 : yX), i ≤ 3 → 3 < i + r → CW M1 lo w u j T c nm X1 → Fi (FW lo) M0 M1 → yln X1.2 + 13 * (3 - i) ≤ 240 → ytf T nm (3 - i) i X1 = XF → qW (zEv (d + 4)) 69 Q 2 [(1, .int (nI i)), (2, .ref a2), (0, .ref w)] [] M1 := by
  intro r
  induction r with
  | zero => intros; omega
  | succ r ih =>
    intro i a2 M1 X1 h1 h2 hC1 hF hl hy
    have hC1' := hC1
    obtain ⟨hS, hw, hT, hO, hR⟩ := hC1
    have hwo := hS.wo hw
    have hd := hw.d
    refine q_iload_n d69_2 rfl ?_
    refine q_iconstN (z := 3) d69_3 ?_
    refine nc_ge 51 d69_4 (by decide) (by omega) (by omega) (fun h4 => ?_) (fun h4 => ?_)
    · refine q_ret d69_51 rfl ?_
      rw [show 3 - i = 0 by omega] at hy
      have hy : X1 = XF := hy
      subst hy
      exact k _ hC1' hF
    · have hi3 : i < 3 := by omega
      have hsi := hS.sg (hw.sg hi3)
      have q0 : zi M1 (u + 3 + 8 * i) 0 = nI (gt (yxs X1 i)) := (hR.2.1 i hi3).1.1
      have hg5 : gt (yxs X1 i) ≤ 5 := (hO.2.2 i hi3).1
      have hyl := (ytu_ok (nm := nm) hO hi3).2.2
      rw [show 3 - i = (3 - (i + 1)) + 1 by omega, ytf] at hy
      refine q_aload_n d69_7 rfl ?_
      refine q_getr (c := 6) (f := 3) d69_8 ⟨rfl, rfl⟩ hwo.1 hwo.2.2.2.2.1 ?_
      refine q_iload_n d69_11 rfl ?_
      refine n_aald d69_12 hwo.2.2.2.2.2.1 (by decide) (by omega) (by decide) (hwo.2.2.2.2.2.2 _ (by omega)) ?_
      refine q_astore_n d69_13 (by decide) rfl ?_
      refine q_aload_n d69_14 rfl ?_
      refine q_getv (c := 5) (f := 0) d69_15 ⟨rfl, by decide⟩ hsi.1 q0 ?_
      refine q_iconstN (z := 1) d69_18 ?_
      refine nc_ne 31 d69_19 (by decide) (by omega) (by omega) (fun h19 => ?_) (fun h19 => ?_)
      · refine q_aload_n d69_31 rfl ?_
        refine q_getv (c := 5) (f := 0) d69_32 ⟨rfl, by decide⟩ hsi.1 q0 ?_
        refine q_iconstN (z := 2) d69_35 ?_
        refine nc_ne 45 d69_36 (by decide) (by omega) (by omega) (fun h36 => ?_) (fun h36 => ?_)
        · refine n_iinc 1 d69_45 (by decide) rfl rfl ?_
          refine q_goto 2 d69_48 (by decide) ?_
          first
          | (rw [ytu_1 h19] at hy hyl; exact ih (i + 1) _ _ _ (by omega) (by omega) hC2 (hF.trans f2) (by omega) hy)
          | (rw [ytu_2 h36] at hy hyl; exact ih (i + 1) _ _ _ (by omega) (by omega) hC2 (hF.trans f2) (by omega) hy)
          | (rw [ytu_0 h19 h36] at hy hyl; exact ih (i + 1) _ _ _ (by omega) (by omega) hC1' hF (by omega) hy)
        · refine q_aload_n d69_39 rfl ?_
          refine q_iload_n d69_40 rfl ?_
          refine q_aload_n d69_41 rfl ?_
          refine q_v2 d69_42 rfl rfl hwo.1 (Nat.le_of_ble_eq_true rfl) (c81 hC1' hi3 h36 (by omega) (fun M2 hC2 f2 => ?_))
          refine n_iinc 1 d69_45 (by decide) rfl rfl ?_
          refine q_goto 2 d69_48 (by decide) ?_
          first
          | (rw [ytu_1 h19] at hy hyl; exact ih (i + 1) _ _ _ (by omega) (by omega) hC2 (hF.trans f2) (by omega) hy)
          | (rw [ytu_2 h36] at hy hyl; exact ih (i + 1) _ _ _ (by omega) (by omega) hC2 (hF.trans f2) (by omega) hy)
          | (rw [ytu_0 h19 h36] at hy hyl; exact ih (i + 1) _ _ _ (by omega) (by omega) hC1' hF (by omega) hy)
      · refine q_aload_n d69_22 rfl ?_
        refine q_iload_n d69_23 rfl ?_
        refine q_aload_n d69_24 rfl ?_
        refine q_v2 d69_25 rfl rfl hwo.1 (Nat.le_of_ble_eq_true rfl) (c70 hC1' hi3 h19 (by omega) (fun M2 hC2 f2 => ?_))
        refine q_goto 45 d69_28 (by decide) ?_
        refine n_iinc 1 d69_45 (by decide) rfl rfl ?_
        refine q_goto 2 d69_48 (by decide) ?_
        first
        | (rw [ytu_1 h19] at hy hyl; exact ih (i + 1) _ _ _ (by omega) (by omega) hC2 (hF.trans f2) (by omega) hy)
        | (rw [ytu_2 h36] at hy hyl; exact ih (i + 1) _ _ _ (by omega) (by omega) hC2 (hF.trans f2) (by omega) hy)
        | (rw [ytu_0 h19 h36] at hy hyl; exact ih (i + 1) _ _ _ (by omega) (by omega) hC1' hF (by omega) hy)
theorem c69 {d : Nat} {M : zM} {Q : Option Value → zM → Prop} {lo w u j c : Nat} {T : Nat → yT} {nm : Nat → Nat → Int32} {X : yX} (hC : CW M lo w u j T c nm X) (hl : yln X.2 + 39 ≤ 240) (k : ∀ M', CW M' lo w u j T c nm (yti T nm X) → Fi (FW lo) M M' → Q none M') : qC (d + 5) 69 [.ref w] M Q := by
  have hC1' := hC
  obtain ⟨hS, hw, hT, hO, hR⟩ := hC
  have hwo := hS.wo hw
  have hd := hw.d
  refine qC_of (by decide) (Nat.le_of_ble_eq_true rfl) ?_
  refine q_iconstN (z := 0) d69_0 ?_
  refine q_istore_n d69_1 (by decide) rfl ?_
  refine q_iload_n d69_2 rfl ?_
  refine q_iconstN (z := 3) d69_3 ?_
  refine nc_ge 51 d69_4 (by decide) (by decide) (by decide) (fun q => absurd q (by decide)) (fun _ => ?_)
  have hi3 : 0 < 3 := by omega
  have hsi := hS.sg (hw.sg hi3)
  have q0 : zi M (u + 3 + 8 * 0) 0 = nI (gt (yxs X 0)) := (hR.2.1 0 hi3).1.1
  have hg5 : gt (yxs X 0) ≤ 5 := (hO.2.2 0 hi3).1
  have hyl := (ytu_ok (nm := nm) hO hi3).2.2
  have hy0 : ytf T nm 2 1 (ytu T nm 0 X) = yti T nm X := rfl
  refine q_aload_n d69_7 rfl ?_
  refine q_getr (c := 6) (f := 3) d69_8 ⟨rfl, rfl⟩ hwo.1 hwo.2.2.2.2.1 ?_
  refine q_iload_n d69_11 rfl ?_
  refine n_aald d69_12 hwo.2.2.2.2.2.1 (by decide) (by omega) (by decide) (hwo.2.2.2.2.2.2 _ (by omega)) ?_
  refine q_astore_n d69_13 (by decide) rfl ?_
  refine q_aload_n d69_14 rfl ?_
  refine q_getv (c := 5) (f := 0) d69_15 ⟨rfl, by decide⟩ hsi.1 q0 ?_
  refine q_iconstN (z := 1) d69_18 ?_
  refine nc_ne 31 d69_19 (by decide) (by omega) (by omega) (fun h19 => ?_) (fun h19 => ?_)
  · refine q_aload_n d69_31 rfl ?_
    refine q_getv (c := 5) (f := 0) d69_32 ⟨rfl, by decide⟩ hsi.1 q0 ?_
    refine q_iconstN (z := 2) d69_35 ?_
    refine nc_ne 45 d69_36 (by decide) (by omega) (by omega) (fun h36 => ?_) (fun h36 => ?_)
    · refine n_iinc 1 d69_45 (by decide) rfl rfl ?_
      refine q_goto 2 d69_48 (by decide) ?_
      first
      | (rw [ytu_1 h19] at hyl hy0; exact l69 (XF := yti T nm X) k 3 1 _ _ _ (by omega) (by omega) hC2 f2 (by omega) hy0)
      | (rw [ytu_2 h36] at hyl hy0; exact l69 (XF := yti T nm X) k 3 1 _ _ _ (by omega) (by omega) hC2 f2 (by omega) hy0)
      | (rw [ytu_0 h19 h36] at hyl hy0; exact l69 (XF := yti T nm X) k 3 1 _ _ _ (by omega) (by omega) hC1' (Fi.refl _ _) (by omega) hy0)
    · refine q_aload_n d69_39 rfl ?_
      refine q_iload_n d69_40 rfl ?_
      refine q_aload_n d69_41 rfl ?_
      refine q_v2 d69_42 rfl rfl hwo.1 (Nat.le_of_ble_eq_true rfl) (c81 hC1' (show 0 < 3 by omega) h36 (by omega) (fun M2 hC2 f2 => ?_))
      refine n_iinc 1 d69_45 (by decide) rfl rfl ?_
      refine q_goto 2 d69_48 (by decide) ?_
      first
      | (rw [ytu_1 h19] at hyl hy0; exact l69 (XF := yti T nm X) k 3 1 _ _ _ (by omega) (by omega) hC2 f2 (by omega) hy0)
      | (rw [ytu_2 h36] at hyl hy0; exact l69 (XF := yti T nm X) k 3 1 _ _ _ (by omega) (by omega) hC2 f2 (by omega) hy0)
      | (rw [ytu_0 h19 h36] at hyl hy0; exact l69 (XF := yti T nm X) k 3 1 _ _ _ (by omega) (by omega) hC1' (Fi.refl _ _) (by omega) hy0)
  · refine q_aload_n d69_22 rfl ?_
    refine q_iload_n d69_23 rfl ?_
    refine q_aload_n d69_24 rfl ?_
    refine q_v2 d69_25 rfl rfl hwo.1 (Nat.le_of_ble_eq_true rfl) (c70 hC1' (show 0 < 3 by omega) h19 (by omega) (fun M2 hC2 f2 => ?_))
    refine q_goto 45 d69_28 (by decide) ?_
    refine n_iinc 1 d69_45 (by decide) rfl rfl ?_
    refine q_goto 2 d69_48 (by decide) ?_
    first
    | (rw [ytu_1 h19] at hyl hy0; exact l69 (XF := yti T nm X) k 3 1 _ _ _ (by omega) (by omega) hC2 f2 (by omega) hy0)
    | (rw [ytu_2 h36] at hyl hy0; exact l69 (XF := yti T nm X) k 3 1 _ _ _ (by omega) (by omega) hC2 f2 (by omega) hy0)
    | (rw [ytu_0 h19 h36] at hyl hy0; exact l69 (XF := yti T nm X) k 3 1 _ _ _ (by omega) (by omega) hC1' (Fi.refl _ _) (by omega) hy0)
/-! ===== contracts: what happened happens again ===== -/
/-- numbers as the texts have them -/
def yNm (T : Nat → yT) (W : yW) : Nat → Nat → Int32 := fun s k => tu (T (gx (W.2 s))) k
/-- a line that can come here -/
def yle (T : Nat → yT) (c : Nat) (W : yW) (l : yL) : Prop :=
  (l.1 = 0 ∧ l.2.1 < 3 ∧ l.2.2 < c) ∨
  (l.1 = 1 ∧ l.2.1 < 3 ∧ gt (W.2 l.2.1) = 1 ∧ l.2.2 < tn (T (gx (W.2 l.2.1))) ∧ gd (W.2 l.2.1) l.2.2 = 0 ∧ yob (T (gx (W.2 l.2.1))) W.1 l.2.2 (tu (T (gx (W.2 l.2.1))) l.2.2) 1 = 0) ∨
  (l.1 = 2 ∧ l.2.1 < 3 ∧ gt (W.2 l.2.1) = 1 ∧ l.2.2 < tn (T (gx (W.2 l.2.1)))) ∨
  (l.1 = 3 ∧ l.2.1 < 3 ∧ gt (W.2 l.2.1) ≠ 0 ∧ (∃ t, go (W.2 l.2.1) = l.2.2 :: t) ∧ yob (T (gx (W.2 l.2.1))) W.1 l.2.2 (gb (W.2 l.2.1) l.2.2) (-1) = 0) ∨
  (l.1 = 4 ∧ l.2.1 < 3 ∧ gt (W.2 l.2.1) ≠ 0 ∧ ∃ t, go (W.2 l.2.1) = l.2.2 :: t) ∨
  (l.1 = 5 ∧ l.2.1 < 3 ∧ gt (W.2 l.2.1) ≠ 0 ∧ 3 ≤ l.2.2 ∧ l.2.2 ≤ 5) ∨
  (l.1 = 6 ∧ l.2.1 < 6 ∧ l.2.2 ≤ 9999)
/-- no plans, no reasons -/
def yZ (W : yW) : Prop := ∀ s k, gp (W.2 s) k = 0 ∧ gq (W.2 s) k = 0 ∧ gw (W.2 s) k = 0
theorem OKS_St {T : Nat → yT} {c t : Nat} (h : t < c) : OKS T c (ySt t) :=
  ⟨show (1 : Nat) ≤ 5 by omega, fun _ => h, List.nodup_nil, fun i => by
    show i ∈ [] ↔ (0 : Nat) = 1
    simp, fun _ _ => rfl, fun _ => show (0 : Nat) ≤ 3 by omega⟩
theorem OKS_0 {T : Nat → yT} {c : Nat} : OKS T c yS0 :=
  ⟨show (0 : Nat) ≤ 5 by omega, fun h => absurd rfl h, List.nodup_nil, fun i => by
    show i ∈ [] ↔ (0 : Nat) = 1
    simp, fun _ _ => rfl, fun _ => show (0 : Nat) ≤ 3 by omega⟩
theorem OKP_0 : OKP yP0 := fun _ _ => by show 0 ≤ (100 : Int32) ∧ (100 : Int32) ≤ nI 9999; decide
theorem yag_ok {T : Nat → yT} {c : Nat} {W : yW} {l : yL} (h : OKW T c W) (hl : yle T c W l) : OKW T c (yag T W l) := by
  obtain ⟨e, s, i⟩ := l
  have hS : ∀ S, OKS T c S → OKW T c (W.1, yu W.2 s S) := fun S hS => OKW_ss (X := (W, none)) h hS
  rcases hl with ⟨rfl, h1, h2⟩ | ⟨rfl, h1, h2, h3, h4, h5⟩ | ⟨rfl, h1, h2, h3⟩ | ⟨rfl, h1, h2, ⟨t, h3⟩, h5⟩ | ⟨rfl, h1, h2, ⟨t, h3⟩⟩ | ⟨rfl, h1, h2, h3⟩ | ⟨rfl, h1, h2⟩
  · exact hS _ (OKS_St h2)
  · have h2 : gt (W.2 s) = 1 := h2
    have hT := h.1.2 _ ((h.2.2 s h1).2.1 (by omega))
    have hz : gz T (W.2 s) = tn (T (gx (W.2 s))) := by unfold gz; rw [if_neg (by omega)]
    exact OKW_ss (X := ((ych (T (gx (W.2 s))) W.1 i (tu (T (gx (W.2 s))) i) 1, W.2), none)) ⟨h.1, OKP_ch hT h3 h.2.1 h5, h.2.2⟩ (OKS_done (h.2.2 s h1) (by rw [hz]; exact h3) h4)
  · have h2 : gt (W.2 s) = 1 := h2
    exact hS _ (OKS_fS (h.2.2 s h1) (by omega))
  · have hO := h.2.2 s h1
    have hT := h.1.2 _ (hO.2.1 h2)
    have h3 : go (W.2 s) = i :: t := h3
    have hgd : gd (W.2 s) i = 1 := (hO.2.2.2.1 i).mp (by rw [h3]; exact List.mem_cons_self)
    have hz : gz T (W.2 s) = tn (T (gx (W.2 s))) := by unfold gz; rw [if_neg h2]
    have hi : i < tn (T (gx (W.2 s))) := Nat.lt_of_not_le (fun q => by have := hO.2.2.2.2.1 i (by omega); omega)
    have hu := OKS_undo hO h3 (Or.inl rfl)
    have e : (go (W.2 s)).tail = t := by rw [h3]; rfl
    show OKW T c (ych (T (gx (W.2 s))) W.1 i (gb (W.2 s) i) (-1), yu W.2 s (goS (gdS (W.2 s) (yu (gd (W.2 s)) i 2)) (go (W.2 s)).tail))
    rw [e]
    exact OKW_ss (X := ((ych (T (gx (W.2 s))) W.1 i (gb (W.2 s) i) (-1), W.2), none)) ⟨h.1, OKP_ch hT hi h.2.1 h5, h.2.2⟩ hu
  · have hO := h.2.2 s h1
    have h3 : go (W.2 s) = i :: t := h3
    have hu := OKS_undo hO h3 (Or.inr rfl)
    have e : (go (W.2 s)).tail = t := by rw [h3]; rfl
    show OKW T c (W.1, yu W.2 s (gwS (goS (gdS (W.2 s) (yu (gd (W.2 s)) i 3)) (go (W.2 s)).tail) (yu (gw (W.2 s)) i 0)))
    rw [e]
    exact hS _ hu
  · have h3 : 3 ≤ i ∧ i ≤ 5 := h3
    exact hS _ (OKS_st (h.2.2 s h1) h2 (by omega) h3.2)
  · have h2 : i ≤ 9999 := h2
    exact ⟨h.1, OKP_u h.2.1 ⟨nI_pos' (by omega), nI_le h2 (by omega)⟩, h.2.2⟩
theorem yu_z {W : yW} {s : Nat} {S : yS} {P : yP} (h : yZ W) (hS : ∀ k, gp S k = 0 ∧ gq S k = 0 ∧ gw S k = 0) : yZ (P, yu W.2 s S) := by
  intro r k
  show gp (yu W.2 s S r) k = 0 ∧ gq (yu W.2 s S r) k = 0 ∧ gw (yu W.2 s S r) k = 0
  by_cases e : r = s
  · subst e; rw [yu_s]; exact hS k
  · rw [yu_n e]; exact h r k
theorem gw_0 {S : yS} {i : Nat} (h : ∀ k, gw S k = 0) : yu (gw S) i 0 = gw S := by
  funext k
  by_cases e : k = i
  · subst e; rw [yu_s, h]
  · rw [yu_n e]
theorem yag_z {T : Nat → yT} {c : Nat} {W : yW} {l : yL} (h : yZ W) (hl : yle T c W l) : yZ (yag T W l) := by
  obtain ⟨e, s, i⟩ := l
  have hs := h s
  have hw := gw_0 (S := W.2 s) (i := i) (fun k => (hs k).2.2)
  rcases hl with ⟨rfl, -⟩ | ⟨rfl, -⟩ | ⟨rfl, -⟩ | ⟨rfl, -⟩ | ⟨rfl, -⟩ | ⟨rfl, -⟩ | ⟨rfl, -⟩
  · exact yu_z h (fun _ => ⟨rfl, rfl, rfl⟩)
  · exact yu_z h hs
  · refine yu_z (P := W.1) h (fun k => ?_)
    unfold yfS
    simp only []
    rw [hw]
    split <;> exact hs k
  · exact yu_z h hs
  · refine yu_z (P := W.1) h (fun k => ⟨(hs k).1, (hs k).2.1, ?_⟩)
    show yu (gw (W.2 s)) i 0 k = 0
    rw [hw]; exact (hs k).2.2
  · exact yu_z h hs
  · exact h
theorem RS_nm {M : zM} {a : Nat} {T : Nat → yT} {nm nm' : Nat → Int32} {S : yS} (h : RS M a T nm S) (e : ∀ k, k < gz T S → nm' k = nm k) : RS M a T nm' S :=
  ⟨h.1, h.2.1, h.2.2.1, fun k hk => (h.2.2.2.1 k hk).trans (e k hk).symm, h.2.2.2.2⟩
theorem RW_nm {M : zM} {u j : Nat} {T : Nat → yT} {nm nm' : Nat → Nat → Int32} {X : yX} (h : RW M u j T nm X) (e : ∀ s, s < 3 → ∀ k, k < gz T (yxs X s) → nm' s k = nm s k) : RW M u j T nm' X :=
  ⟨h.1, fun s hs => RS_nm (h.2.1 s hs) (e s hs), h.2.2⟩
theorem RW_sg2 {M M' : zM} {lo w u j s : Nat} {T : Nat → yT} {nm : Nat → Nat → Int32} {X : yX} {S : yS} (hw : Wd lo w u j) (h1 : RPu M u X.1.1) (h2 : ∀ r, r < 3 → r ≠ s → RS M (u + 3 + 8 * r) T (nm r) (yxs X r)) (h3 : RJ M j X.2) (hs : s < 3) (hR : RS M' (u + 3 + 8 * s) T (nm s) S) (f : Fr (FS (u + 3 + 8 * s)) M M') : RW M' u j T nm (yss X s S) := by
  have d := hw.d
  refine ⟨RPu_fr h1 f (fun b k h1 h2 q => by have := q.1; omega), fun r hr => ?_, RJ_fr h3 f (fun b k h1 h2 q => by have := q.1; rcases hw with e | e <;> omega)⟩
  show RS M' (u + 3 + 8 * r) T (nm r) (yu X.1.2 s S r)
  by_cases e : r = s
  · subst e; rw [yu_s]; exact hR
  · rw [yu_n e]; exact RS_fr (h2 r hr e) f (fun b k h1 h2 q => by have := q.1; have := q.2; omega)
/-- a world by its texts' numbers -/
def CN (M : zM) (lo w u j : Nat) (T : Nat → yT) (c : Nat) (X : yX) : Prop := CW M lo w u j T c (yNm T X.1) X
def FV (u : Nat) : Nat → Nat → Prop := Fb u (u + 27)
theorem CN.up {M M' : zM} {lo w u j : Nat} {T : Nat → yT} {c : Nat} {X X' : yX} {nm : Nat → Nat → Int32} (h : CN M lo w u j T c X) (hS : SC M') (hR : RW M' u j T nm X') (hO : OKW T c X'.1) (f : Fr (FV u) M M') (e : ∀ s, s < 3 → ∀ k, k < gz T (yxs X' s) → yNm T X'.1 s k = nm s k) : CN M' lo w u j T c X' :=
  ⟨hS, h.2.1, RTx_fr h.2.2.1 h.2.2.2.1.1.1 f (fun b k h1 h2 q => by have := q.1; have := h.2.1.d; omega), hO, RW_nm hR e⟩
theorem yNm_s {T : Nat → yT} {X : yX} {P : yP} {s : Nat} {S : yS} (h : gx S = gx (yxs X s)) : ∀ r, r < 3 → ∀ k, k < gz T (yxs (yss (ysp X P) s S) r) → yNm T (yss (ysp X P) s S).1 r k = yNm T X.1 r k := by
  intro r _ k _
  show tu (T (gx (yu X.1.2 s S r))) k = tu (T (gx (X.1.2 r))) k
  by_cases e : r = s
  · subst e; rw [yu_s, h]; rfl
  · rw [yu_n e]
theorem d97_0 : decode (zB 97) 0 = .ok (.iload_n 2, 1) := (congrArg (fun c => decode c 0) zeq97).trans (by decide +kernel)
theorem d97_1 : decode (zB 97) 1 = .ok (.tableswitch 130 0 4 #[35, 58, 85, 94, 121], 35) := (congrArg (fun c => decode c 1) zeq97).trans (by decide +kernel)
theorem d97_36 : decode (zB 97) 36 = .ok (.iload_n 3, 1) := (congrArg (fun c => decode c 36) zeq97).trans (by decide +kernel)
theorem d97_37 : decode (zB 97) 37 = .ok (.iconst 0, 1) := (congrArg (fun c => decode c 37) zeq97).trans (by decide +kernel)
theorem d97_38 : decode (zB 97) 38 = .ok (.iconst 5, 1) := (congrArg (fun c => decode c 38) zeq97).trans (by decide +kernel)
theorem d97_39 : decode (zB 97) 39 = .ok (.invokestatic 183, 3) := (congrArg (fun c => decode c 39) zeq97).trans (by decide +kernel)
theorem d97_42 : decode (zB 97) 42 = .ok (.ifCond .eq 94, 3) := (congrArg (fun c => decode c 42) zeq97).trans (by decide +kernel)
theorem d97_45 : decode (zB 97) 45 = .ok (.aload_n 1, 1) := (congrArg (fun c => decode c 45) zeq97).trans (by decide +kernel)
theorem d97_46 : decode (zB 97) 46 = .ok (.aload_n 0, 1) := (congrArg (fun c => decode c 46) zeq97).trans (by decide +kernel)
theorem d97_47 : decode (zB 97) 47 = .ok (.getfield 24, 3) := (congrArg (fun c => decode c 47) zeq97).trans (by decide +kernel)
theorem d97_50 : decode (zB 97) 50 = .ok (.iload_n 3, 1) := (congrArg (fun c => decode c 50) zeq97).trans (by decide +kernel)
theorem d97_51 : decode (zB 97) 51 = .ok (.aaload, 1) := (congrArg (fun c => decode c 51) zeq97).trans (by decide +kernel)
theorem d97_52 : decode (zB 97) 52 = .ok (.iload_n 3, 1) := (congrArg (fun c => decode c 52) zeq97).trans (by decide +kernel)
theorem d97_53 : decode (zB 97) 53 = .ok (.invokevirtual 187, 3) := (congrArg (fun c => decode c 53) zeq97).trans (by decide +kernel)
theorem d97_56 : decode (zB 97) 56 = .ok (.goto 80, 3) := (congrArg (fun c => decode c 56) zeq97).trans (by decide +kernel)
theorem d97_59 : decode (zB 97) 59 = .ok (.aload_n 0, 1) := (congrArg (fun c => decode c 59) zeq97).trans (by decide +kernel)
theorem d97_60 : decode (zB 97) 60 = .ok (.getfield 12, 3) := (congrArg (fun c => decode c 60) zeq97).trans (by decide +kernel)
theorem d97_63 : decode (zB 97) 63 = .ok (.aload_n 1, 1) := (congrArg (fun c => decode c 63) zeq97).trans (by decide +kernel)
theorem d97_64 : decode (zB 97) 64 = .ok (.getfield 113, 3) := (congrArg (fun c => decode c 64) zeq97).trans (by decide +kernel)
theorem d97_67 : decode (zB 97) 67 = .ok (.iload_n 3, 1) := (congrArg (fun c => decode c 67) zeq97).trans (by decide +kernel)
theorem d97_68 : decode (zB 97) 68 = .ok (.aload_n 1, 1) := (congrArg (fun c => decode c 68) zeq97).trans (by decide +kernel)
theorem d97_69 : decode (zB 97) 69 = .ok (.iload_n 3, 1) := (congrArg (fun c => decode c 69) zeq97).trans (by decide +kernel)
theorem d97_70 : decode (zB 97) 70 = .ok (.iconst 1, 1) := (congrArg (fun c => decode c 70) zeq97).trans (by decide +kernel)
theorem d97_71 : decode (zB 97) 71 = .ok (.invokevirtual 102, 3) := (congrArg (fun c => decode c 71) zeq97).trans (by decide +kernel)
theorem d97_74 : decode (zB 97) 74 = .ok (.iconst 1, 1) := (congrArg (fun c => decode c 74) zeq97).trans (by decide +kernel)
theorem d97_75 : decode (zB 97) 75 = .ok (.invokevirtual 121, 3) := (congrArg (fun c => decode c 75) zeq97).trans (by decide +kernel)
theorem d97_78 : decode (zB 97) 78 = .ok (.aload_n 1, 1) := (congrArg (fun c => decode c 78) zeq97).trans (by decide +kernel)
theorem d97_79 : decode (zB 97) 79 = .ok (.iload_n 3, 1) := (congrArg (fun c => decode c 79) zeq97).trans (by decide +kernel)
theorem d97_80 : decode (zB 97) 80 = .ok (.invokevirtual 125, 3) := (congrArg (fun c => decode c 80) zeq97).trans (by decide +kernel)
theorem d97_83 : decode (zB 97) 83 = .ok (.goto 53, 3) := (congrArg (fun c => decode c 83) zeq97).trans (by decide +kernel)
theorem d97_86 : decode (zB 97) 86 = .ok (.aload_n 1, 1) := (congrArg (fun c => decode c 86) zeq97).trans (by decide +kernel)
theorem d97_87 : decode (zB 97) 87 = .ok (.iload_n 3, 1) := (congrArg (fun c => decode c 87) zeq97).trans (by decide +kernel)
theorem d97_88 : decode (zB 97) 88 = .ok (.iconst 0, 1) := (congrArg (fun c => decode c 88) zeq97).trans (by decide +kernel)
theorem d97_89 : decode (zB 97) 89 = .ok (.invokevirtual 135, 3) := (congrArg (fun c => decode c 89) zeq97).trans (by decide +kernel)
theorem d97_92 : decode (zB 97) 92 = .ok (.goto 44, 3) := (congrArg (fun c => decode c 92) zeq97).trans (by decide +kernel)
theorem d97_95 : decode (zB 97) 95 = .ok (.aload_n 0, 1) := (congrArg (fun c => decode c 95) zeq97).trans (by decide +kernel)
theorem d97_96 : decode (zB 97) 96 = .ok (.getfield 12, 3) := (congrArg (fun c => decode c 96) zeq97).trans (by decide +kernel)
theorem d97_99 : decode (zB 97) 99 = .ok (.aload_n 1, 1) := (congrArg (fun c => decode c 99) zeq97).trans (by decide +kernel)
theorem d97_100 : decode (zB 97) 100 = .ok (.getfield 113, 3) := (congrArg (fun c => decode c 100) zeq97).trans (by decide +kernel)
theorem d97_103 : decode (zB 97) 103 = .ok (.iload_n 3, 1) := (congrArg (fun c => decode c 103) zeq97).trans (by decide +kernel)
theorem d97_104 : decode (zB 97) 104 = .ok (.aload_n 1, 1) := (congrArg (fun c => decode c 104) zeq97).trans (by decide +kernel)
theorem d97_105 : decode (zB 97) 105 = .ok (.iload_n 3, 1) := (congrArg (fun c => decode c 105) zeq97).trans (by decide +kernel)
theorem d97_106 : decode (zB 97) 106 = .ok (.iconst (-1), 1) := (congrArg (fun c => decode c 106) zeq97).trans (by decide +kernel)
theorem d97_107 : decode (zB 97) 107 = .ok (.invokevirtual 102, 3) := (congrArg (fun c => decode c 107) zeq97).trans (by decide +kernel)
theorem d97_110 : decode (zB 97) 110 = .ok (.iconst (-1), 1) := (congrArg (fun c => decode c 110) zeq97).trans (by decide +kernel)
theorem d97_111 : decode (zB 97) 111 = .ok (.invokevirtual 121, 3) := (congrArg (fun c => decode c 111) zeq97).trans (by decide +kernel)
theorem d97_114 : decode (zB 97) 114 = .ok (.aload_n 1, 1) := (congrArg (fun c => decode c 114) zeq97).trans (by decide +kernel)
theorem d97_115 : decode (zB 97) 115 = .ok (.iload_n 3, 1) := (congrArg (fun c => decode c 115) zeq97).trans (by decide +kernel)
theorem d97_116 : decode (zB 97) 116 = .ok (.invokevirtual 151, 3) := (congrArg (fun c => decode c 116) zeq97).trans (by decide +kernel)
theorem d97_119 : decode (zB 97) 119 = .ok (.goto 17, 3) := (congrArg (fun c => decode c 119) zeq97).trans (by decide +kernel)
theorem d97_122 : decode (zB 97) 122 = .ok (.aload_n 1, 1) := (congrArg (fun c => decode c 122) zeq97).trans (by decide +kernel)
theorem d97_123 : decode (zB 97) 123 = .ok (.iload_n 3, 1) := (congrArg (fun c => decode c 123) zeq97).trans (by decide +kernel)
theorem d97_124 : decode (zB 97) 124 = .ok (.iconst 0, 1) := (congrArg (fun c => decode c 124) zeq97).trans (by decide +kernel)
theorem d97_125 : decode (zB 97) 125 = .ok (.invokevirtual 154, 3) := (congrArg (fun c => decode c 125) zeq97).trans (by decide +kernel)
theorem d97_128 : decode (zB 97) 128 = .ok (.goto 8, 3) := (congrArg (fun c => decode c 128) zeq97).trans (by decide +kernel)
theorem d97_131 : decode (zB 97) 131 = .ok (.aload_n 1, 1) := (congrArg (fun c => decode c 131) zeq97).trans (by decide +kernel)
theorem d97_132 : decode (zB 97) 132 = .ok (.iload_n 3, 1) := (congrArg (fun c => decode c 132) zeq97).trans (by decide +kernel)
theorem d97_133 : decode (zB 97) 133 = .ok (.putfield 65, 3) := (congrArg (fun c => decode c 133) zeq97).trans (by decide +kernel)
theorem d97_136 : decode (zB 97) 136 = .ok (.return_, 1) := (congrArg (fun c => decode c 136) zeq97).trans (by decide +kernel)
theorem c97_0 {d : Nat} {M : zM} {Q : Option Value → zM → Prop} {lo w u j c : Nat} {T : Nat → yT} {X : yX} {s i : Nat} (hC : CN M lo w u j T c X) (hs3 : s < 3) (hi : i < c) (k : ∀ M', CN M' lo w u j T c (yag T X.1 (0, s, i), X.2) → Fr (FV u) M M' → Q none M') : qC (d + 5) 97 [.ref w, .ref (u + 3 + 8 * s), .int (nI 0), .int (nI i)] M Q := by
  refine qC_of (by decide) (Nat.le_of_ble_eq_true rfl) ?_
  have hC0 := hC
  obtain ⟨hS, hw, hT, hO, hR⟩ := hC
  have hwo := hS.wo hw
  have hd := hw.d
  have hc6 := hO.1.1
  have hsa := hw.sg hs3
  have hs := hS.sg hsa
  have hRs : RS M (u + 3 + 8 * s) T (yNm T X.1 s) (yxs X s) := hR.2.1 s hs3
  have hOs : OKS T c (yxs X s) := hO.2.2 s hs3
  refine q_iload_n d97_0 rfl ?_
  refine n_tsI (35) 36 d97_1 (by decide) (by decide) rfl (by decide) ?_
  refine q_iload_n d97_36 rfl ?_
  refine q_iconstN (z := 0) d97_37 ?_
  refine q_iconstN (z := 5) d97_38 ?_
  refine q_s3 d97_39 (Or.inr rfl) rfl (Nat.le_of_ble_eq_true rfl) (c10t ⟨by omega, by omega⟩ (by decide) ?_)
  refine n0_eq 136 d97_42 (by decide) (by decide) (fun q => absurd q (by decide)) (fun _ => ?_)
  refine q_aload_n d97_45 rfl ?_
  refine q_aload_n d97_46 rfl ?_
  refine q_getr (c := 6) (f := 0) d97_47 ⟨rfl, rfl⟩ hwo.1 hwo.2.1 ?_
  refine q_iload_n d97_50 rfl ?_
  refine n_aald d97_51 hS.1.2.2.2.1 (by decide) (by omega) (by decide) (hS.1.2.2.2.2.1 _ (by omega)) ?_
  refine q_iload_n d97_52 rfl ?_
  refine q_v2 d97_53 rfl rfl hs.1 (Nat.le_of_ble_eq_true rfl) (c62 (nm := fun k => tu (T i) k) hS hsa (by omega) (hT _ hi) (hO.1.2 _ hi).n (fun _ _ => rfl) (fun M1 hR1 f1 hS1 => ?_))
  refine q_goto 136 d97_56 (by decide) ?_
  refine q_ret d97_136 rfl ?_
  refine k _ (hC0.up (X' := yss X s (ySt i)) (nm := yNm T (yss X s (ySt i)).1) hS1 (RW_sg2 hw hR.1 (fun r hr hn => RS_nm (hR.2.1 r hr) (fun q _ => ?_)) hR.2.2 hs3 (RS_nm hR1 (fun q _ => ?_)) f1) (OKW_ss hO (OKS_St hi)) (f1.mono (Fb_m (by omega) (by omega))) (fun _ _ _ _ => rfl)) (f1.mono (Fb_m (by omega) (by omega)))
  · show tu (T (gx (yu X.1.2 s (ySt i) r))) q = _; rw [yu_n hn]; rfl
  · show tu (T (gx (yu X.1.2 s (ySt i) s))) q = _; rw [yu_s]; rfl
theorem c97_1 {d : Nat} {M : zM} {Q : Option Value → zM → Prop} {lo w u j c : Nat} {T : Nat → yT} {X : yX} {s i : Nat} (hC : CN M lo w u j T c X) (hs3 : s < 3) (hg1 : gt (yxs X s) = 1) (hi : i < tn (T (gx (yxs X s)))) (h0 : gd (yxs X s) i = 0) (hob : yob (T (gx (yxs X s))) X.1.1 i (tu (T (gx (yxs X s))) i) 1 = 0) (k : ∀ M', CN M' lo w u j T c (yag T X.1 (1, s, i), X.2) → Fr (FV u) M M' → Q none M') : qC (d + 5) 97 [.ref w, .ref (u + 3 + 8 * s), .int (nI 1), .int (nI i)] M Q := by
  refine qC_of (by decide) (Nat.le_of_ble_eq_true rfl) ?_
  have hC0 := hC
  obtain ⟨hS, hw, hT, hO, hR⟩ := hC
  have hwo := hS.wo hw
  have hd := hw.d
  have hc6 := hO.1.1
  have hsa := hw.sg hs3
  have hs := hS.sg hsa
  have hRs : RS M (u + 3 + 8 * s) T (yNm T X.1 s) (yxs X s) := hR.2.1 s hs3
  have hOs : OKS T c (yxs X s) := hO.2.2 s hs3
  have hg0 : ¬ gt (yxs X s) = 0 := by omega
  have hx : gx (yxs X s) < c := hOs.2.1 hg0
  have ho := hO.1.2 _ hx
  have hn := ho.n
  have hz : gz T (yxs X s) = tn (T (gx (yxs X s))) := by unfold gz; rw [if_neg hg0]
  have hRs' := hRs
  obtain ⟨⟨q0, q1, q2⟩, ⟨q3, q4, q5⟩, ⟨q7, q8⟩, q9, qa, qb⟩ := hRs
  have e2 : zr M (u + 3 + 8 * s) 2 = some (20 + 7 * gx (yxs X s)) := q2.trans (if_neg hg0)
  have hlen : (go (yxs X s)).length < 12 := by
    have h2 := OKS_len (OKS_done (S := yxs X s) (n := 0) hOs (show i < gz T (yxs X s) by omega) h0) (show gz T (yxs X s) ≤ 12 by omega)
    have h3 : (go (yxs X s)).length + 1 ≤ gz T (yxs X s) := h2
    omega
  refine q_iload_n d97_0 rfl ?_
  refine n_tsI (58) 59 d97_1 (by decide) (by decide) rfl (by decide) ?_
  refine q_aload_n d97_59 rfl ?_
  refine q_getr (c := 6) (f := 2) d97_60 ⟨rfl, rfl⟩ hwo.1 hwo.2.2.2.1 ?_
  refine q_aload_n d97_63 rfl ?_
  refine q_getr (c := 5) (f := 2) d97_64 ⟨rfl, rfl⟩ hs.1 e2 ?_
  refine q_iload_n d97_67 rfl ?_
  refine q_aload_n d97_68 rfl ?_
  refine q_iload_n d97_69 rfl ?_
  refine q_iconstN (z := 1) d97_70 ?_
  refine q_v2 d97_71 rfl rfl hs.1 (Nat.le_of_ble_eq_true rfl) (c73 hs (by omega) (q9 i (by omega)) ?_)
  refine q_iconstN (z := 1) d97_74 ?_
  refine q_v4 d97_75 rfl rfl (hS.pu hw).1 (Nat.le_of_ble_eq_true rfl) (c51 (hS.pu hw) hR.1 (hS.pr (by omega)) (hT _ hx) ho hi (by omega) (fun M2 hP2 f2 => ?_))
  have hR2 := RW_pu hw hR hP2 f2.fr
  have hR2s := RS_fr hRs' f2.fr (fun b k h1 h2 q => by have := q.2; omega)
  have hs2 := SSg_fi hs f2
  refine q_aload_n d97_78 rfl ?_
  refine q_iload_n d97_79 rfl ?_
  refine q_v1 d97_80 rfl rfl hs2.1 (Nat.le_of_ble_eq_true rfl) (c75 hs2 hR2s h0 (show i < gz T (yxs X s) by omega) (show gz T (yxs X s) ≤ 12 by omega) hlen (fun M3 hR3s f3 => ?_))
  have hR3 := RW_sg hw hR2 hs3 hR3s f3.fr
  have f23 : Fi (FV u) M M3 := (f2.mono (Fb_m (by omega) (by omega))).trans (f3.mono (Fb_m (by omega) (by omega)))
  refine q_goto 136 d97_83 (by decide) ?_
  refine q_ret d97_136 rfl ?_
  exact k _ (hC0.up (X' := yss (ysp X (ych (T (gx (yxs X s))) X.1.1 i (tu (T (gx (yxs X s))) i) 1)) s (yDn (yxs X s) i (tu (T (gx (yxs X s))) i))) (f23.sc hS (fun a k ha q => by have := q.1; omega)) hR3 (OKW_ss (X := ysp X _) ⟨hO.1, OKP_ch ho hi hO.2.1 hob, hO.2.2⟩ (OKS_done hOs (by omega) h0)) f23.fr (yNm_s rfl)) f23.fr
theorem c97_2 {d : Nat} {M : zM} {Q : Option Value → zM → Prop} {lo w u j c : Nat} {T : Nat → yT} {X : yX} {s i : Nat} (hC : CN M lo w u j T c X) (hs3 : s < 3) (hg1 : gt (yxs X s) = 1) (hi : i < tn (T (gx (yxs X s)))) (k : ∀ M', CN M' lo w u j T c (yag T X.1 (2, s, i), X.2) → Fr (FV u) M M' → Q none M') : qC (d + 5) 97 [.ref w, .ref (u + 3 + 8 * s), .int (nI 2), .int (nI i)] M Q := by
  refine qC_of (by decide) (Nat.le_of_ble_eq_true rfl) ?_
  have hC0 := hC
  obtain ⟨hS, hw, hT, hO, hR⟩ := hC
  have hwo := hS.wo hw
  have hd := hw.d
  have hc6 := hO.1.1
  have hsa := hw.sg hs3
  have hs := hS.sg hsa
  have hRs : RS M (u + 3 + 8 * s) T (yNm T X.1 s) (yxs X s) := hR.2.1 s hs3
  have hOs : OKS T c (yxs X s) := hO.2.2 s hs3
  have hg0 : ¬ gt (yxs X s) = 0 := by omega
  have hx : gx (yxs X s) < c := hOs.2.1 hg0
  have ho := hO.1.2 _ hx
  have hn := ho.n
  have hz : gz T (yxs X s) = tn (T (gx (yxs X s))) := by unfold gz; rw [if_neg hg0]
  have hRs' := hRs
  obtain ⟨⟨q0, q1, q2⟩, ⟨q3, q4, q5⟩, ⟨q7, q8⟩, q9, qa, qb⟩ := hRs
  have e2 : zr M (u + 3 + 8 * s) 2 = some (20 + 7 * gx (yxs X s)) := q2.trans (if_neg hg0)
  refine q_iload_n d97_0 rfl ?_
  refine n_tsI (85) 86 d97_1 (by decide) (by decide) rfl (by decide) ?_
  refine q_aload_n d97_86 rfl ?_
  refine q_iload_n d97_87 rfl ?_
  refine q_iconstN (z := 0) d97_88 ?_
  refine q_v2 d97_89 rfl rfl hs.1 (Nat.le_of_ble_eq_true rfl) (c76 hs hRs' (by omega) hg0 (hS.pr (by omega)) (hT _ hx) (by omega) (fun M1 hR1 f1 => ?_))
  refine q_goto 136 d97_92 (by decide) ?_
  refine q_ret d97_136 rfl ?_
  exact k _ (hC0.up (X' := yss X s (yfS (yxs X s) i 0 (ypa (T (gx (yxs X s))) (gm (yxs X s) 1)))) (f1.sc hS (fun a k ha q => by have := q.1; omega)) (RW_sg hw hR hs3 hR1 f1.fr) (OKW_ss hO (OKS_fS hOs hg0)) (f1.fr.mono (Fb_m (by omega) (by omega))) (yNm_s (P := X.1.1) (yfS_d _ _ _ _).2.1)) (f1.fr.mono (Fb_m (by omega) (by omega)))
theorem c97_3 {d : Nat} {M : zM} {Q : Option Value → zM → Prop} {lo w u j c : Nat} {T : Nat → yT} {X : yX} {s i : Nat} {t : List Nat} (hC : CN M lo w u j T c X) (hs3 : s < 3) (hg0 : ¬ gt (yxs X s) = 0) (hgo : go (yxs X s) = i :: t) (hob : yob (T (gx (yxs X s))) X.1.1 i (gb (yxs X s) i) (-1) = 0) (k : ∀ M', CN M' lo w u j T c (yag T X.1 (3, s, i), X.2) → Fr (FV u) M M' → Q none M') : qC (d + 5) 97 [.ref w, .ref (u + 3 + 8 * s), .int (nI 3), .int (nI i)] M Q := by
  refine qC_of (by decide) (Nat.le_of_ble_eq_true rfl) ?_
  have hC0 := hC
  obtain ⟨hS, hw, hT, hO, hR⟩ := hC
  have hwo := hS.wo hw
  have hd := hw.d
  have hc6 := hO.1.1
  have hsa := hw.sg hs3
  have hs := hS.sg hsa
  have hRs : RS M (u + 3 + 8 * s) T (yNm T X.1 s) (yxs X s) := hR.2.1 s hs3
  have hOs : OKS T c (yxs X s) := hO.2.2 s hs3
  have hx : gx (yxs X s) < c := hOs.2.1 hg0
  have ho := hO.1.2 _ hx
  have hn := ho.n
  have hz : gz T (yxs X s) = tn (T (gx (yxs X s))) := by unfold gz; rw [if_neg hg0]
  have hRs' := hRs
  obtain ⟨⟨q0, q1, q2⟩, ⟨q3, q4, q5⟩, ⟨q7, q8⟩, q9, qa, qb⟩ := hRs
  have e2 : zr M (u + 3 + 8 * s) 2 = some (20 + 7 * gx (yxs X s)) := q2.trans (if_neg hg0)
  have hgd : gd (yxs X s) i = 1 := (hOs.2.2.2.1 i).mp (by rw [hgo]; exact List.mem_cons_self)
  have hi : i < tn (T (gx (yxs X s))) := Nat.lt_of_not_le (fun q => by have := hOs.2.2.2.2.1 i (by omega); omega)
  have hlen : (go (yxs X s)).length ≤ 12 := Nat.le_trans (OKS_len hOs (by omega)) (by omega)
  have et : (go (yxs X s)).tail = t := by rw [hgo]; rfl
  refine q_iload_n d97_0 rfl ?_
  refine n_tsI (94) 95 d97_1 (by decide) (by decide) rfl (by decide) ?_
  refine q_aload_n d97_95 rfl ?_
  refine q_getr (c := 6) (f := 2) d97_96 ⟨rfl, rfl⟩ hwo.1 hwo.2.2.2.1 ?_
  refine q_aload_n d97_99 rfl ?_
  refine q_getr (c := 5) (f := 2) d97_100 ⟨rfl, rfl⟩ hs.1 e2 ?_
  refine q_iload_n d97_103 rfl ?_
  refine q_aload_n d97_104 rfl ?_
  refine q_iload_n d97_105 rfl ?_
  refine q_iconst (x := (-1)) d97_106 rfl ?_
  refine q_v2 d97_107 rfl rfl hs.1 (Nat.le_of_ble_eq_true rfl) (c73b hs (by omega) (qa i (by omega) hgd) ?_)
  refine q_iconst (x := (-1)) d97_110 rfl ?_
  refine q_v4 d97_111 rfl rfl (hS.pu hw).1 (Nat.le_of_ble_eq_true rfl) (c51 (hS.pu hw) hR.1 (hS.pr (by omega)) (hT _ hx) ho hi (by omega) (fun M2 hP2 f2 => ?_))
  have hR2 := RW_pu hw hR hP2 f2.fr
  have hR2s := RS_fr hRs' f2.fr (fun b k h1 h2 q => by have := q.2; omega)
  have hs2 := SSg_fi hs f2
  refine q_aload_n d97_114 rfl ?_
  refine q_iload_n d97_115 rfl ?_
  refine q_v1 d97_116 rfl rfl hs2.1 (Nat.le_of_ble_eq_true rfl) (c84 hs2 hR2s hgo hgd (by omega) hlen (fun M3 hR3s f3 => ?_))
  have hR3 := RW_sg hw hR2 hs3 hR3s f3.fr
  have f23 : Fi (FV u) M M3 := (f2.mono (Fb_m (by omega) (by omega))).trans (f3.mono (Fb_m (by omega) (by omega)))
  refine q_goto 136 d97_119 (by decide) ?_
  refine q_ret d97_136 rfl ?_
  exact k _ (hC0.up (X' := yss (ysp X (ych (T (gx (yxs X s))) X.1.1 i (gb (yxs X s) i) (-1))) s (goS (gdS (yxs X s) (yu (gd (yxs X s)) i 2)) (go (yxs X s)).tail)) (f23.sc hS (fun a k ha q => by have := q.1; omega)) (by rw [et]; exact hR3) (by rw [et]; exact OKW_ss (X := ysp X _) ⟨hO.1, OKP_ch ho hi hO.2.1 hob, hO.2.2⟩ (OKS_undo hOs hgo (Or.inl rfl))) f23.fr (yNm_s rfl)) f23.fr
theorem c97_4 {d : Nat} {M : zM} {Q : Option Value → zM → Prop} {lo w u j c : Nat} {T : Nat → yT} {X : yX} {s i : Nat} {t : List Nat} (hC : CN M lo w u j T c X) (hs3 : s < 3) (hg0 : ¬ gt (yxs X s) = 0) (hgo : go (yxs X s) = i :: t) (k : ∀ M', CN M' lo w u j T c (yag T X.1 (4, s, i), X.2) → Fr (FV u) M M' → Q none M') : qC (d + 5) 97 [.ref w, .ref (u + 3 + 8 * s), .int (nI 4), .int (nI i)] M Q := by
  refine qC_of (by decide) (Nat.le_of_ble_eq_true rfl) ?_
  have hC0 := hC
  obtain ⟨hS, hw, hT, hO, hR⟩ := hC
  have hwo := hS.wo hw
  have hd := hw.d
  have hc6 := hO.1.1
  have hsa := hw.sg hs3
  have hs := hS.sg hsa
  have hRs : RS M (u + 3 + 8 * s) T (yNm T X.1 s) (yxs X s) := hR.2.1 s hs3
  have hOs : OKS T c (yxs X s) := hO.2.2 s hs3
  have hx : gx (yxs X s) < c := hOs.2.1 hg0
  have ho := hO.1.2 _ hx
  have hn := ho.n
  have hz : gz T (yxs X s) = tn (T (gx (yxs X s))) := by unfold gz; rw [if_neg hg0]
  have hRs' := hRs
  obtain ⟨⟨q0, q1, q2⟩, ⟨q3, q4, q5⟩, ⟨q7, q8⟩, q9, qa, qb⟩ := hRs
  have e2 : zr M (u + 3 + 8 * s) 2 = some (20 + 7 * gx (yxs X s)) := q2.trans (if_neg hg0)
  have hgd : gd (yxs X s) i = 1 := (hOs.2.2.2.1 i).mp (by rw [hgo]; exact List.mem_cons_self)
  have hi : i < tn (T (gx (yxs X s))) := Nat.lt_of_not_le (fun q => by have := hOs.2.2.2.2.1 i (by omega); omega)
  have hlen : (go (yxs X s)).length ≤ 12 := Nat.le_trans (OKS_len hOs (by omega)) (by omega)
  have et : (go (yxs X s)).tail = t := by rw [hgo]; rfl
  refine q_iload_n d97_0 rfl ?_
  refine n_tsI (121) 122 d97_1 (by decide) (by decide) rfl (by decide) ?_
  refine q_aload_n d97_122 rfl ?_
  refine q_iload_n d97_123 rfl ?_
  refine q_iconstN (z := 0) d97_124 ?_
  refine q_v2 d97_125 rfl rfl hs.1 (Nat.le_of_ble_eq_true rfl) (c86 hs hRs' hgo hgd (by omega) hlen (fun M1 hR1 f1 => ?_))
  refine q_goto 136 d97_128 (by decide) ?_
  refine q_ret d97_136 rfl ?_
  exact k _ (hC0.up (X' := yss X s (gwS (goS (gdS (yxs X s) (yu (gd (yxs X s)) i 3)) (go (yxs X s)).tail) (yu (gw (yxs X s)) i 0))) (f1.sc hS (fun a k ha q => by have := q.1; omega)) (by rw [et]; exact RW_sg hw hR hs3 hR1 f1.fr) (by rw [et]; exact OKW_ss hO (OKS_undo hOs hgo (Or.inr rfl))) (f1.fr.mono (Fb_m (by omega) (by omega))) (yNm_s (P := X.1.1) rfl)) (f1.fr.mono (Fb_m (by omega) (by omega)))
theorem c97_5 {d : Nat} {M : zM} {Q : Option Value → zM → Prop} {lo w u j c : Nat} {T : Nat → yT} {X : yX} {s i : Nat} (hC : CN M lo w u j T c X) (hs3 : s < 3) (hg0 : ¬ gt (yxs X s) = 0) (h35 : 3 ≤ i ∧ i ≤ 5) (k : ∀ M', CN M' lo w u j T c (yag T X.1 (5, s, i), X.2) → Fr (FV u) M M' → Q none M') : qC (d + 5) 97 [.ref w, .ref (u + 3 + 8 * s), .int (nI 5), .int (nI i)] M Q := by
  refine qC_of (by decide) (Nat.le_of_ble_eq_true rfl) ?_
  have hC0 := hC
  obtain ⟨hS, hw, hT, hO, hR⟩ := hC
  have hwo := hS.wo hw
  have hd := hw.d
  have hc6 := hO.1.1
  have hsa := hw.sg hs3
  have hs := hS.sg hsa
  have hRs : RS M (u + 3 + 8 * s) T (yNm T X.1 s) (yxs X s) := hR.2.1 s hs3
  have hOs : OKS T c (yxs X s) := hO.2.2 s hs3
  refine q_iload_n d97_0 rfl ?_
  refine n_tsO 131 d97_1 (by decide) (Or.inr (by decide)) (by decide) ?_
  refine q_aload_n d97_131 rfl ?_
  refine q_iload_n d97_132 rfl ?_
  refine q_puti (c := 5) (f := 0) d97_133 ⟨rfl, rfl, by decide⟩ hs.1 ?_
  refine q_ret d97_136 rfl ?_
  have f1 : Fi (FS (u + 3 + 8 * s)) M (zwi M (u + 3 + 8 * s) 0 (nI i)) := (Fi.refl _ _).wi FS_0
  exact k _ (hC0.up (X' := yss X s (gtS (yxs X s) i)) (f1.sc hS (fun a k ha q => by have := q.1; omega)) (RW_sg hw hR hs3 (RS_gt hRs hg0 (by omega)) f1.fr) (OKW_ss hO (OKS_st hOs hg0 (by omega) h35.2)) (f1.fr.mono (Fb_m (by omega) (by omega))) (yNm_s (P := X.1.1) rfl)) (f1.fr.mono (Fb_m (by omega) (by omega)))
theorem d96_0 : decode (zB 96) 0 = .ok (.iload_n 1, 1) := (congrArg (fun c => decode c 0) zeq96).trans (by decide +kernel)
theorem d96_1 : decode (zB 96) 1 = .ok (.bipush 6, 2) := (congrArg (fun c => decode c 1) zeq96).trans (by decide +kernel)
theorem d96_3 : decode (zB 96) 3 = .ok (.if_icmp .ne 23, 3) := (congrArg (fun c => decode c 3) zeq96).trans (by decide +kernel)
theorem d96_6 : decode (zB 96) 6 = .ok (.iload_n 2, 1) := (congrArg (fun c => decode c 6) zeq96).trans (by decide +kernel)
theorem d96_7 : decode (zB 96) 7 = .ok (.invokestatic 51, 3) := (congrArg (fun c => decode c 7) zeq96).trans (by decide +kernel)
theorem d96_10 : decode (zB 96) 10 = .ok (.ifCond .eq 35, 3) := (congrArg (fun c => decode c 10) zeq96).trans (by decide +kernel)
theorem d96_13 : decode (zB 96) 13 = .ok (.aload_n 0, 1) := (congrArg (fun c => decode c 13) zeq96).trans (by decide +kernel)
theorem d96_14 : decode (zB 96) 14 = .ok (.getfield 12, 3) := (congrArg (fun c => decode c 14) zeq96).trans (by decide +kernel)
theorem d96_17 : decode (zB 96) 17 = .ok (.getfield 54, 3) := (congrArg (fun c => decode c 17) zeq96).trans (by decide +kernel)
theorem d96_20 : decode (zB 96) 20 = .ok (.iload_n 2, 1) := (congrArg (fun c => decode c 20) zeq96).trans (by decide +kernel)
theorem d96_21 : decode (zB 96) 21 = .ok (.iload_n 3, 1) := (congrArg (fun c => decode c 21) zeq96).trans (by decide +kernel)
theorem d96_22 : decode (zB 96) 22 = .ok (.iastore, 1) := (congrArg (fun c => decode c 22) zeq96).trans (by decide +kernel)
theorem d96_23 : decode (zB 96) 23 = .ok (.goto 22, 3) := (congrArg (fun c => decode c 23) zeq96).trans (by decide +kernel)
theorem d96_26 : decode (zB 96) 26 = .ok (.iload_n 2, 1) := (congrArg (fun c => decode c 26) zeq96).trans (by decide +kernel)
theorem d96_27 : decode (zB 96) 27 = .ok (.invokestatic 176, 3) := (congrArg (fun c => decode c 27) zeq96).trans (by decide +kernel)
theorem d96_30 : decode (zB 96) 30 = .ok (.ifCond .eq 15, 3) := (congrArg (fun c => decode c 30) zeq96).trans (by decide +kernel)
theorem d96_33 : decode (zB 96) 33 = .ok (.aload_n 0, 1) := (congrArg (fun c => decode c 33) zeq96).trans (by decide +kernel)
theorem d96_34 : decode (zB 96) 34 = .ok (.aload_n 0, 1) := (congrArg (fun c => decode c 34) zeq96).trans (by decide +kernel)
theorem d96_35 : decode (zB 96) 35 = .ok (.getfield 20, 3) := (congrArg (fun c => decode c 35) zeq96).trans (by decide +kernel)
theorem d96_38 : decode (zB 96) 38 = .ok (.iload_n 2, 1) := (congrArg (fun c => decode c 38) zeq96).trans (by decide +kernel)
theorem d96_39 : decode (zB 96) 39 = .ok (.aaload, 1) := (congrArg (fun c => decode c 39) zeq96).trans (by decide +kernel)
theorem d96_40 : decode (zB 96) 40 = .ok (.iload_n 1, 1) := (congrArg (fun c => decode c 40) zeq96).trans (by decide +kernel)
theorem d96_41 : decode (zB 96) 41 = .ok (.iload_n 3, 1) := (congrArg (fun c => decode c 41) zeq96).trans (by decide +kernel)
theorem d96_42 : decode (zB 96) 42 = .ok (.invokevirtual 179, 3) := (congrArg (fun c => decode c 42) zeq96).trans (by decide +kernel)
theorem d96_45 : decode (zB 96) 45 = .ok (.return_, 1) := (congrArg (fun c => decode c 45) zeq96).trans (by decide +kernel)
theorem c96 {d : Nat} {M : zM} {Q : Option Value → zM → Prop} {lo w u j c : Nat} {T : Nat → yT} {X : yX} {e s i : Nat} (hC : CN M lo w u j T c X) (hl : yle T c X.1 (e, s, i)) (k : ∀ M', CN M' lo w u j T c (yag T X.1 (e, s, i), X.2) → Fr (FV u) M M' → Q none M') : qC (d + 6) 96 [.ref w, .int (nI e), .int (nI s), .int (nI i)] M Q := by
  refine qC_of (by decide) (Nat.le_of_ble_eq_true rfl) ?_
  have hC0 := hC
  obtain ⟨hS, hw, hT, hO, hR⟩ := hC
  have hwo := hS.wo hw
  have hd := hw.d
  have hc6 := hO.1.1
  rcases hl with ⟨rfl, h1, h2⟩ | ⟨rfl, h1, h2, h3, h4, h5⟩ | ⟨rfl, h1, h2, h3⟩ | ⟨rfl, h1, h2, ⟨t, h3⟩, h5⟩ | ⟨rfl, h1, h2, t, h3⟩ | ⟨rfl, h1, h2, h3⟩ | ⟨rfl, h1, h2⟩
  · skip
    refine q_iload_n d96_0 rfl ?_
    refine q_bipush (x := nI 6) d96_1 rfl ?_
    refine nc_ne 26 d96_3 (by decide) (by omega) (by omega) (fun _ => ?_) (fun q => absurd q (by decide))
    refine q_iload_n d96_26 rfl ?_
    refine q_s1 d96_27 (Or.inr rfl) rfl (Nat.le_of_ble_eq_true rfl) (c60t h1 ?_)
    refine n0_eq 45 d96_30 (by decide) (by decide) (fun q => absurd q (by decide)) (fun _ => ?_)
    have hs := hS.sg (hw.sg h1)
    refine q_aload_n d96_33 rfl ?_
    refine q_aload_n d96_34 rfl ?_
    refine q_getr (c := 6) (f := 3) d96_35 ⟨rfl, rfl⟩ hwo.1 hwo.2.2.2.2.1 ?_
    refine q_iload_n d96_38 rfl ?_
    refine n_aald d96_39 hwo.2.2.2.2.2.1 (by decide) (by omega) (by decide) (hwo.2.2.2.2.2.2 _ (by omega)) ?_
    refine q_iload_n d96_40 rfl ?_
    refine q_iload_n d96_41 rfl ?_
    refine q_v3 d96_42 rfl rfl hwo.1 (Nat.le_of_ble_eq_true rfl) (c97_0 hC0 h1 h2 (fun M1 hC1 f1 => ?_))
    refine q_ret d96_45 rfl ?_
    exact k _ hC1 f1
  · skip
    refine q_iload_n d96_0 rfl ?_
    refine q_bipush (x := nI 6) d96_1 rfl ?_
    refine nc_ne 26 d96_3 (by decide) (by omega) (by omega) (fun _ => ?_) (fun q => absurd q (by decide))
    refine q_iload_n d96_26 rfl ?_
    refine q_s1 d96_27 (Or.inr rfl) rfl (Nat.le_of_ble_eq_true rfl) (c60t h1 ?_)
    refine n0_eq 45 d96_30 (by decide) (by decide) (fun q => absurd q (by decide)) (fun _ => ?_)
    have hs := hS.sg (hw.sg h1)
    refine q_aload_n d96_33 rfl ?_
    refine q_aload_n d96_34 rfl ?_
    refine q_getr (c := 6) (f := 3) d96_35 ⟨rfl, rfl⟩ hwo.1 hwo.2.2.2.2.1 ?_
    refine q_iload_n d96_38 rfl ?_
    refine n_aald d96_39 hwo.2.2.2.2.2.1 (by decide) (by omega) (by decide) (hwo.2.2.2.2.2.2 _ (by omega)) ?_
    refine q_iload_n d96_40 rfl ?_
    refine q_iload_n d96_41 rfl ?_
    refine q_v3 d96_42 rfl rfl hwo.1 (Nat.le_of_ble_eq_true rfl) (c97_1 hC0 h1 h2 h3 h4 h5 (fun M1 hC1 f1 => ?_))
    refine q_ret d96_45 rfl ?_
    exact k _ hC1 f1
  · skip
    refine q_iload_n d96_0 rfl ?_
    refine q_bipush (x := nI 6) d96_1 rfl ?_
    refine nc_ne 26 d96_3 (by decide) (by omega) (by omega) (fun _ => ?_) (fun q => absurd q (by decide))
    refine q_iload_n d96_26 rfl ?_
    refine q_s1 d96_27 (Or.inr rfl) rfl (Nat.le_of_ble_eq_true rfl) (c60t h1 ?_)
    refine n0_eq 45 d96_30 (by decide) (by decide) (fun q => absurd q (by decide)) (fun _ => ?_)
    have hs := hS.sg (hw.sg h1)
    refine q_aload_n d96_33 rfl ?_
    refine q_aload_n d96_34 rfl ?_
    refine q_getr (c := 6) (f := 3) d96_35 ⟨rfl, rfl⟩ hwo.1 hwo.2.2.2.2.1 ?_
    refine q_iload_n d96_38 rfl ?_
    refine n_aald d96_39 hwo.2.2.2.2.2.1 (by decide) (by omega) (by decide) (hwo.2.2.2.2.2.2 _ (by omega)) ?_
    refine q_iload_n d96_40 rfl ?_
    refine q_iload_n d96_41 rfl ?_
    refine q_v3 d96_42 rfl rfl hwo.1 (Nat.le_of_ble_eq_true rfl) (c97_2 hC0 h1 h2 h3 (fun M1 hC1 f1 => ?_))
    refine q_ret d96_45 rfl ?_
    exact k _ hC1 f1
  · skip
    refine q_iload_n d96_0 rfl ?_
    refine q_bipush (x := nI 6) d96_1 rfl ?_
    refine nc_ne 26 d96_3 (by decide) (by omega) (by omega) (fun _ => ?_) (fun q => absurd q (by decide))
    refine q_iload_n d96_26 rfl ?_
    refine q_s1 d96_27 (Or.inr rfl) rfl (Nat.le_of_ble_eq_true rfl) (c60t h1 ?_)
    refine n0_eq 45 d96_30 (by decide) (by decide) (fun q => absurd q (by decide)) (fun _ => ?_)
    have hs := hS.sg (hw.sg h1)
    refine q_aload_n d96_33 rfl ?_
    refine q_aload_n d96_34 rfl ?_
    refine q_getr (c := 6) (f := 3) d96_35 ⟨rfl, rfl⟩ hwo.1 hwo.2.2.2.2.1 ?_
    refine q_iload_n d96_38 rfl ?_
    refine n_aald d96_39 hwo.2.2.2.2.2.1 (by decide) (by omega) (by decide) (hwo.2.2.2.2.2.2 _ (by omega)) ?_
    refine q_iload_n d96_40 rfl ?_
    refine q_iload_n d96_41 rfl ?_
    refine q_v3 d96_42 rfl rfl hwo.1 (Nat.le_of_ble_eq_true rfl) (c97_3 hC0 h1 h2 h3 h5 (fun M1 hC1 f1 => ?_))
    refine q_ret d96_45 rfl ?_
    exact k _ hC1 f1
  · skip
    refine q_iload_n d96_0 rfl ?_
    refine q_bipush (x := nI 6) d96_1 rfl ?_
    refine nc_ne 26 d96_3 (by decide) (by omega) (by omega) (fun _ => ?_) (fun q => absurd q (by decide))
    refine q_iload_n d96_26 rfl ?_
    refine q_s1 d96_27 (Or.inr rfl) rfl (Nat.le_of_ble_eq_true rfl) (c60t h1 ?_)
    refine n0_eq 45 d96_30 (by decide) (by decide) (fun q => absurd q (by decide)) (fun _ => ?_)
    have hs := hS.sg (hw.sg h1)
    refine q_aload_n d96_33 rfl ?_
    refine q_aload_n d96_34 rfl ?_
    refine q_getr (c := 6) (f := 3) d96_35 ⟨rfl, rfl⟩ hwo.1 hwo.2.2.2.2.1 ?_
    refine q_iload_n d96_38 rfl ?_
    refine n_aald d96_39 hwo.2.2.2.2.2.1 (by decide) (by omega) (by decide) (hwo.2.2.2.2.2.2 _ (by omega)) ?_
    refine q_iload_n d96_40 rfl ?_
    refine q_iload_n d96_41 rfl ?_
    refine q_v3 d96_42 rfl rfl hwo.1 (Nat.le_of_ble_eq_true rfl) (c97_4 hC0 h1 h2 h3 (fun M1 hC1 f1 => ?_))
    refine q_ret d96_45 rfl ?_
    exact k _ hC1 f1
  · skip
    refine q_iload_n d96_0 rfl ?_
    refine q_bipush (x := nI 6) d96_1 rfl ?_
    refine nc_ne 26 d96_3 (by decide) (by omega) (by omega) (fun _ => ?_) (fun q => absurd q (by decide))
    refine q_iload_n d96_26 rfl ?_
    refine q_s1 d96_27 (Or.inr rfl) rfl (Nat.le_of_ble_eq_true rfl) (c60t h1 ?_)
    refine n0_eq 45 d96_30 (by decide) (by decide) (fun q => absurd q (by decide)) (fun _ => ?_)
    have hs := hS.sg (hw.sg h1)
    refine q_aload_n d96_33 rfl ?_
    refine q_aload_n d96_34 rfl ?_
    refine q_getr (c := 6) (f := 3) d96_35 ⟨rfl, rfl⟩ hwo.1 hwo.2.2.2.2.1 ?_
    refine q_iload_n d96_38 rfl ?_
    refine n_aald d96_39 hwo.2.2.2.2.2.1 (by decide) (by omega) (by decide) (hwo.2.2.2.2.2.2 _ (by omega)) ?_
    refine q_iload_n d96_40 rfl ?_
    refine q_iload_n d96_41 rfl ?_
    refine q_v3 d96_42 rfl rfl hwo.1 (Nat.le_of_ble_eq_true rfl) (c97_5 hC0 h1 h2 h3 (fun M1 hC1 f1 => ?_))
    refine q_ret d96_45 rfl ?_
    exact k _ hC1 f1
  · skip
    have h1 : s < 6 := h1
    have h2 : i ≤ 9999 := h2
    refine q_iload_n d96_0 rfl ?_
    refine q_bipush (x := nI 6) d96_1 rfl ?_
    refine nc_ne 26 d96_3 (by decide) (by omega) (by omega) (fun q => absurd rfl q) (fun _ => ?_)
    refine q_iload_n d96_6 rfl ?_
    refine q_s1 d96_7 (Or.inr rfl) rfl (Nat.le_of_ble_eq_true rfl) (c26t h1 ?_)
    refine n0_eq 45 d96_10 (by decide) (by decide) (fun q => absurd q (by decide)) (fun _ => ?_)
    refine q_aload_n d96_13 rfl ?_
    refine q_getr (c := 6) (f := 2) d96_14 ⟨rfl, rfl⟩ hwo.1 hwo.2.2.2.1 ?_
    refine q_getr (c := 2) (f := 0) d96_17 ⟨rfl, rfl⟩ (hS.pu hw).1 (hS.pu hw).2.1 ?_
    refine q_iload_n d96_20 rfl ?_
    refine q_iload_n d96_21 rfl ?_
    refine n_iast d96_22 (hS.pu hw).2.2 (by omega) (by decide) ?_
    refine q_goto 45 d96_23 (by decide) ?_
    refine q_ret d96_45 rfl ?_
    have f1 : Fi (FU u) M (zwi M (u + 1) s (nI i)) := (Fi.refl _ _).wi (FU_1 _ _)
    exact k _ (hC0.up (X' := ysp X (yu X.1.1.1 s (nI i), X.1.1.2)) (f1.sc hS (fun a k ha q => by have := q.1; omega)) (RW_pu hw hR (RPu_b hR.1) f1.fr) ⟨hO.1, OKP_u hO.2.1 ⟨nI_pos' (by omega), nI_le h2 (by omega)⟩, hO.2.2⟩ (f1.fr.mono (Fb_m (by omega) (by omega))) (fun _ _ _ _ => rfl)) (f1.fr.mono (Fb_m (by omega) (by omega)))
/-! ===== contracts: replays, copies of worlds ===== -/
theorem yre_S {T : Nat → yT} {L : List yL} {i : Nat} (h : i < L.length) : yre T (L.take (i + 1)) = yag T (yre T (L.take i)) (L.getD i (0, 0, 0)) := by
  unfold yre
  rw [List.take_succ_eq_append_getElem h, List.foldl_append]
  simp only [List.foldl_cons, List.foldl_nil, List.getD, List.getElem?_eq_getElem h, Option.getD_some]
theorem OKW_0 {T : Nat → yT} {c : Nat} (h : c ≤ 6 ∧ ∀ i, i < c → OKT (T i)) : OKW T c yW0 := ⟨h, OKP_0, fun _ _ => OKS_0⟩
/-- the log can come so -/
def yva (T : Nat → yT) (c : Nat) (L : List yL) : Prop := ∀ k, k < L.length → yle T c (yre T (L.take k)) (L.getD k (0, 0, 0))
theorem d94_0 : decode (zB 94) 0 = .ok (.aload_n 0, 1) := (congrArg (fun c => decode c 0) zeq94).trans (by decide +kernel)
theorem d94_1 : decode (zB 94) 1 = .ok (.getfield 12, 3) := (congrArg (fun c => decode c 1) zeq94).trans (by decide +kernel)
theorem d94_4 : decode (zB 94) 4 = .ok (.invokevirtual 157, 3) := (congrArg (fun c => decode c 4) zeq94).trans (by decide +kernel)
theorem d94_7 : decode (zB 94) 7 = .ok (.iconst 0, 1) := (congrArg (fun c => decode c 7) zeq94).trans (by decide +kernel)
theorem d94_8 : decode (zB 94) 8 = .ok (.istore_n 3, 1) := (congrArg (fun c => decode c 8) zeq94).trans (by decide +kernel)
theorem d94_9 : decode (zB 94) 9 = .ok (.iload_n 3, 1) := (congrArg (fun c => decode c 9) zeq94).trans (by decide +kernel)
theorem d94_10 : decode (zB 94) 10 = .ok (.iconst 3, 1) := (congrArg (fun c => decode c 10) zeq94).trans (by decide +kernel)
theorem d94_11 : decode (zB 94) 11 = .ok (.if_icmp .ge 18, 3) := (congrArg (fun c => decode c 11) zeq94).trans (by decide +kernel)
theorem d94_14 : decode (zB 94) 14 = .ok (.aload_n 0, 1) := (congrArg (fun c => decode c 14) zeq94).trans (by decide +kernel)
theorem d94_15 : decode (zB 94) 15 = .ok (.getfield 20, 3) := (congrArg (fun c => decode c 15) zeq94).trans (by decide +kernel)
theorem d94_18 : decode (zB 94) 18 = .ok (.iload_n 3, 1) := (congrArg (fun c => decode c 18) zeq94).trans (by decide +kernel)
theorem d94_19 : decode (zB 94) 19 = .ok (.aaload, 1) := (congrArg (fun c => decode c 19) zeq94).trans (by decide +kernel)
theorem d94_20 : decode (zB 94) 20 = .ok (.invokevirtual 160, 3) := (congrArg (fun c => decode c 20) zeq94).trans (by decide +kernel)
theorem d94_23 : decode (zB 94) 23 = .ok (.iinc 3 1, 3) := (congrArg (fun c => decode c 23) zeq94).trans (by decide +kernel)
theorem d94_26 : decode (zB 94) 26 = .ok (.goto (-17), 3) := (congrArg (fun c => decode c 26) zeq94).trans (by decide +kernel)
theorem d94_29 : decode (zB 94) 29 = .ok (.iconst 0, 1) := (congrArg (fun c => decode c 29) zeq94).trans (by decide +kernel)
theorem d94_30 : decode (zB 94) 30 = .ok (.istore_n 3, 1) := (congrArg (fun c => decode c 30) zeq94).trans (by decide +kernel)
theorem d94_31 : decode (zB 94) 31 = .ok (.iload_n 3, 1) := (congrArg (fun c => decode c 31) zeq94).trans (by decide +kernel)
theorem d94_32 : decode (zB 94) 32 = .ok (.iload_n 2, 1) := (congrArg (fun c => decode c 32) zeq94).trans (by decide +kernel)
theorem d94_33 : decode (zB 94) 33 = .ok (.if_icmp .ge 39, 3) := (congrArg (fun c => decode c 33) zeq94).trans (by decide +kernel)
theorem d94_36 : decode (zB 94) 36 = .ok (.iload_n 3, 1) := (congrArg (fun c => decode c 36) zeq94).trans (by decide +kernel)
theorem d94_37 : decode (zB 94) 37 = .ok (.aload_n 1, 1) := (congrArg (fun c => decode c 37) zeq94).trans (by decide +kernel)
theorem d94_38 : decode (zB 94) 38 = .ok (.getfield 161, 3) := (congrArg (fun c => decode c 38) zeq94).trans (by decide +kernel)
theorem d94_41 : decode (zB 94) 41 = .ok (.if_icmp .ge 31, 3) := (congrArg (fun c => decode c 41) zeq94).trans (by decide +kernel)
theorem d94_44 : decode (zB 94) 44 = .ok (.aload_n 0, 1) := (congrArg (fun c => decode c 44) zeq94).trans (by decide +kernel)
theorem d94_45 : decode (zB 94) 45 = .ok (.aload_n 1, 1) := (congrArg (fun c => decode c 45) zeq94).trans (by decide +kernel)
theorem d94_46 : decode (zB 94) 46 = .ok (.getfield 164, 3) := (congrArg (fun c => decode c 46) zeq94).trans (by decide +kernel)
theorem d94_49 : decode (zB 94) 49 = .ok (.iload_n 3, 1) := (congrArg (fun c => decode c 49) zeq94).trans (by decide +kernel)
theorem d94_50 : decode (zB 94) 50 = .ok (.iaload, 1) := (congrArg (fun c => decode c 50) zeq94).trans (by decide +kernel)
theorem d94_51 : decode (zB 94) 51 = .ok (.aload_n 1, 1) := (congrArg (fun c => decode c 51) zeq94).trans (by decide +kernel)
theorem d94_52 : decode (zB 94) 52 = .ok (.getfield 167, 3) := (congrArg (fun c => decode c 52) zeq94).trans (by decide +kernel)
theorem d94_55 : decode (zB 94) 55 = .ok (.iload_n 3, 1) := (congrArg (fun c => decode c 55) zeq94).trans (by decide +kernel)
theorem d94_56 : decode (zB 94) 56 = .ok (.iaload, 1) := (congrArg (fun c => decode c 56) zeq94).trans (by decide +kernel)
theorem d94_57 : decode (zB 94) 57 = .ok (.aload_n 1, 1) := (congrArg (fun c => decode c 57) zeq94).trans (by decide +kernel)
theorem d94_58 : decode (zB 94) 58 = .ok (.getfield 170, 3) := (congrArg (fun c => decode c 58) zeq94).trans (by decide +kernel)
theorem d94_61 : decode (zB 94) 61 = .ok (.iload_n 3, 1) := (congrArg (fun c => decode c 61) zeq94).trans (by decide +kernel)
theorem d94_62 : decode (zB 94) 62 = .ok (.iaload, 1) := (congrArg (fun c => decode c 62) zeq94).trans (by decide +kernel)
theorem d94_63 : decode (zB 94) 63 = .ok (.invokevirtual 173, 3) := (congrArg (fun c => decode c 63) zeq94).trans (by decide +kernel)
theorem d94_66 : decode (zB 94) 66 = .ok (.iinc 3 1, 3) := (congrArg (fun c => decode c 66) zeq94).trans (by decide +kernel)
theorem d94_69 : decode (zB 94) 69 = .ok (.goto (-38), 3) := (congrArg (fun c => decode c 69) zeq94).trans (by decide +kernel)
theorem d94_72 : decode (zB 94) 72 = .ok (.return_, 1) := (congrArg (fun c => decode c 72) zeq94).trans (by decide +kernel)
theorem l94b {d : Nat} {Q : Option Value → zM → Prop} {lo w u j c n : Nat} {T : Nat → yT} {g : Option (List yL)} {L : List yL} {M0 : zM} (hw : Wd lo w u j) (hok : c ≤ 6 ∧ ∀ i, i < c → OKT (T i)) (hL : RL M0 62 L) (hn : n ≤ L.length) (hlen : L.length ≤ 240) (hv : yva T c L) (k : ∀ M', CN M' lo w u j T c (yre T (L.take n), g) → Fr (FV u) M0 M' → Q none M') : ∀ (r i : Nat) (M1 : zM), i ≤ n → n < i + r → CN M1 lo w u j T c (yre T (L.take i), g) → Fr (FV u) M0 M1 → qW (zEv (d + 6)) 94 Q 31 [(3, .int (nI i)), (0, .ref w), (1, .ref 62), (2, .int (nI n))] [] M1 := by
  intro r
  induction r with
  | zero => intros; omega
  | succ r ih =>
    intro i M1 h1 h2 hC hF
    have hd := hw.d
    have hS := hC.1
    have hs62 := hS.2.2.2.1
    have hwo := hS.wo hw
    have hL1 : RL M1 62 L := RL_fr hL hF (fun b k h1 h2 q => by have := q.1; have := q.2; rcases hw with e | e <;> omega)
    refine q_iload_n d94_31 rfl ?_
    refine q_iload_n d94_32 rfl ?_
    refine nc_ge 72 d94_33 (by decide) (by omega) (by omega) (fun h33 => ?_) (fun h33 => ?_)
    · refine q_ret d94_72 rfl ?_
      have e : i = n := by omega
      subst e
      exact k _ hC hF
    · refine q_iload_n d94_36 rfl ?_
      refine q_aload_n d94_37 rfl ?_
      refine q_getv (c := 0) (f := 3) d94_38 ⟨rfl, by decide⟩ hs62.1 hL1.1 ?_
      refine nc_ge 72 d94_41 (by decide) (by omega) (by omega) (fun h41 => (False.elim (by omega))) (fun h41 => ?_)
      refine q_aload_n d94_44 rfl ?_
      refine q_aload_n d94_45 rfl ?_
      refine q_getr (c := 0) (f := 0) d94_46 ⟨rfl, rfl⟩ hs62.1 (hs62.2 0 (by decide)).1 ?_
      refine q_iload_n d94_49 rfl ?_
      refine n_iald d94_50 (hs62.2 0 (by decide)).2 (by omega) (by decide) (hL1.2 _ (by omega)).1 ?_
      refine q_aload_n d94_51 rfl ?_
      refine q_getr (c := 0) (f := 1) d94_52 ⟨rfl, rfl⟩ hs62.1 (hs62.2 1 (by decide)).1 ?_
      refine q_iload_n d94_55 rfl ?_
      refine n_iald d94_56 (hs62.2 1 (by decide)).2 (by omega) (by decide) (hL1.2 _ (by omega)).2.1 ?_
      refine q_aload_n d94_57 rfl ?_
      refine q_getr (c := 0) (f := 2) d94_58 ⟨rfl, rfl⟩ hs62.1 (hs62.2 2 (by decide)).1 ?_
      refine q_iload_n d94_61 rfl ?_
      refine n_iald d94_62 (hs62.2 2 (by decide)).2 (by omega) (by decide) (hL1.2 _ (by omega)).2.2 ?_
      refine q_v3 d94_63 rfl rfl hwo.1 (Nat.le_of_ble_eq_true rfl) (c96 hC (hv i (by omega)) (fun M2 hC2 f2 => ?_))
      refine n_iinc 1 d94_66 (by decide) rfl rfl ?_
      refine q_goto 31 d94_69 (by decide) ?_
      exact ih (i + 1) _ (by omega) (by omega) (by rw [yre_S (by omega)]; exact hC2) (hF.trans f2)
theorem l94a {d : Nat} {Q : Option Value → zM → Prop} {lo w u j c n : Nat} {T : Nat → yT} {g : Option (List yL)} {L : List yL} {M0 : zM} (hS0 : SC M0) (hT0 : RTx M0 T c) (hJ : RJ M0 j g) (hw : Wd lo w u j) (hok : c ≤ 6 ∧ ∀ i, i < c → OKT (T i)) (hL : RL M0 62 L) (hn : n ≤ L.length) (hlen : L.length ≤ 240) (hv : yva T c L) (k : ∀ M', CN M' lo w u j T c (yre T (L.take n), g) → Fr (FV u) M0 M' → Q none M') : ∀ (r i : Nat) (M1 : zM), i ≤ 3 → 3 < i + r → SC M1 → RPu M1 u yP0 → (∀ r, r < i → RS M1 (u + 3 + 8 * r) T (yNm T yW0 r) yS0) → Fr (FV u) M0 M1 → qW (zEv (d + 6)) 94 Q 9 [(3, .int (nI i)), (0, .ref w), (1, .ref 62), (2, .int (nI n))] [] M1 := by
  intro r
  induction r with
  | zero => intros; omega
  | succ r ih =>
    intro i M1 h1 h2 hS hP hs hF
    have hd := hw.d
    have hwo := hS.wo hw
    refine q_iload_n d94_9 rfl ?_
    refine q_iconstN (z := 3) d94_10 ?_
    refine nc_ge 29 d94_11 (by decide) (by omega) (by omega) (fun h11 => ?_) (fun h11 => ?_)
    · refine q_iconstN (z := 0) d94_29 ?_
      refine q_istore_n d94_30 (by decide) rfl ?_
      exact l94b hw hok hL hn hlen hv k (n + 1) 0 M1 (by omega) (by omega) ⟨hS, hw, RTx_fr hT0 hok.1 hF (fun b k h1 h2 q => by have := q.1; omega), OKW_0 hok, hP, fun r hr => hs r (by omega), RJ_fr hJ hF (fun b k h1 h2 q => by have := q.1; omega)⟩ hF
    · refine q_aload_n d94_14 rfl ?_
      refine q_getr (c := 6) (f := 3) d94_15 ⟨rfl, rfl⟩ hwo.1 hwo.2.2.2.2.1 ?_
      refine q_iload_n d94_18 rfl ?_
      refine n_aald d94_19 hwo.2.2.2.2.2.1 (by decide) (by omega) (by decide) (hwo.2.2.2.2.2.2 _ (by omega)) ?_
      refine q_v0 d94_20 rfl rfl (hS.sg (hw.sg (by omega))).1 (Nat.le_of_ble_eq_true rfl) (c63 (T := T) (nm := yNm T yW0 i) hS (hw.sg (by omega)) (fun M2 hR2 f2 hS2 => ?_))
      refine n_iinc 1 d94_23 (by decide) rfl rfl ?_
      refine q_goto 9 d94_26 (by decide) ?_
      refine ih (i + 1) _ (by omega) (by omega) hS2 (RPu_fr hP f2 (fun b k h1 h2 q => by have := q.1; omega)) (fun r hr => ?_) (hF.trans (f2.mono (Fb_m (by omega) (by omega))))
      by_cases e : r = i
      · subst e; exact hR2
      · exact RS_fr (hs r (by omega)) f2 (fun b k h1 h2 q => by have := q.1; have := q.2; omega)
theorem c94 {d : Nat} {M : zM} {Q : Option Value → zM → Prop} {lo w u j c n : Nat} {T : Nat → yT} {g : Option (List yL)} {L : List yL} (hS0 : SC M) (hT0 : RTx M T c) (hJ : RJ M j g) (hw : Wd lo w u j) (hok : c ≤ 6 ∧ ∀ i, i < c → OKT (T i)) (hL : RL M 62 L) (hn : n ≤ L.length) (hlen : L.length ≤ 240) (hv : yva T c L) (k : ∀ M', CN M' lo w u j T c (yre T (L.take n), g) → Fr (FV u) M M' → Q none M') : qC (d + 7) 94 [.ref w, .ref 62, .int (nI n)] M Q := by
  have hd := hw.d
  have hwo := hS0.wo hw
  refine qC_of (by decide) (Nat.le_of_ble_eq_true rfl) ?_
  refine q_aload_n d94_0 rfl ?_
  refine q_getr (c := 6) (f := 2) d94_1 ⟨rfl, rfl⟩ hwo.1 hwo.2.2.2.1 ?_
  refine q_v0 d94_4 rfl rfl (hS0.pu hw).1 (Nat.le_of_ble_eq_true rfl) (c95 (hS0.pu hw) (fun M1 hP1 f1 => ?_))
  refine q_iconstN (z := 0) d94_7 ?_
  refine q_istore_n d94_8 (by decide) rfl ?_
  exact l94a hS0 hT0 hJ hw hok hL hn hlen hv k 4 0 M1 (by omega) (by omega) (f1.sc hS0 (fun a k ha q => by have := q.1; omega)) hP1 (fun r hr => absurd hr (by omega)) (f1.fr.mono (Fb_m (by omega) (by omega)))
theorem d101_0 : decode (zB 101) 0 = .ok (.aload_n 0, 1) := (congrArg (fun c => decode c 0) zeq101).trans (by decide +kernel)
theorem d101_1 : decode (zB 101) 1 = .ok (.getfield 12, 3) := (congrArg (fun c => decode c 1) zeq101).trans (by decide +kernel)
theorem d101_4 : decode (zB 101) 4 = .ok (.aload_n 1, 1) := (congrArg (fun c => decode c 4) zeq101).trans (by decide +kernel)
theorem d101_5 : decode (zB 101) 5 = .ok (.getfield 12, 3) := (congrArg (fun c => decode c 5) zeq101).trans (by decide +kernel)
theorem d101_8 : decode (zB 101) 8 = .ok (.invokevirtual 33, 3) := (congrArg (fun c => decode c 8) zeq101).trans (by decide +kernel)
theorem d101_11 : decode (zB 101) 11 = .ok (.iconst 0, 1) := (congrArg (fun c => decode c 11) zeq101).trans (by decide +kernel)
theorem d101_12 : decode (zB 101) 12 = .ok (.istore_n 2, 1) := (congrArg (fun c => decode c 12) zeq101).trans (by decide +kernel)
theorem d101_13 : decode (zB 101) 13 = .ok (.iload_n 2, 1) := (congrArg (fun c => decode c 13) zeq101).trans (by decide +kernel)
theorem d101_14 : decode (zB 101) 14 = .ok (.iconst 3, 1) := (congrArg (fun c => decode c 14) zeq101).trans (by decide +kernel)
theorem d101_15 : decode (zB 101) 15 = .ok (.if_icmp .ge 24, 3) := (congrArg (fun c => decode c 15) zeq101).trans (by decide +kernel)
theorem d101_18 : decode (zB 101) 18 = .ok (.aload_n 0, 1) := (congrArg (fun c => decode c 18) zeq101).trans (by decide +kernel)
theorem d101_19 : decode (zB 101) 19 = .ok (.getfield 20, 3) := (congrArg (fun c => decode c 19) zeq101).trans (by decide +kernel)
theorem d101_22 : decode (zB 101) 22 = .ok (.iload_n 2, 1) := (congrArg (fun c => decode c 22) zeq101).trans (by decide +kernel)
theorem d101_23 : decode (zB 101) 23 = .ok (.aaload, 1) := (congrArg (fun c => decode c 23) zeq101).trans (by decide +kernel)
theorem d101_24 : decode (zB 101) 24 = .ok (.aload_n 1, 1) := (congrArg (fun c => decode c 24) zeq101).trans (by decide +kernel)
theorem d101_25 : decode (zB 101) 25 = .ok (.getfield 20, 3) := (congrArg (fun c => decode c 25) zeq101).trans (by decide +kernel)
theorem d101_28 : decode (zB 101) 28 = .ok (.iload_n 2, 1) := (congrArg (fun c => decode c 28) zeq101).trans (by decide +kernel)
theorem d101_29 : decode (zB 101) 29 = .ok (.aaload, 1) := (congrArg (fun c => decode c 29) zeq101).trans (by decide +kernel)
theorem d101_30 : decode (zB 101) 30 = .ok (.invokevirtual 37, 3) := (congrArg (fun c => decode c 30) zeq101).trans (by decide +kernel)
theorem d101_33 : decode (zB 101) 33 = .ok (.iinc 2 1, 3) := (congrArg (fun c => decode c 33) zeq101).trans (by decide +kernel)
theorem d101_36 : decode (zB 101) 36 = .ok (.goto (-23), 3) := (congrArg (fun c => decode c 36) zeq101).trans (by decide +kernel)
theorem d101_39 : decode (zB 101) 39 = .ok (.return_, 1) := (congrArg (fun c => decode c 39) zeq101).trans (by decide +kernel)
theorem gz_12 {T : Nat → yT} {c r : Nat} {W : yW} (h : OKW T c W) (hr : r < 3) : gz T (W.2 r) ≤ 12 := by
  unfold gz
  split
  · omega
  · rename_i q; exact (h.1.2 _ ((h.2.2 r hr).2.1 q)).n
theorem l101 {d : Nat} {Q : Option Value → zM → Prop} {c : Nat} {T : Nat → yT} {nm : Nat → Nat → Int32} {X : yX} {M0 : zM} (hC0 : CW M0 62 66 67 62 T c nm X) (k : ∀ M', CW M' 94 94 99 95 T c nm (X.1, none) → Fr (FV 99) M0 M' → Q none M') : ∀ (r i : Nat) (M1 : zM), i ≤ 3 → 3 < i + r → SC M1 → RPu M1 99 X.1.1 → (∀ r, r < i → RS M1 (102 + 8 * r) T (nm r) (X.1.2 r)) → Fr (FV 99) M0 M1 → qW (zEv (d + 1)) 101 Q 13 [(2, .int (nI i)), (0, .ref 94), (1, .ref 66)] [] M1 := by
  intro r
  induction r with
  | zero => intros; omega
  | succ r ih =>
    intro i M1 h1 h2 hS hP hs hF
    have hwt := hS.wo (Or.inr ⟨rfl, rfl, rfl, rfl⟩)
    have hwr := hS.wo (Or.inl ⟨rfl, rfl, rfl, rfl⟩)
    have hz : ∀ r, r < 3 → gz T (X.1.2 r) ≤ 12 := fun r hr => gz_12 hC0.2.2.2.1 hr
    refine q_iload_n d101_13 rfl ?_
    refine q_iconstN (z := 3) d101_14 ?_
    refine nc_ge 39 d101_15 (by decide) (by omega) (by omega) (fun h15 => ?_) (fun h15 => ?_)
    · refine q_ret d101_39 rfl ?_
      exact k _ ⟨hS, Or.inr ⟨rfl, rfl, rfl, rfl⟩, RTx_fr hC0.2.2.1 hC0.2.2.2.1.1.1 hF (fun b k h1 h2 q => by have := q.1; omega), hC0.2.2.2.1, hP, fun r hr => hs r (by omega), rfl⟩ hF
    · refine q_aload_n d101_18 rfl ?_
      refine q_getr (c := 6) (f := 3) d101_19 ⟨rfl, rfl⟩ hwt.1 hwt.2.2.2.2.1 ?_
      refine q_iload_n d101_22 rfl ?_
      refine n_aald d101_23 hwt.2.2.2.2.2.1 (by decide) (by omega) (by decide) (hwt.2.2.2.2.2.2 _ (by omega)) ?_
      refine q_aload_n d101_24 rfl ?_
      refine q_getr (c := 6) (f := 3) d101_25 ⟨rfl, rfl⟩ hwr.1 hwr.2.2.2.2.1 ?_
      refine q_iload_n d101_28 rfl ?_
      refine n_aald d101_29 hwr.2.2.2.2.2.1 (by decide) (by omega) (by decide) (hwr.2.2.2.2.2.2 _ (by omega)) ?_
      refine q_v1 d101_30 rfl rfl (hS.sg (by unfold zSa; omega)).1 (Nat.le_of_ble_eq_true rfl) (c102 (T := T) (nm := nm i) (S := X.1.2 i) hS (by unfold zSa; omega) (by unfold zSa; omega) (by omega) (RS_fr (hC0.2.2.2.2.2.1 i (by omega)) hF (fun b k h1 h2 q => by have := q.1; omega)) (Nat.le_trans (OKS_len (hC0.2.2.2.1.2.2 i (by omega)) (hz i (by omega))) (hz i (by omega))) (hz i (by omega)) (fun M2 hR2 f2 hS2 => ?_))
      refine n_iinc 1 d101_33 (by decide) rfl rfl ?_
      refine q_goto 13 d101_36 (by decide) ?_
      refine ih (i + 1) _ (by omega) (by omega) hS2 (RPu_fr hP f2 (fun b k h1 h2 q => by have := q.1; omega)) (fun r hr => ?_) (hF.trans (f2.mono (Fb_m (by omega) (by omega))))
      by_cases e : r = i
      · subst e; exact hR2
      · exact RS_fr (hs r (by omega)) f2 (fun b k h1 h2 q => by have := q.1; have := q.2; omega)
theorem c101 {d : Nat} {M : zM} {Q : Option Value → zM → Prop} {c : Nat} {T : Nat → yT} {nm : Nat → Nat → Int32} {X : yX} (hC0 : CW M 62 66 67 62 T c nm X) (k : ∀ M', CW M' 94 94 99 95 T c nm (X.1, none) → Fr (FV 99) M M' → Q none M') : qC (d + 2) 101 [.ref 94, .ref 66] M Q := by
  have hS := hC0.1
  have hwt := hS.wo (Or.inr ⟨rfl, rfl, rfl, rfl⟩)
  have hwr := hS.wo (Or.inl ⟨rfl, rfl, rfl, rfl⟩)
  have hpt := hS.pu (Or.inr ⟨rfl, rfl, rfl, rfl⟩)
  have hpr := hS.pu (Or.inl ⟨rfl, rfl, rfl, rfl⟩)
  refine qC_of (by decide) (Nat.le_of_ble_eq_true rfl) ?_
  refine q_aload_n d101_0 rfl ?_
  refine q_getr (c := 6) (f := 2) d101_1 ⟨rfl, rfl⟩ hwt.1 hwt.2.2.2.1 ?_
  refine q_aload_n d101_4 rfl ?_
  refine q_getr (c := 6) (f := 2) d101_5 ⟨rfl, rfl⟩ hwr.1 hwr.2.2.2.1 ?_
  refine q_v1 d101_8 rfl rfl hpt.1 (Nat.le_of_ble_eq_true rfl) (c42 hpt hpr hC0.2.2.2.2.1 (by omega) (fun M1 hP1 f1 => ?_))
  refine q_iconstN (z := 0) d101_11 ?_
  refine q_istore_n d101_12 (by decide) rfl ?_
  exact l101 hC0 k 4 0 M1 (by omega) (by omega) (f1.sc hS (fun a k ha q => by have := q.1; omega)) hP1 (fun r hr => absurd hr (by omega)) (f1.fr.mono (Fb_m (by omega) (by omega)))
def ydr (S : yS) : yS := gqS (gpS S (fun _ => 0)) (fun _ => 0)
/-- the first n sagas' plans are dropped -/
def ydp (n : Nat) (X : yX) : yX := ((X.1.1, fun s => if s < n then ydr (X.1.2 s) else X.1.2 s), X.2)
theorem RS_dr {M M' : zM} {a : Nat} {T : Nat → yT} {nm : Nat → Int32} {S : yS} (h : RS M a T nm S) (hp : ∀ j, j < 12 → zi M' (a + 4) j = nI 0 ∧ zi M' (a + 5) j = nI 0) (f : Fi (fun b _ => b = a + 4 ∨ b = a + 5) M M') : RS M' a T nm (ydr S) := by
  have g : ∀ b k, b ≠ a + 4 → b ≠ a + 5 → zi M' b k = zi M b k := fun b k n n2 => f.1 b k (by omega)
  obtain ⟨⟨h1, h2, h3⟩, ⟨h4, h5, h6⟩, ⟨h7, h8⟩, h9, ha, hb⟩ := h
  exact ⟨⟨(g _ _ (by omega) (by omega)).trans h1, (g _ _ (by omega) (by omega)).trans h2, (f.r _ _).trans h3⟩, ⟨(g _ _ (by omega) (by omega)).trans h4, (g _ _ (by omega) (by omega)).trans h5, (g _ _ (by omega) (by omega)).trans h6⟩,
    ⟨(g _ _ (by omega) (by omega)).trans h7, fun k hk => (g _ _ (by omega) (by omega)).trans (h8 k hk)⟩, fun k hk => (g _ _ (by omega) (by omega)).trans (h9 k hk), fun k hk he => (g _ _ (by omega) (by omega)).trans (ha k hk he),
    fun k hk => ⟨(hp k hk).1, (hp k hk).2, (g _ _ (by omega) (by omega)).trans (hb k hk).2.2.1, (g _ _ (by omega) (by omega)).trans (hb k hk).2.2.2⟩⟩
theorem ydp_S {i : Nat} {X : yX} : yss (ydp i X) i (ydr (X.1.2 i)) = ydp (i + 1) X := by
  unfold ydp yss
  simp only []
  congr 2
  funext s
  by_cases e : s = i
  · subst e; rw [yu_s, if_pos (by omega)]
  · rw [yu_n e]
    by_cases h : s < i
    · rw [if_pos h, if_pos (by omega)]
    · rw [if_neg h, if_neg (by omega)]
theorem ydp_ok {T : Nat → yT} {c n : Nat} {X : yX} (h : OKW T c X.1) : OKW T c (ydp n X).1 := ⟨h.1, h.2.1, fun s hs => by
  show OKS T c (if s < n then ydr (X.1.2 s) else X.1.2 s)
  split
  · exact h.2.2 s hs
  · exact h.2.2 s hs⟩
theorem d108_0 : decode (zB 108) 0 = .ok (.iconst 0, 1) := (congrArg (fun c => decode c 0) zeq108).trans (by decide +kernel)
theorem d108_1 : decode (zB 108) 1 = .ok (.istore_n 1, 1) := (congrArg (fun c => decode c 1) zeq108).trans (by decide +kernel)
theorem d108_2 : decode (zB 108) 2 = .ok (.iload_n 1, 1) := (congrArg (fun c => decode c 2) zeq108).trans (by decide +kernel)
theorem d108_3 : decode (zB 108) 3 = .ok (.iconst 3, 1) := (congrArg (fun c => decode c 3) zeq108).trans (by decide +kernel)
theorem d108_4 : decode (zB 108) 4 = .ok (.if_icmp .ge 18, 3) := (congrArg (fun c => decode c 4) zeq108).trans (by decide +kernel)
theorem d108_7 : decode (zB 108) 7 = .ok (.aload_n 0, 1) := (congrArg (fun c => decode c 7) zeq108).trans (by decide +kernel)
theorem d108_8 : decode (zB 108) 8 = .ok (.getfield 20, 3) := (congrArg (fun c => decode c 8) zeq108).trans (by decide +kernel)
theorem d108_11 : decode (zB 108) 11 = .ok (.iload_n 1, 1) := (congrArg (fun c => decode c 11) zeq108).trans (by decide +kernel)
theorem d108_12 : decode (zB 108) 12 = .ok (.aaload, 1) := (congrArg (fun c => decode c 12) zeq108).trans (by decide +kernel)
theorem d108_13 : decode (zB 108) 13 = .ok (.invokevirtual 40, 3) := (congrArg (fun c => decode c 13) zeq108).trans (by decide +kernel)
theorem d108_16 : decode (zB 108) 16 = .ok (.iinc 1 1, 3) := (congrArg (fun c => decode c 16) zeq108).trans (by decide +kernel)
theorem d108_19 : decode (zB 108) 19 = .ok (.goto (-17), 3) := (congrArg (fun c => decode c 19) zeq108).trans (by decide +kernel)
theorem d108_22 : decode (zB 108) 22 = .ok (.return_, 1) := (congrArg (fun c => decode c 22) zeq108).trans (by decide +kernel)
theorem l108 {d : Nat} {Q : Option Value → zM → Prop} {lo w u j c : Nat} {T : Nat → yT} {nm : Nat → Nat → Int32} {X : yX} {M0 : zM} (hO : OKW T c X.1) (hw : Wd lo w u j) (k : ∀ M', CW M' lo w u j T c nm (ydp 3 X) → Fi (FW lo) M0 M' → Q none M') : ∀ (r i : Nat) (M1 : zM), i ≤ 3 → 3 < i + r → CW M1 lo w u j T c nm (ydp i X) → Fi (FW lo) M0 M1 → qW (zEv (d + 2)) 108 Q 2 [(1, .int (nI i)), (0, .ref w)] [] M1 := by
  intro r
  induction r with
  | zero => intros; omega
  | succ r ih =>
    intro i M1 h1 h2 hC hF
    have hd := hw.d
    have hwo := hC.1.wo hw
    refine q_iload_n d108_2 rfl ?_
    refine q_iconstN (z := 3) d108_3 ?_
    refine nc_ge 22 d108_4 (by decide) (by omega) (by omega) (fun h4 => ?_) (fun h4 => ?_)
    · refine q_ret d108_22 rfl ?_
      rw [show i = 3 by omega] at hC
      exact k _ hC hF
    · refine q_aload_n d108_7 rfl ?_
      refine q_getr (c := 6) (f := 3) d108_8 ⟨rfl, rfl⟩ hwo.1 hwo.2.2.2.2.1 ?_
      refine q_iload_n d108_11 rfl ?_
      refine n_aald d108_12 hwo.2.2.2.2.2.1 (by decide) (by omega) (by decide) (hwo.2.2.2.2.2.2 _ (by omega)) ?_
      refine q_v0 d108_13 rfl rfl (hC.1.sg (hw.sg (by omega))).1 (Nat.le_of_ble_eq_true rfl) (c64 (hC.1.sg (hw.sg (by omega))) (fun M2 hp2 f2 => ?_))
      refine n_iinc 1 d108_16 (by decide) rfl rfl ?_
      refine q_goto 2 d108_19 (by decide) ?_
      have f2' : Fi (FS (u + 3 + 8 * i)) M1 M2 := f2.mono (fun b _ q => FS_x (by omega) (by omega))
      have e1 : (ydp i X).1.2 i = X.1.2 i := if_neg (by omega)
      have hRi := hC.2.2.2.2.2.1 i (by omega)
      rw [e1] at hRi
      have hR2 := RW_sg hw hC.2.2.2.2 (show i < 3 by omega) (RS_dr hRi hp2 f2) f2'.fr
      rw [ydp_S] at hR2
      exact ih (i + 1) _ (by omega) (by omega) (hC.up hR2 (ydp_ok hO) (f2'.mono (Fb_m (by omega) (by omega)))) (hF.trans (f2'.mono (Fb_m (by omega) (by omega))))
theorem c108 {d : Nat} {M : zM} {Q : Option Value → zM → Prop} {lo w u j c : Nat} {T : Nat → yT} {nm : Nat → Nat → Int32} {X : yX} (hC : CW M lo w u j T c nm X) (k : ∀ M', CW M' lo w u j T c nm (ydp 3 X) → Fi (FW lo) M M' → Q none M') : qC (d + 3) 108 [.ref w] M Q := by
  have hwo := hC.1.wo hC.2.1
  refine qC_of (by decide) (Nat.le_of_ble_eq_true rfl) ?_
  refine q_iconstN (z := 0) d108_0 ?_
  refine q_istore_n d108_1 (by decide) rfl ?_
  exact l108 hC.2.2.2.1 hC.2.1 k 4 0 M (by omega) (by omega) hC (Fi.refl _ _)
def yac1 (S : yS) : Nat := if gt S = 1 ∨ gt S = 2 then 1 else 0
def yact (W : yW) : Nat → Nat
  | 0 => 0
  | n + 1 => yact W n + yac1 (W.2 n)
theorem yact_le (W : yW) : ∀ n, yact W n ≤ n
  | 0 => Nat.le_refl _
  | n + 1 => by have := yact_le W n; unfold yact yac1; split <;> omega
theorem yact_t {W : yW} {n : Nat} (h : decide (gt (W.2 n) = 1 ∨ gt (W.2 n) = 2) = true) : yact W (n + 1) = yact W n + 1 := by
  have : yact W (n + 1) = yact W n + yac1 (W.2 n) := rfl
  rw [this]; unfold yac1; rw [if_pos (of_decide_eq_true h)]
theorem yact_f {W : yW} {n : Nat} (h : decide (gt (W.2 n) = 1 ∨ gt (W.2 n) = 2) = false) : yact W (n + 1) = yact W n := by
  have : yact W (n + 1) = yact W n + yac1 (W.2 n) := rfl
  rw [this]; unfold yac1; rw [if_neg (of_decide_eq_false h)]; rfl
theorem d124_0 : decode (zB 124) 0 = .ok (.iconst 0, 1) := (congrArg (fun c => decode c 0) zeq124).trans (by decide +kernel)
theorem d124_1 : decode (zB 124) 1 = .ok (.istore_n 1, 1) := (congrArg (fun c => decode c 1) zeq124).trans (by decide +kernel)
theorem d124_2 : decode (zB 124) 2 = .ok (.iconst 0, 1) := (congrArg (fun c => decode c 2) zeq124).trans (by decide +kernel)
theorem d124_3 : decode (zB 124) 3 = .ok (.istore_n 2, 1) := (congrArg (fun c => decode c 3) zeq124).trans (by decide +kernel)
theorem d124_4 : decode (zB 124) 4 = .ok (.iload_n 2, 1) := (congrArg (fun c => decode c 4) zeq124).trans (by decide +kernel)
theorem d124_5 : decode (zB 124) 5 = .ok (.iconst 3, 1) := (congrArg (fun c => decode c 5) zeq124).trans (by decide +kernel)
theorem d124_6 : decode (zB 124) 6 = .ok (.if_icmp .ge 24, 3) := (congrArg (fun c => decode c 6) zeq124).trans (by decide +kernel)
theorem d124_9 : decode (zB 124) 9 = .ok (.aload_n 0, 1) := (congrArg (fun c => decode c 9) zeq124).trans (by decide +kernel)
theorem d124_10 : decode (zB 124) 10 = .ok (.getfield 20, 3) := (congrArg (fun c => decode c 10) zeq124).trans (by decide +kernel)
theorem d124_13 : decode (zB 124) 13 = .ok (.iload_n 2, 1) := (congrArg (fun c => decode c 13) zeq124).trans (by decide +kernel)
theorem d124_14 : decode (zB 124) 14 = .ok (.aaload, 1) := (congrArg (fun c => decode c 14) zeq124).trans (by decide +kernel)
theorem d124_15 : decode (zB 124) 15 = .ok (.invokevirtual 43, 3) := (congrArg (fun c => decode c 15) zeq124).trans (by decide +kernel)
theorem d124_18 : decode (zB 124) 18 = .ok (.ifCond .eq 6, 3) := (congrArg (fun c => decode c 18) zeq124).trans (by decide +kernel)
theorem d124_21 : decode (zB 124) 21 = .ok (.iinc 1 1, 3) := (congrArg (fun c => decode c 21) zeq124).trans (by decide +kernel)
theorem d124_24 : decode (zB 124) 24 = .ok (.iinc 2 1, 3) := (congrArg (fun c => decode c 24) zeq124).trans (by decide +kernel)
theorem d124_27 : decode (zB 124) 27 = .ok (.goto (-23), 3) := (congrArg (fun c => decode c 27) zeq124).trans (by decide +kernel)
theorem d124_30 : decode (zB 124) 30 = .ok (.iload_n 1, 1) := (congrArg (fun c => decode c 30) zeq124).trans (by decide +kernel)
theorem d124_31 : decode (zB 124) 31 = .ok (.ireturn, 1) := (congrArg (fun c => decode c 31) zeq124).trans (by decide +kernel)
theorem l124 {d : Nat} {M : zM} {Q : Option Value → zM → Prop} {lo w u j c : Nat} {T : Nat → yT} {nm : Nat → Nat → Int32} {X : yX} (hC : CW M lo w u j T c nm X) (k : Q (some (.int (nI (yact X.1 3)))) M) : ∀ (r i : Nat), i ≤ 3 → 3 < i + r → qW (zEv (d + 1)) 124 Q 4 [(2, .int (nI i)), (1, .int (nI (yact X.1 i))), (0, .ref w)] [] M := by
  intro r
  induction r with
  | zero => intros; omega
  | succ r ih =>
    intro i  h1 h2 
    have hwo := hC.1.wo hC.2.1
    have hle := yact_le X.1 i
    refine q_iload_n d124_4 rfl ?_
    refine q_iconstN (z := 3) d124_5 ?_
    refine nc_ge 30 d124_6 (by decide) (by omega) (by omega) (fun h6 => ?_) (fun h6 => ?_)
    · refine q_iload_n d124_30 rfl ?_
      refine q_iret d124_31 rfl ?_
      rw [show i = 3 by omega]; exact k
    · refine q_aload_n d124_9 rfl ?_
      refine q_getr (c := 6) (f := 3) d124_10 ⟨rfl, rfl⟩ hwo.1 hwo.2.2.2.2.1 ?_
      refine q_iload_n d124_13 rfl ?_
      refine n_aald d124_14 hwo.2.2.2.2.2.1 (by decide) (by omega) (by decide) (hwo.2.2.2.2.2.2 _ (by omega)) ?_
      refine q_v0 d124_15 rfl rfl (hC.1.sg (hC.2.1.sg (by omega))).1 (Nat.le_of_ble_eq_true rfl) (c61 (hC.1.sg (hC.2.1.sg (by omega))) (hC.2.2.2.2.2.1 i (by omega)).1.1 (hC.2.2.2.1.2.2 i (by omega)).1 ?_)
      refine b0_eq 24 d124_18 (by decide) (fun h18 => ?_) (fun h18 => ?_)
      · refine n_iinc 1 d124_24 (by decide) rfl rfl ?_
        refine q_goto 4 d124_27 (by decide) ?_
        first
        | (rw [← yact_t h18]; exact ih (i + 1) (by omega) (by omega))
        | (rw [← yact_f h18]; exact ih (i + 1) (by omega) (by omega))
      · refine n_iinc 1 d124_21 (by decide) rfl rfl ?_
        refine n_iinc 1 d124_24 (by decide) rfl rfl ?_
        refine q_goto 4 d124_27 (by decide) ?_
        first
        | (rw [← yact_t h18]; exact ih (i + 1) (by omega) (by omega))
        | (rw [← yact_f h18]; exact ih (i + 1) (by omega) (by omega))
theorem c124 {d : Nat} {M : zM} {Q : Option Value → zM → Prop} {lo w u j c : Nat} {T : Nat → yT} {nm : Nat → Nat → Int32} {X : yX} (hC : CW M lo w u j T c nm X) (k : Q (some (.int (nI (yact X.1 3)))) M) : qC (d + 2) 124 [.ref w] M Q := by
  have hwo := hC.1.wo hC.2.1
  refine qC_of (by decide) (Nat.le_of_ble_eq_true rfl) ?_
  refine q_iconstN (z := 0) d124_0 ?_
  refine q_istore_n d124_1 (by decide) rfl ?_
  refine q_iconstN (z := 0) d124_2 ?_
  refine q_istore_n d124_3 (by decide) rfl ?_
  exact l124 hC k 4 0 (by omega) (by omega)
/-! ===== contracts: rows, small questions ===== -/
theorem n_idec {R : zRT} {m : Nat} {Q : Option Value → zM → Prop} {pc : Nat} {l l' : List (Nat × Value)} {st : List Value} {M : zM} {j x : Nat} (hd : decode (zB m) pc = .ok (.iinc j (-1), 3)) (hj : j < zML m) (hx : zld l j = some (.int (nI x))) (h1 : 1 ≤ x) (hl : zst l j (.int (nI (x - 1))) = l') (k : qW R m Q (pc + 3) l' st M) : qW R m Q pc l st M :=
  q_iinc hd hj hx (by rw [← pk_sub h1]; rw [show (Int32.ofInt (-1)) = -nI 1 by decide, ← Int32.sub_eq_add_neg]) hl k
theorem n_max0 (n : Nat) (h : n < 2147483648) : (if nI 0 < nI n then nI n else nI 0) = nI n := by
  by_cases e : n = 0
  · subst e; rw [if_neg (nI_nlt (Nat.le_refl 0) (by omega))]
  · rw [if_pos (nI_lt (by omega) h)]
theorem n_maxN {a b : Nat} (ha : a < 2147483648) (hb : b < 2147483648) : (if nI a < nI b then nI b else nI a) = nI (max a b) := by
  by_cases h : a < b
  · rw [if_pos (nI_lt h hb), Nat.max_eq_right (by omega)]
  · rw [if_neg (nI_nlt (by omega) ha), Nat.max_eq_left (by omega)]
def ush (x y : Int32) : Int32 := (x.toUInt32 >>> (y.toUInt32 &&& Int32.toUInt32 31)).toInt32
theorem d121_0 : decode (zB 121) 0 = .ok (.aload_n 0, 1) := (congrArg (fun c => decode c 0) zeq121).trans (by decide +kernel)
theorem d121_1 : decode (zB 121) 1 = .ok (.iload_n 1, 1) := (congrArg (fun c => decode c 1) zeq121).trans (by decide +kernel)
theorem d121_2 : decode (zB 121) 2 = .ok (.putfield 9, 3) := (congrArg (fun c => decode c 2) zeq121).trans (by decide +kernel)
theorem d121_5 : decode (zB 121) 5 = .ok (.aload_n 0, 1) := (congrArg (fun c => decode c 5) zeq121).trans (by decide +kernel)
theorem d121_6 : decode (zB 121) 6 = .ok (.iconst 0, 1) := (congrArg (fun c => decode c 6) zeq121).trans (by decide +kernel)
theorem d121_7 : decode (zB 121) 7 = .ok (.iload_n 2, 1) := (congrArg (fun c => decode c 7) zeq121).trans (by decide +kernel)
theorem d121_8 : decode (zB 121) 8 = .ok (.bipush 40, 2) := (congrArg (fun c => decode c 8) zeq121).trans (by decide +kernel)
theorem d121_10 : decode (zB 121) 10 = .ok (.invokestatic 19, 3) := (congrArg (fun c => decode c 10) zeq121).trans (by decide +kernel)
theorem d121_13 : decode (zB 121) 13 = .ok (.invokestatic 25, 3) := (congrArg (fun c => decode c 13) zeq121).trans (by decide +kernel)
theorem d121_16 : decode (zB 121) 16 = .ok (.putfield 28, 3) := (congrArg (fun c => decode c 16) zeq121).trans (by decide +kernel)
theorem d121_19 : decode (zB 121) 19 = .ok (.aload_n 0, 1) := (congrArg (fun c => decode c 19) zeq121).trans (by decide +kernel)
theorem d121_20 : decode (zB 121) 20 = .ok (.getfield 15, 3) := (congrArg (fun c => decode c 20) zeq121).trans (by decide +kernel)
theorem d121_23 : decode (zB 121) 23 = .ok (.iconst 0, 1) := (congrArg (fun c => decode c 23) zeq121).trans (by decide +kernel)
theorem d121_24 : decode (zB 121) 24 = .ok (.invokestatic 31, 3) := (congrArg (fun c => decode c 24) zeq121).trans (by decide +kernel)
theorem d121_27 : decode (zB 121) 27 = .ok (.return_, 1) := (congrArg (fun c => decode c 27) zeq121).trans (by decide +kernel)
theorem c121 {d : Nat} {M : zM} {Q : Option Value → zM → Prop} {a n : Nat} {so : Int32} (hs : SRo M a) (hn : n ≤ 40) (k : ∀ M', zi M' a 0 = so → zi M' a 1 = nI n → Fi (Fb a (a + 2)) M M' → Q none M') : qC (d + 2) 121 [.ref a, .int so, .int (nI n)] M Q := by
  refine qC_of (by decide) (Nat.le_of_ble_eq_true rfl) ?_
  refine q_aload_n d121_0 rfl ?_
  refine q_iload_n d121_1 rfl ?_
  refine q_puti (c := 4) (f := 0) d121_2 ⟨rfl, rfl, by decide⟩ hs.1 ?_
  refine q_aload_n d121_5 rfl ?_
  refine q_iconstN (z := 0) d121_6 ?_
  refine q_iload_n d121_7 rfl ?_
  refine q_bipush (x := nI 40) d121_8 rfl ?_
  refine q_min d121_10 rfl (Nat.le_of_ble_eq_true rfl) ?_
  rw [if_neg (nI_nlt (by omega) (by omega))]
  refine q_max d121_13 rfl (Nat.le_of_ble_eq_true rfl) ?_
  rw [n_max0 _ (by omega)]
  refine q_puti (c := 4) (f := 1) d121_16 ⟨rfl, rfl, by decide⟩ hs.1 ?_
  refine q_aload_n d121_19 rfl ?_
  refine q_getr (c := 4) (f := 2) d121_20 ⟨rfl, rfl⟩ hs.1 hs.2.1 ?_
  refine q_iconstN (z := 0) d121_23 ?_
  refine q_s2 d121_24 (Or.inl rfl) rfl (Nat.le_of_ble_eq_true rfl) (c6 hs.2.2 (by decide) (fun M1 hv f1 => ?_))
  refine q_ret d121_27 rfl ?_
  refine k _ ?_ ?_ ((((Fi.refl _ _).wi ⟨by omega, by omega⟩).wi ⟨by omega, by omega⟩).trans (f1.mono (fun b _ q => ⟨by omega, by omega⟩)))
  · rw [f1.1 _ _ (by omega)]; rw [wi_n (Or.inr (by decide)), wi_s]
  · rw [f1.1 _ _ (by omega)]; rw [wi_s]
theorem d122_0 : decode (zB 122) 0 = .ok (.iload_n 1, 1) := (congrArg (fun c => decode c 0) zeq122).trans (by decide +kernel)
theorem d122_1 : decode (zB 122) 1 = .ok (.iconst 0, 1) := (congrArg (fun c => decode c 1) zeq122).trans (by decide +kernel)
theorem d122_2 : decode (zB 122) 2 = .ok (.aload_n 0, 1) := (congrArg (fun c => decode c 2) zeq122).trans (by decide +kernel)
theorem d122_3 : decode (zB 122) 3 = .ok (.getfield 28, 3) := (congrArg (fun c => decode c 3) zeq122).trans (by decide +kernel)
theorem d122_6 : decode (zB 122) 6 = .ok (.iconst 1, 1) := (congrArg (fun c => decode c 6) zeq122).trans (by decide +kernel)
theorem d122_7 : decode (zB 122) 7 = .ok (.isub, 1) := (congrArg (fun c => decode c 7) zeq122).trans (by decide +kernel)
theorem d122_8 : decode (zB 122) 8 = .ok (.invokestatic 37, 3) := (congrArg (fun c => decode c 8) zeq122).trans (by decide +kernel)
theorem d122_11 : decode (zB 122) 11 = .ok (.ifCond .eq 25, 3) := (congrArg (fun c => decode c 11) zeq122).trans (by decide +kernel)
theorem d122_14 : decode (zB 122) 14 = .ok (.aload_n 0, 1) := (congrArg (fun c => decode c 14) zeq122).trans (by decide +kernel)
theorem d122_15 : decode (zB 122) 15 = .ok (.getfield 15, 3) := (congrArg (fun c => decode c 15) zeq122).trans (by decide +kernel)
theorem d122_18 : decode (zB 122) 18 = .ok (.iload_n 1, 1) := (congrArg (fun c => decode c 18) zeq122).trans (by decide +kernel)
theorem d122_19 : decode (zB 122) 19 = .ok (.aload_n 0, 1) := (congrArg (fun c => decode c 19) zeq122).trans (by decide +kernel)
theorem d122_20 : decode (zB 122) 20 = .ok (.getfield 9, 3) := (congrArg (fun c => decode c 20) zeq122).trans (by decide +kernel)
theorem d122_23 : decode (zB 122) 23 = .ok (.ifCond .ne 11, 3) := (congrArg (fun c => decode c 23) zeq122).trans (by decide +kernel)
theorem d122_26 : decode (zB 122) 26 = .ok (.iload_n 2, 1) := (congrArg (fun c => decode c 26) zeq122).trans (by decide +kernel)
theorem d122_27 : decode (zB 122) 27 = .ok (.sipush 255, 3) := (congrArg (fun c => decode c 27) zeq122).trans (by decide +kernel)
theorem d122_30 : decode (zB 122) 30 = .ok (.iand, 1) := (congrArg (fun c => decode c 30) zeq122).trans (by decide +kernel)
theorem d122_31 : decode (zB 122) 31 = .ok (.goto 4, 3) := (congrArg (fun c => decode c 31) zeq122).trans (by decide +kernel)
theorem d122_34 : decode (zB 122) 34 = .ok (.iload_n 2, 1) := (congrArg (fun c => decode c 34) zeq122).trans (by decide +kernel)
theorem d122_35 : decode (zB 122) 35 = .ok (.iastore, 1) := (congrArg (fun c => decode c 35) zeq122).trans (by decide +kernel)
theorem d122_36 : decode (zB 122) 36 = .ok (.return_, 1) := (congrArg (fun c => decode c 36) zeq122).trans (by decide +kernel)
theorem c122 {d : Nat} {M : zM} {Q : Option Value → zM → Prop} {a i n : Nat} {v : Int32} (hs : SRo M a) (hz : zi M a 1 = nI n) (hi : i < n) (hn : n ≤ 40) (k : ∀ M', Fi (fun b _ => b = a + 1) M M' → Q none M') : qC (d + 2) 122 [.ref a, .int (nI i), .int v] M Q := by
  refine qC_of (by decide) (Nat.le_of_ble_eq_true rfl) ?_
  refine q_iload_n d122_0 rfl ?_
  refine q_iconstN (z := 0) d122_1 ?_
  refine q_aload_n d122_2 rfl ?_
  refine q_getv (c := 4) (f := 1) d122_3 ⟨rfl, by decide⟩ hs.1 hz ?_
  refine q_iconstN (z := 1) d122_6 ?_
  refine n_isub d122_7 (by omega) ?_
  refine q_s3 d122_8 (Or.inr rfl) rfl (Nat.le_of_ble_eq_true rfl) (c10t ⟨by omega, by omega⟩ (by omega) ?_)
  refine n0_eq 36 d122_11 (by decide) (by decide) (fun q => absurd q (by decide)) (fun _ => ?_)
  refine q_aload_n d122_14 rfl ?_
  refine q_getr (c := 4) (f := 2) d122_15 ⟨rfl, rfl⟩ hs.1 hs.2.1 ?_
  refine q_iload_n d122_18 rfl ?_
  refine q_aload_n d122_19 rfl ?_
  refine q_getv (c := 4) (f := 0) d122_20 ⟨rfl, by decide⟩ hs.1 rfl ?_
  refine i0_ne 34 d122_23 (by decide) (fun h23 => ?_) (fun h23 => ?_)
  · refine q_iload_n d122_34 rfl ?_
    refine n_iast d122_35 hs.2.2 (by omega) (by decide) ?_
    refine q_ret d122_36 rfl ?_
    exact k _ ((Fi.refl _ _).wi rfl)
  · refine q_iload_n d122_26 rfl ?_
    refine q_sipush (x := nI 255) d122_27 rfl ?_
    refine q_iand d122_30 ?_
    refine q_goto 35 d122_31 (by decide) ?_
    refine n_iast d122_35 hs.2.2 (by omega) (by decide) ?_
    refine q_ret d122_36 rfl ?_
    exact k _ ((Fi.refl _ _).wi rfl)
def yhp (i n : Int32) (z : Nat) : Prop := ∃ a b, i = nI a ∧ n = nI b ∧ a + b ≤ z
theorem d128_0 : decode (zB 128) 0 = .ok (.iload_n 2, 1) := (congrArg (fun c => decode c 0) zeq128).trans (by decide +kernel)
theorem d128_1 : decode (zB 128) 1 = .ok (.ifCond .lt 29, 3) := (congrArg (fun c => decode c 1) zeq128).trans (by decide +kernel)
theorem d128_4 : decode (zB 128) 4 = .ok (.iload_n 1, 1) := (congrArg (fun c => decode c 4) zeq128).trans (by decide +kernel)
theorem d128_5 : decode (zB 128) 5 = .ok (.iconst 0, 1) := (congrArg (fun c => decode c 5) zeq128).trans (by decide +kernel)
theorem d128_6 : decode (zB 128) 6 = .ok (.aload_n 0, 1) := (congrArg (fun c => decode c 6) zeq128).trans (by decide +kernel)
theorem d128_7 : decode (zB 128) 7 = .ok (.getfield 28, 3) := (congrArg (fun c => decode c 7) zeq128).trans (by decide +kernel)
theorem d128_10 : decode (zB 128) 10 = .ok (.invokestatic 37, 3) := (congrArg (fun c => decode c 10) zeq128).trans (by decide +kernel)
theorem d128_13 : decode (zB 128) 13 = .ok (.ifCond .eq 17, 3) := (congrArg (fun c => decode c 13) zeq128).trans (by decide +kernel)
theorem d128_16 : decode (zB 128) 16 = .ok (.iload_n 2, 1) := (congrArg (fun c => decode c 16) zeq128).trans (by decide +kernel)
theorem d128_17 : decode (zB 128) 17 = .ok (.aload_n 0, 1) := (congrArg (fun c => decode c 17) zeq128).trans (by decide +kernel)
theorem d128_18 : decode (zB 128) 18 = .ok (.getfield 28, 3) := (congrArg (fun c => decode c 18) zeq128).trans (by decide +kernel)
theorem d128_21 : decode (zB 128) 21 = .ok (.iload_n 1, 1) := (congrArg (fun c => decode c 21) zeq128).trans (by decide +kernel)
theorem d128_22 : decode (zB 128) 22 = .ok (.isub, 1) := (congrArg (fun c => decode c 22) zeq128).trans (by decide +kernel)
theorem d128_23 : decode (zB 128) 23 = .ok (.if_icmp .gt 7, 3) := (congrArg (fun c => decode c 23) zeq128).trans (by decide +kernel)
theorem d128_26 : decode (zB 128) 26 = .ok (.iconst 1, 1) := (congrArg (fun c => decode c 26) zeq128).trans (by decide +kernel)
theorem d128_27 : decode (zB 128) 27 = .ok (.goto 4, 3) := (congrArg (fun c => decode c 27) zeq128).trans (by decide +kernel)
theorem d128_30 : decode (zB 128) 30 = .ok (.iconst 0, 1) := (congrArg (fun c => decode c 30) zeq128).trans (by decide +kernel)
theorem d128_31 : decode (zB 128) 31 = .ok (.ireturn, 1) := (congrArg (fun c => decode c 31) zeq128).trans (by decide +kernel)
theorem c128t {d : Nat} {M : zM} {Q : Option Value → zM → Prop} {a i n z : Nat} (hs : SRo M a) (hz : zi M a 1 = nI z) (h40 : z ≤ 40) (h : i + n ≤ z) (k : Q (some (.int (nI 1))) M) : qC (d + 2) 128 [.ref a, .int (nI i), .int (nI n)] M Q := by
  refine qC_of (by decide) (Nat.le_of_ble_eq_true rfl) ?_
  refine q_iload_n d128_0 rfl ?_
  refine n0_lt 30 d128_1 (by decide) (by omega) (fun q => absurd q (Nat.not_lt_zero _)) (fun _ => ?_)
  refine q_iload_n d128_4 rfl ?_
  refine q_iconstN (z := 0) d128_5 ?_
  refine q_aload_n d128_6 rfl ?_
  refine q_getv (c := 4) (f := 1) d128_7 ⟨rfl, by decide⟩ hs.1 hz ?_
  refine q_s3 d128_10 (Or.inr rfl) rfl (Nat.le_of_ble_eq_true rfl) (c10t ⟨by omega, by omega⟩ (by omega) ?_)
  refine n0_eq 30 d128_13 (by decide) (by decide) (fun q => absurd q (by decide)) (fun _ => ?_)
  refine q_iload_n d128_16 rfl ?_
  refine q_aload_n d128_17 rfl ?_
  refine q_getv (c := 4) (f := 1) d128_18 ⟨rfl, by decide⟩ hs.1 hz ?_
  refine q_iload_n d128_21 rfl ?_
  refine n_isub d128_22 (by omega) ?_
  refine nc_gt 30 d128_23 (by decide) (by omega) (by omega) (fun h23 => (False.elim (by omega))) (fun h23 => ?_)
  refine q_iconstN (z := 1) d128_26 ?_
  refine q_goto 31 d128_27 (by decide) ?_
  refine q_zret d128_31 rfl (by decide) ?_
  exact k
theorem nI_two {n : Int32} {z : Nat} (h0 : ¬ n < 0) (h1 : ¬ nI z < n) (hz : z < 2147483648) : ∃ b, n = nI b ∧ b ≤ z := by
  obtain ⟨b, hb, rfl⟩ := nI_of h0
  exact ⟨b, rfl, Nat.le_of_not_lt (fun q => h1 (nI_lt q hb))⟩
theorem c128f {d : Nat} {M : zM} {Q : Option Value → zM → Prop} {a z : Nat} {i n : Int32} (hs : SRo M a) (hz : zi M a 1 = nI z) (h40 : z ≤ 40) (h : ¬ yhp i n z) (k : Q (some (.int (nI 0))) M) : qC (d + 2) 128 [.ref a, .int i, .int n] M Q := by
  refine qC_of (by decide) (Nat.le_of_ble_eq_true rfl) ?_
  rcases zix_c i (n := z + 1) (by omega) with ⟨j, hj, rfl, e⟩ | ⟨e, hn2⟩
  · skip
    refine q_iload_n d128_0 rfl ?_
    refine i0_lt 30 d128_1 (by decide) (fun h1 => ?_) (fun h1 => ?_)
    · refine q_iconstN (z := 0) d128_30 ?_
      refine q_zret d128_31 rfl (by decide) ?_
      exact k
    · refine q_iload_n d128_4 rfl ?_
      refine q_iconstN (z := 0) d128_5 ?_
      refine q_aload_n d128_6 rfl ?_
      refine q_getv (c := 4) (f := 1) d128_7 ⟨rfl, by decide⟩ hs.1 hz ?_
      refine q_s3 d128_10 (Or.inr rfl) rfl (Nat.le_of_ble_eq_true rfl) (c10t ⟨by omega, by omega⟩ (by omega) ?_)
      refine n0_eq 30 d128_13 (by decide) (by decide) (fun q => absurd q (by decide)) (fun _ => ?_)
      refine q_iload_n d128_16 rfl ?_
      refine q_aload_n d128_17 rfl ?_
      refine q_getv (c := 4) (f := 1) d128_18 ⟨rfl, by decide⟩ hs.1 hz ?_
      refine q_iload_n d128_21 rfl ?_
      refine n_isub d128_22 (by omega) ?_
      refine ic_gt 30 d128_23 (by decide) (fun h23 => ?_) (fun h23 => ?_)
      · refine q_iconstN (z := 0) d128_30 ?_
        refine q_zret d128_31 rfl (by decide) ?_
        exact k
      · refine q_iconstN (z := 1) d128_26 ?_
        refine q_goto 31 d128_27 (by decide) ?_
        refine q_zret d128_31 rfl (by decide) ?_
        exact absurd (nI_two h1 h23 (by omega)) (fun ⟨b, e1, e2⟩ => h ⟨j, b, rfl, e1, by omega⟩)
  · skip
    refine q_iload_n d128_0 rfl ?_
    refine i0_lt 30 d128_1 (by decide) (fun h1 => ?_) (fun h1 => ?_)
    · refine q_iconstN (z := 0) d128_30 ?_
      refine q_zret d128_31 rfl (by decide) ?_
      exact k
    · refine q_iload_n d128_4 rfl ?_
      refine q_iconstN (z := 0) d128_5 ?_
      refine q_aload_n d128_6 rfl ?_
      refine q_getv (c := 4) (f := 1) d128_7 ⟨rfl, by decide⟩ hs.1 hz ?_
      refine q_s3 d128_10 (Or.inr rfl) rfl (Nat.le_of_ble_eq_true rfl) (c10f (by omega) (by omega) (by decide) ?_)
      refine n0_eq 30 d128_13 (by decide) (by decide) (fun _ => ?_) (fun q => absurd q (by decide))
      refine q_iconstN (z := 0) d128_30 ?_
      refine q_zret d128_31 rfl (by decide) ?_
      exact k
theorem d119_0 : decode (zB 119) 0 = .ok (.iconst 0, 1) := (congrArg (fun c => decode c 0) zeq119).trans (by decide +kernel)
theorem d119_1 : decode (zB 119) 1 = .ok (.istore_n 1, 1) := (congrArg (fun c => decode c 1) zeq119).trans (by decide +kernel)
theorem d119_2 : decode (zB 119) 2 = .ok (.iload_n 1, 1) := (congrArg (fun c => decode c 2) zeq119).trans (by decide +kernel)
theorem d119_3 : decode (zB 119) 3 = .ok (.bipush 20, 2) := (congrArg (fun c => decode c 3) zeq119).trans (by decide +kernel)
theorem d119_5 : decode (zB 119) 5 = .ok (.if_icmp .ge 19, 3) := (congrArg (fun c => decode c 5) zeq119).trans (by decide +kernel)
theorem d119_8 : decode (zB 119) 8 = .ok (.iload_n 0, 1) := (congrArg (fun c => decode c 8) zeq119).trans (by decide +kernel)
theorem d119_9 : decode (zB 119) 9 = .ok (.iload_n 1, 1) := (congrArg (fun c => decode c 9) zeq119).trans (by decide +kernel)
theorem d119_10 : decode (zB 119) 10 = .ok (.invokestatic 303, 3) := (congrArg (fun c => decode c 10) zeq119).trans (by decide +kernel)
theorem d119_13 : decode (zB 119) 13 = .ok (.ifCond .eq 5, 3) := (congrArg (fun c => decode c 13) zeq119).trans (by decide +kernel)
theorem d119_16 : decode (zB 119) 16 = .ok (.iload_n 1, 1) := (congrArg (fun c => decode c 16) zeq119).trans (by decide +kernel)
theorem d119_17 : decode (zB 119) 17 = .ok (.ireturn, 1) := (congrArg (fun c => decode c 17) zeq119).trans (by decide +kernel)
theorem d119_18 : decode (zB 119) 18 = .ok (.iinc 1 1, 3) := (congrArg (fun c => decode c 18) zeq119).trans (by decide +kernel)
theorem d119_21 : decode (zB 119) 21 = .ok (.goto (-19), 3) := (congrArg (fun c => decode c 21) zeq119).trans (by decide +kernel)
theorem d119_24 : decode (zB 119) 24 = .ok (.iconst (-1), 1) := (congrArg (fun c => decode c 24) zeq119).trans (by decide +kernel)
theorem d119_25 : decode (zB 119) 25 = .ok (.ireturn, 1) := (congrArg (fun c => decode c 25) zeq119).trans (by decide +kernel)
theorem l119 {d : Nat} {M : zM} {Q : Option Value → zM → Prop} {m : Nat} (hm : m < 2147483648) (k : ∀ v, Q (some (.int v)) M) : ∀ (r i : Nat), i ≤ 20 → 20 < i + r → qW (zEv (d + 1)) 119 Q 2 [(1, .int (nI i)), (0, .int (nI m))] [] M := by
  intro r
  induction r with
  | zero => intros; omega
  | succ r ih =>
    intro i  h1 h2 
    refine q_iload_n d119_2 rfl ?_
    refine q_bipush (x := nI 20) d119_3 rfl ?_
    refine nc_ge 24 d119_5 (by decide) (by omega) (by omega) (fun h5 => ?_) (fun h5 => ?_)
    · refine q_iconst (x := (-1)) d119_24 rfl ?_
      refine q_iret d119_25 rfl ?_
      exact k _
    · refine q_iload_n d119_8 rfl ?_
      refine q_iload_n d119_9 rfl ?_
      refine q_s2 d119_10 (Or.inl rfl) rfl (Nat.le_of_ble_eq_true rfl) (c35 (by omega) (by omega) ?_)
      refine b0_eq 18 d119_13 (by decide) (fun h13 => ?_) (fun h13 => ?_)
      · refine n_iinc 1 d119_18 (by decide) rfl rfl ?_
        refine q_goto 2 d119_21 (by decide) ?_
        exact ih (i + 1) (by omega) (by omega)
      · refine q_iload_n d119_16 rfl ?_
        refine q_iret d119_17 rfl ?_
        exact k _
theorem c119 {d : Nat} {M : zM} {Q : Option Value → zM → Prop} {m : Nat} (hm : m < 2147483648) (k : ∀ v, Q (some (.int v)) M) : qC (d + 2) 119 [.int (nI m)] M Q := by
  refine qC_of (by decide) (Nat.le_of_ble_eq_true rfl) ?_
  refine q_iconstN (z := 0) d119_0 ?_
  refine q_istore_n d119_1 (by decide) rfl ?_
  exact l119 hm k 21 0 (by omega) (by omega)
theorem gcd_of {a b d : Nat} (hb : 0 < b) (hd : 0 < d) (h1 : a % d = 0) (h2 : b % d = 0) (h : ∀ e, d < e → e ≤ b → ¬ (a % e = 0 ∧ b % e = 0)) : Nat.gcd a b = d := by
  have g0 : 0 < Nat.gcd a b := Nat.gcd_pos_of_pos_right _ hb
  have g1 : d ∣ Nat.gcd a b := Nat.dvd_gcd (Nat.dvd_of_mod_eq_zero h1) (Nat.dvd_of_mod_eq_zero h2)
  have g2 : d ≤ Nat.gcd a b := Nat.le_of_dvd g0 g1
  have g3 : Nat.gcd a b ≤ b := Nat.le_of_dvd hb (Nat.gcd_dvd_right a b)
  rcases Nat.lt_or_ge d (Nat.gcd a b) with q | q
  · exact absurd ⟨Nat.mod_eq_zero_of_dvd (Nat.gcd_dvd_left a b), Nat.mod_eq_zero_of_dvd (Nat.gcd_dvd_right a b)⟩ (h _ q g3)
  · omega
theorem d111_0 : decode (zB 111) 0 = .ok (.iload_n 1, 1) := (congrArg (fun c => decode c 0) zeq111).trans (by decide +kernel)
theorem d111_1 : decode (zB 111) 1 = .ok (.istore_n 2, 1) := (congrArg (fun c => decode c 1) zeq111).trans (by decide +kernel)
theorem d111_2 : decode (zB 111) 2 = .ok (.iload_n 2, 1) := (congrArg (fun c => decode c 2) zeq111).trans (by decide +kernel)
theorem d111_3 : decode (zB 111) 3 = .ok (.iconst 1, 1) := (congrArg (fun c => decode c 3) zeq111).trans (by decide +kernel)
theorem d111_4 : decode (zB 111) 4 = .ok (.if_icmp .le 23, 3) := (congrArg (fun c => decode c 4) zeq111).trans (by decide +kernel)
theorem d111_7 : decode (zB 111) 7 = .ok (.iload_n 0, 1) := (congrArg (fun c => decode c 7) zeq111).trans (by decide +kernel)
theorem d111_8 : decode (zB 111) 8 = .ok (.iload_n 2, 1) := (congrArg (fun c => decode c 8) zeq111).trans (by decide +kernel)
theorem d111_9 : decode (zB 111) 9 = .ok (.irem, 1) := (congrArg (fun c => decode c 9) zeq111).trans (by decide +kernel)
theorem d111_10 : decode (zB 111) 10 = .ok (.ifCond .ne 11, 3) := (congrArg (fun c => decode c 10) zeq111).trans (by decide +kernel)
theorem d111_13 : decode (zB 111) 13 = .ok (.iload_n 1, 1) := (congrArg (fun c => decode c 13) zeq111).trans (by decide +kernel)
theorem d111_14 : decode (zB 111) 14 = .ok (.iload_n 2, 1) := (congrArg (fun c => decode c 14) zeq111).trans (by decide +kernel)
theorem d111_15 : decode (zB 111) 15 = .ok (.irem, 1) := (congrArg (fun c => decode c 15) zeq111).trans (by decide +kernel)
theorem d111_16 : decode (zB 111) 16 = .ok (.ifCond .ne 5, 3) := (congrArg (fun c => decode c 16) zeq111).trans (by decide +kernel)
theorem d111_19 : decode (zB 111) 19 = .ok (.iload_n 2, 1) := (congrArg (fun c => decode c 19) zeq111).trans (by decide +kernel)
theorem d111_20 : decode (zB 111) 20 = .ok (.ireturn, 1) := (congrArg (fun c => decode c 20) zeq111).trans (by decide +kernel)
theorem d111_21 : decode (zB 111) 21 = .ok (.iinc 2 (-1), 3) := (congrArg (fun c => decode c 21) zeq111).trans (by decide +kernel)
theorem d111_24 : decode (zB 111) 24 = .ok (.goto (-22), 3) := (congrArg (fun c => decode c 24) zeq111).trans (by decide +kernel)
theorem d111_27 : decode (zB 111) 27 = .ok (.iconst 1, 1) := (congrArg (fun c => decode c 27) zeq111).trans (by decide +kernel)
theorem d111_28 : decode (zB 111) 28 = .ok (.ireturn, 1) := (congrArg (fun c => decode c 28) zeq111).trans (by decide +kernel)
theorem l111 {d : Nat} {M : zM} {Q : Option Value → zM → Prop} {a b : Nat} (ha : a < 2147483648) (hb0 : 0 < b) (hb : b < 2147483648) (k : Q (some (.int (nI (Nat.gcd a b)))) M) : ∀ i : Nat, i ≤ b → (∀ e, i < e → e ≤ b → ¬ (a % e = 0 ∧ b % e = 0)) → qW (zEv d) 111 Q 2 [(2, .int (nI i)), (0, .int (nI a)), (1, .int (nI b))] [] M := by
  intro i
  induction i with
  | zero =>
    intro h1 h
    refine q_iload_n d111_2 rfl ?_
    refine q_iconstN (z := 1) d111_3 ?_
    refine nc_le 27 d111_4 (by decide) (by omega) (by omega) (fun h4 => ?_) (fun h4 => (False.elim (by omega)))
    refine q_iconstN (z := 1) d111_27 ?_
    refine q_iret d111_28 rfl ?_
    rw [gcd_of (d := 1) hb0 (by omega) (Nat.mod_one _) (Nat.mod_one _) (fun e h2 h3 => h e (by omega) h3)] at k; exact k
  | succ i ih =>
    intro h1 h
    have hm1 : a % (i + 1) < i + 1 := Nat.mod_lt _ (by omega)
    have hm2 : b % (i + 1) < i + 1 := Nat.mod_lt _ (by omega)
    refine q_iload_n d111_2 rfl ?_
    refine q_iconstN (z := 1) d111_3 ?_
    refine nc_le 27 d111_4 (by decide) (by omega) (by omega) (fun h4 => ?_) (fun h4 => ?_)
    · refine q_iconstN (z := 1) d111_27 ?_
      refine q_iret d111_28 rfl ?_
      rw [gcd_of (d := 1) hb0 (by omega) (Nat.mod_one _) (Nat.mod_one _) (fun e h2 h3 => h e (by omega) h3)] at k; exact k
    · refine q_iload_n d111_7 rfl ?_
      refine q_iload_n d111_8 rfl ?_
      refine n_irem d111_9 (by omega) (by omega) (by omega) ?_
      refine n0_ne 21 d111_10 (by decide) (by omega) (fun h10 => ?_) (fun h10 => ?_)
      · refine n_idec d111_21 (by decide) rfl (by omega) rfl ?_
        refine q_goto 2 d111_24 (by decide) ?_
        exact ih (by omega) (fun e h2 h3 q => by by_cases e1 : e = i + 1; (subst e1; first | exact h16 q.2 | exact h10 q.1); exact h e (by omega) h3 q)
      · refine q_iload_n d111_13 rfl ?_
        refine q_iload_n d111_14 rfl ?_
        refine n_irem d111_15 (by omega) (by omega) (by omega) ?_
        refine n0_ne 21 d111_16 (by decide) (by omega) (fun h16 => ?_) (fun h16 => ?_)
        · refine n_idec d111_21 (by decide) rfl (by omega) rfl ?_
          refine q_goto 2 d111_24 (by decide) ?_
          exact ih (by omega) (fun e h2 h3 q => by by_cases e1 : e = i + 1; (subst e1; first | exact h16 q.2 | exact h10 q.1); exact h e (by omega) h3 q)
        · refine q_iload_n d111_19 rfl ?_
          refine q_iret d111_20 rfl ?_
          rw [gcd_of (d := i + 1) hb0 (by omega) h10 h16 h] at k; exact k
theorem c111 {d : Nat} {M : zM} {Q : Option Value → zM → Prop} {a b : Nat} (ha : a < 2147483648) (hb0 : 0 < b) (hb : b < 2147483648) (k : Q (some (.int (nI (Nat.gcd a b)))) M) : qC (d + 1) 111 [.int (nI a), .int (nI b)] M Q := by
  refine qC_of (by decide) (Nat.le_of_ble_eq_true rfl) ?_
  refine q_iload_n d111_0 rfl ?_
  refine q_istore_n d111_1 (by decide) rfl ?_
  exact l111 ha hb0 hb k b (Nat.le_refl _) (fun e h1 h2 => absurd h1 (by omega))
def ybc (x : Int32) : Int32 :=
  let a := x - (ush x (nI 1) &&& 1431655765)
  let b := (a &&& 858993459) + (ush a (nI 2) &&& 858993459)
  let c := (b + ush b (nI 4)) &&& 252645135
  let e := c + ush c (nI 8)
  (e + ush e (nI 16)) &&& nI 63
theorem d105_0 : decode (zB 105) 0 = .ok (.iload_n 0, 1) := (congrArg (fun c => decode c 0) zeq105).trans (by decide +kernel)
theorem d105_1 : decode (zB 105) 1 = .ok (.iload_n 0, 1) := (congrArg (fun c => decode c 1) zeq105).trans (by decide +kernel)
theorem d105_2 : decode (zB 105) 2 = .ok (.iconst 1, 1) := (congrArg (fun c => decode c 2) zeq105).trans (by decide +kernel)
theorem d105_3 : decode (zB 105) 3 = .ok (.iushr, 1) := (congrArg (fun c => decode c 3) zeq105).trans (by decide +kernel)
theorem d105_4 : decode (zB 105) 4 = .ok (.ldc_w 265, 3) := (congrArg (fun c => decode c 4) zeq105).trans (by decide +kernel)
theorem d105_7 : decode (zB 105) 7 = .ok (.iand, 1) := (congrArg (fun c => decode c 7) zeq105).trans (by decide +kernel)
theorem d105_8 : decode (zB 105) 8 = .ok (.isub, 1) := (congrArg (fun c => decode c 8) zeq105).trans (by decide +kernel)
theorem d105_9 : decode (zB 105) 9 = .ok (.istore_n 0, 1) := (congrArg (fun c => decode c 9) zeq105).trans (by decide +kernel)
theorem d105_10 : decode (zB 105) 10 = .ok (.iload_n 0, 1) := (congrArg (fun c => decode c 10) zeq105).trans (by decide +kernel)
theorem d105_11 : decode (zB 105) 11 = .ok (.ldc_w 266, 3) := (congrArg (fun c => decode c 11) zeq105).trans (by decide +kernel)
theorem d105_14 : decode (zB 105) 14 = .ok (.iand, 1) := (congrArg (fun c => decode c 14) zeq105).trans (by decide +kernel)
theorem d105_15 : decode (zB 105) 15 = .ok (.iload_n 0, 1) := (congrArg (fun c => decode c 15) zeq105).trans (by decide +kernel)
theorem d105_16 : decode (zB 105) 16 = .ok (.iconst 2, 1) := (congrArg (fun c => decode c 16) zeq105).trans (by decide +kernel)
theorem d105_17 : decode (zB 105) 17 = .ok (.iushr, 1) := (congrArg (fun c => decode c 17) zeq105).trans (by decide +kernel)
theorem d105_18 : decode (zB 105) 18 = .ok (.ldc_w 266, 3) := (congrArg (fun c => decode c 18) zeq105).trans (by decide +kernel)
theorem d105_21 : decode (zB 105) 21 = .ok (.iand, 1) := (congrArg (fun c => decode c 21) zeq105).trans (by decide +kernel)
theorem d105_22 : decode (zB 105) 22 = .ok (.iadd, 1) := (congrArg (fun c => decode c 22) zeq105).trans (by decide +kernel)
theorem d105_23 : decode (zB 105) 23 = .ok (.istore_n 0, 1) := (congrArg (fun c => decode c 23) zeq105).trans (by decide +kernel)
theorem d105_24 : decode (zB 105) 24 = .ok (.iload_n 0, 1) := (congrArg (fun c => decode c 24) zeq105).trans (by decide +kernel)
theorem d105_25 : decode (zB 105) 25 = .ok (.iload_n 0, 1) := (congrArg (fun c => decode c 25) zeq105).trans (by decide +kernel)
theorem d105_26 : decode (zB 105) 26 = .ok (.iconst 4, 1) := (congrArg (fun c => decode c 26) zeq105).trans (by decide +kernel)
theorem d105_27 : decode (zB 105) 27 = .ok (.iushr, 1) := (congrArg (fun c => decode c 27) zeq105).trans (by decide +kernel)
theorem d105_28 : decode (zB 105) 28 = .ok (.iadd, 1) := (congrArg (fun c => decode c 28) zeq105).trans (by decide +kernel)
theorem d105_29 : decode (zB 105) 29 = .ok (.ldc_w 267, 3) := (congrArg (fun c => decode c 29) zeq105).trans (by decide +kernel)
theorem d105_32 : decode (zB 105) 32 = .ok (.iand, 1) := (congrArg (fun c => decode c 32) zeq105).trans (by decide +kernel)
theorem d105_33 : decode (zB 105) 33 = .ok (.istore_n 0, 1) := (congrArg (fun c => decode c 33) zeq105).trans (by decide +kernel)
theorem d105_34 : decode (zB 105) 34 = .ok (.iload_n 0, 1) := (congrArg (fun c => decode c 34) zeq105).trans (by decide +kernel)
theorem d105_35 : decode (zB 105) 35 = .ok (.iload_n 0, 1) := (congrArg (fun c => decode c 35) zeq105).trans (by decide +kernel)
theorem d105_36 : decode (zB 105) 36 = .ok (.bipush 8, 2) := (congrArg (fun c => decode c 36) zeq105).trans (by decide +kernel)
theorem d105_38 : decode (zB 105) 38 = .ok (.iushr, 1) := (congrArg (fun c => decode c 38) zeq105).trans (by decide +kernel)
theorem d105_39 : decode (zB 105) 39 = .ok (.iadd, 1) := (congrArg (fun c => decode c 39) zeq105).trans (by decide +kernel)
theorem d105_40 : decode (zB 105) 40 = .ok (.istore_n 0, 1) := (congrArg (fun c => decode c 40) zeq105).trans (by decide +kernel)
theorem d105_41 : decode (zB 105) 41 = .ok (.iload_n 0, 1) := (congrArg (fun c => decode c 41) zeq105).trans (by decide +kernel)
theorem d105_42 : decode (zB 105) 42 = .ok (.iload_n 0, 1) := (congrArg (fun c => decode c 42) zeq105).trans (by decide +kernel)
theorem d105_43 : decode (zB 105) 43 = .ok (.bipush 16, 2) := (congrArg (fun c => decode c 43) zeq105).trans (by decide +kernel)
theorem d105_45 : decode (zB 105) 45 = .ok (.iushr, 1) := (congrArg (fun c => decode c 45) zeq105).trans (by decide +kernel)
theorem d105_46 : decode (zB 105) 46 = .ok (.iadd, 1) := (congrArg (fun c => decode c 46) zeq105).trans (by decide +kernel)
theorem d105_47 : decode (zB 105) 47 = .ok (.istore_n 0, 1) := (congrArg (fun c => decode c 47) zeq105).trans (by decide +kernel)
theorem d105_48 : decode (zB 105) 48 = .ok (.iload_n 0, 1) := (congrArg (fun c => decode c 48) zeq105).trans (by decide +kernel)
theorem d105_49 : decode (zB 105) 49 = .ok (.bipush 63, 2) := (congrArg (fun c => decode c 49) zeq105).trans (by decide +kernel)
theorem d105_51 : decode (zB 105) 51 = .ok (.iand, 1) := (congrArg (fun c => decode c 51) zeq105).trans (by decide +kernel)
theorem d105_52 : decode (zB 105) 52 = .ok (.ireturn, 1) := (congrArg (fun c => decode c 52) zeq105).trans (by decide +kernel)
theorem c105 {d : Nat} {M : zM} {Q : Option Value → zM → Prop} {x : Int32} (k : Q (some (.int (ybc x))) M) : qC (d + 1) 105 [.int x] M Q := by
  refine qC_of (by decide) (Nat.le_of_ble_eq_true rfl) ?_
  refine q_iload_n d105_0 rfl ?_
  refine q_iload_n d105_1 rfl ?_
  refine q_iconstN (z := 1) d105_2 ?_
  refine q_iushr d105_3 ?_
  refine q_ldc_w d105_4 rfl ?_
  refine q_iand d105_7 ?_
  refine q_isub d105_8 ?_
  refine q_istore_n d105_9 (by decide) rfl ?_
  refine q_iload_n d105_10 rfl ?_
  refine q_ldc_w d105_11 rfl ?_
  refine q_iand d105_14 ?_
  refine q_iload_n d105_15 rfl ?_
  refine q_iconstN (z := 2) d105_16 ?_
  refine q_iushr d105_17 ?_
  refine q_ldc_w d105_18 rfl ?_
  refine q_iand d105_21 ?_
  refine q_iadd d105_22 ?_
  refine q_istore_n d105_23 (by decide) rfl ?_
  refine q_iload_n d105_24 rfl ?_
  refine q_iload_n d105_25 rfl ?_
  refine q_iconstN (z := 4) d105_26 ?_
  refine q_iushr d105_27 ?_
  refine q_iadd d105_28 ?_
  refine q_ldc_w d105_29 rfl ?_
  refine q_iand d105_32 ?_
  refine q_istore_n d105_33 (by decide) rfl ?_
  refine q_iload_n d105_34 rfl ?_
  refine q_iload_n d105_35 rfl ?_
  refine q_bipush (x := nI 8) d105_36 rfl ?_
  refine q_iushr d105_38 ?_
  refine q_iadd d105_39 ?_
  refine q_istore_n d105_40 (by decide) rfl ?_
  refine q_iload_n d105_41 rfl ?_
  refine q_iload_n d105_42 rfl ?_
  refine q_bipush (x := nI 16) d105_43 rfl ?_
  refine q_iushr d105_45 ?_
  refine q_iadd d105_46 ?_
  refine q_istore_n d105_47 (by decide) rfl ?_
  refine q_iload_n d105_48 rfl ?_
  refine q_bipush (x := nI 63) d105_49 rfl ?_
  refine q_iand d105_51 ?_
  refine q_iret d105_52 rfl ?_
  exact k
def ywv (m : Nat) : Bool := decide (m ≤ 7) || (decide (10 ≤ m) && decide (m % 10 < 3))
/-- what is asked of a world -/
def yvx (x : Int32) : Option Nat := match zix x 50 with
  | none => none
  | some m => if ywv m then some m else none
def yqm (m : Nat) : Bool := decide (m ≤ 1) || decide (100 ≤ m ∧ m ≤ 111) || decide (200 ≤ m)
def yqx (x : Int32) : Option Nat := match zix x 212 with
  | none => none
  | some m => if yqm m then some m else none
theorem d93_0 : decode (zB 93) 0 = .ok (.iload_n 0, 1) := (congrArg (fun c => decode c 0) zeq93).trans (by decide +kernel)
theorem d93_1 : decode (zB 93) 1 = .ok (.iconst 0, 1) := (congrArg (fun c => decode c 1) zeq93).trans (by decide +kernel)
theorem d93_2 : decode (zB 93) 2 = .ok (.bipush 7, 2) := (congrArg (fun c => decode c 2) zeq93).trans (by decide +kernel)
theorem d93_4 : decode (zB 93) 4 = .ok (.invokestatic 55, 3) := (congrArg (fun c => decode c 4) zeq93).trans (by decide +kernel)
theorem d93_7 : decode (zB 93) 7 = .ok (.ifCond .ne 22, 3) := (congrArg (fun c => decode c 7) zeq93).trans (by decide +kernel)
theorem d93_10 : decode (zB 93) 10 = .ok (.iload_n 0, 1) := (congrArg (fun c => decode c 10) zeq93).trans (by decide +kernel)
theorem d93_11 : decode (zB 93) 11 = .ok (.bipush 10, 2) := (congrArg (fun c => decode c 11) zeq93).trans (by decide +kernel)
theorem d93_13 : decode (zB 93) 13 = .ok (.bipush 49, 2) := (congrArg (fun c => decode c 13) zeq93).trans (by decide +kernel)
theorem d93_15 : decode (zB 93) 15 = .ok (.invokestatic 55, 3) := (congrArg (fun c => decode c 15) zeq93).trans (by decide +kernel)
theorem d93_18 : decode (zB 93) 18 = .ok (.ifCond .eq 15, 3) := (congrArg (fun c => decode c 18) zeq93).trans (by decide +kernel)
theorem d93_21 : decode (zB 93) 21 = .ok (.iload_n 0, 1) := (congrArg (fun c => decode c 21) zeq93).trans (by decide +kernel)
theorem d93_22 : decode (zB 93) 22 = .ok (.bipush 10, 2) := (congrArg (fun c => decode c 22) zeq93).trans (by decide +kernel)
theorem d93_24 : decode (zB 93) 24 = .ok (.irem, 1) := (congrArg (fun c => decode c 24) zeq93).trans (by decide +kernel)
theorem d93_25 : decode (zB 93) 25 = .ok (.iconst 3, 1) := (congrArg (fun c => decode c 25) zeq93).trans (by decide +kernel)
theorem d93_26 : decode (zB 93) 26 = .ok (.if_icmp .ge 7, 3) := (congrArg (fun c => decode c 26) zeq93).trans (by decide +kernel)
theorem d93_29 : decode (zB 93) 29 = .ok (.iconst 1, 1) := (congrArg (fun c => decode c 29) zeq93).trans (by decide +kernel)
theorem d93_30 : decode (zB 93) 30 = .ok (.goto 4, 3) := (congrArg (fun c => decode c 30) zeq93).trans (by decide +kernel)
theorem d93_33 : decode (zB 93) 33 = .ok (.iconst 0, 1) := (congrArg (fun c => decode c 33) zeq93).trans (by decide +kernel)
theorem d93_34 : decode (zB 93) 34 = .ok (.ireturn, 1) := (congrArg (fun c => decode c 34) zeq93).trans (by decide +kernel)
theorem c93 {d : Nat} {M : zM} {Q : Option Value → zM → Prop} {x : Int32} (k : Q (some (.int (bI (yvx x).isSome))) M) : qC (d + 2) 93 [.int x] M Q := by
  refine qC_of (by decide) (Nat.le_of_ble_eq_true rfl) ?_
  unfold yvx at k
  rcases zix_c x (n := 50) (by omega) with ⟨j, hj, rfl, e⟩ | ⟨e, hn⟩
  · rw [e] at k
    simp only [] at k
    by_cases h7 : j ≤ 7
    · skip
      refine q_iload_n d93_0 rfl ?_
      refine q_iconstN (z := 0) d93_1 ?_
      refine q_bipush (x := nI 7) d93_2 rfl ?_
      refine q_s3 d93_4 (Or.inl rfl) rfl (Nat.le_of_ble_eq_true rfl) (c10t ⟨by omega, by omega⟩ (by decide) ?_)
      refine n0_ne 29 d93_7 (by decide) (by decide) (fun _ => ?_) (fun q => absurd q (by decide))
      refine q_iconstN (z := 1) d93_29 ?_
      refine q_goto 34 d93_30 (by decide) ?_
      refine q_zret d93_34 rfl (by decide) ?_
      rw [if_pos (by simp [ywv, h7])] at k; exact k
    · by_cases h10 : 10 ≤ j
      · skip
        refine q_iload_n d93_0 rfl ?_
        refine q_iconstN (z := 0) d93_1 ?_
        refine q_bipush (x := nI 7) d93_2 rfl ?_
        refine q_s3 d93_4 (Or.inl rfl) rfl (Nat.le_of_ble_eq_true rfl) (c10n (by omega) (by decide) (by omega) (by decide) ?_)
        refine n0_ne 29 d93_7 (by decide) (by decide) (fun q => absurd q (by decide)) (fun _ => ?_)
        refine q_iload_n d93_10 rfl ?_
        refine q_bipush (x := nI 10) d93_11 rfl ?_
        refine q_bipush (x := nI 49) d93_13 rfl ?_
        refine q_s3 d93_15 (Or.inl rfl) rfl (Nat.le_of_ble_eq_true rfl) (c10t ⟨by omega, by omega⟩ (by decide) ?_)
        refine n0_eq 33 d93_18 (by decide) (by decide) (fun q => absurd q (by decide)) (fun _ => ?_)
        refine q_iload_n d93_21 rfl ?_
        refine q_bipush (x := nI 10) d93_22 rfl ?_
        refine n_irem d93_24 (by omega) (by omega) (by omega) ?_
        refine q_iconstN (z := 3) d93_25 ?_
        refine nc_ge 33 d93_26 (by decide) (by omega) (by omega) (fun h26 => ?_) (fun h26 => ?_)
        · refine q_iconstN (z := 0) d93_33 ?_
          refine q_zret d93_34 rfl (by decide) ?_
          rw [if_neg (by simp [ywv, h7, h10]; omega)] at k; exact k
        · refine q_iconstN (z := 1) d93_29 ?_
          refine q_goto 34 d93_30 (by decide) ?_
          refine q_zret d93_34 rfl (by decide) ?_
          rw [if_pos (by simp [ywv, h7, h10, h26])] at k; exact k
      · skip
        refine q_iload_n d93_0 rfl ?_
        refine q_iconstN (z := 0) d93_1 ?_
        refine q_bipush (x := nI 7) d93_2 rfl ?_
        refine q_s3 d93_4 (Or.inl rfl) rfl (Nat.le_of_ble_eq_true rfl) (c10n (by omega) (by decide) (by omega) (by decide) ?_)
        refine n0_ne 29 d93_7 (by decide) (by decide) (fun q => absurd q (by decide)) (fun _ => ?_)
        refine q_iload_n d93_10 rfl ?_
        refine q_bipush (x := nI 10) d93_11 rfl ?_
        refine q_bipush (x := nI 49) d93_13 rfl ?_
        refine q_s3 d93_15 (Or.inl rfl) rfl (Nat.le_of_ble_eq_true rfl) (c10n (by omega) (by decide) (by omega) (by decide) ?_)
        refine n0_eq 33 d93_18 (by decide) (by decide) (fun _ => ?_) (fun q => absurd q (by decide))
        refine q_iconstN (z := 0) d93_33 ?_
        refine q_zret d93_34 rfl (by decide) ?_
        rw [if_neg (by simp [ywv, h7, h10])] at k; exact k
  · rw [e] at k
    simp only [] at k
    refine q_iload_n d93_0 rfl ?_
    refine q_iconstN (z := 0) d93_1 ?_
    refine q_bipush (x := nI 7) d93_2 rfl ?_
    refine q_s3 d93_4 (Or.inl rfl) rfl (Nat.le_of_ble_eq_true rfl) (c10f (by decide) (by omega) (by decide) ?_)
    refine n0_ne 29 d93_7 (by decide) (by decide) (fun q => absurd q (by decide)) (fun _ => ?_)
    refine q_iload_n d93_10 rfl ?_
    refine q_bipush (x := nI 10) d93_11 rfl ?_
    refine q_bipush (x := nI 49) d93_13 rfl ?_
    refine q_s3 d93_15 (Or.inl rfl) rfl (Nat.le_of_ble_eq_true rfl) (c10f (by decide) (by omega) (by decide) ?_)
    refine n0_eq 33 d93_18 (by decide) (by decide) (fun _ => ?_) (fun q => absurd q (by decide))
    refine q_iconstN (z := 0) d93_33 ?_
    refine q_zret d93_34 rfl (by decide) ?_
    exact k
theorem d114_0 : decode (zB 114) 0 = .ok (.iload_n 0, 1) := (congrArg (fun c => decode c 0) zeq114).trans (by decide +kernel)
theorem d114_1 : decode (zB 114) 1 = .ok (.iconst 0, 1) := (congrArg (fun c => decode c 1) zeq114).trans (by decide +kernel)
theorem d114_2 : decode (zB 114) 2 = .ok (.iconst 1, 1) := (congrArg (fun c => decode c 2) zeq114).trans (by decide +kernel)
theorem d114_3 : decode (zB 114) 3 = .ok (.invokestatic 55, 3) := (congrArg (fun c => decode c 3) zeq114).trans (by decide +kernel)
theorem d114_6 : decode (zB 114) 6 = .ok (.ifCond .ne 27, 3) := (congrArg (fun c => decode c 6) zeq114).trans (by decide +kernel)
theorem d114_9 : decode (zB 114) 9 = .ok (.iload_n 0, 1) := (congrArg (fun c => decode c 9) zeq114).trans (by decide +kernel)
theorem d114_10 : decode (zB 114) 10 = .ok (.bipush 100, 2) := (congrArg (fun c => decode c 10) zeq114).trans (by decide +kernel)
theorem d114_12 : decode (zB 114) 12 = .ok (.bipush 111, 2) := (congrArg (fun c => decode c 12) zeq114).trans (by decide +kernel)
theorem d114_14 : decode (zB 114) 14 = .ok (.invokestatic 55, 3) := (congrArg (fun c => decode c 14) zeq114).trans (by decide +kernel)
theorem d114_17 : decode (zB 114) 17 = .ok (.ifCond .ne 16, 3) := (congrArg (fun c => decode c 17) zeq114).trans (by decide +kernel)
theorem d114_20 : decode (zB 114) 20 = .ok (.iload_n 0, 1) := (congrArg (fun c => decode c 20) zeq114).trans (by decide +kernel)
theorem d114_21 : decode (zB 114) 21 = .ok (.sipush 200, 3) := (congrArg (fun c => decode c 21) zeq114).trans (by decide +kernel)
theorem d114_24 : decode (zB 114) 24 = .ok (.sipush 211, 3) := (congrArg (fun c => decode c 24) zeq114).trans (by decide +kernel)
theorem d114_27 : decode (zB 114) 27 = .ok (.invokestatic 55, 3) := (congrArg (fun c => decode c 27) zeq114).trans (by decide +kernel)
theorem d114_30 : decode (zB 114) 30 = .ok (.ifCond .eq 7, 3) := (congrArg (fun c => decode c 30) zeq114).trans (by decide +kernel)
theorem d114_33 : decode (zB 114) 33 = .ok (.iconst 1, 1) := (congrArg (fun c => decode c 33) zeq114).trans (by decide +kernel)
theorem d114_34 : decode (zB 114) 34 = .ok (.goto 4, 3) := (congrArg (fun c => decode c 34) zeq114).trans (by decide +kernel)
theorem d114_37 : decode (zB 114) 37 = .ok (.iconst 0, 1) := (congrArg (fun c => decode c 37) zeq114).trans (by decide +kernel)
theorem d114_38 : decode (zB 114) 38 = .ok (.ireturn, 1) := (congrArg (fun c => decode c 38) zeq114).trans (by decide +kernel)
theorem c114 {d : Nat} {M : zM} {Q : Option Value → zM → Prop} {x : Int32} (k : Q (some (.int (bI (yqx x).isSome))) M) : qC (d + 2) 114 [.int x] M Q := by
  refine qC_of (by decide) (Nat.le_of_ble_eq_true rfl) ?_
  unfold yqx at k
  rcases zix_c x (n := 212) (by omega) with ⟨j, hj, rfl, e⟩ | ⟨e, hn⟩
  · rw [e] at k
    simp only [] at k
    by_cases h7 : j ≤ 1
    · skip
      refine q_iload_n d114_0 rfl ?_
      refine q_iconstN (z := 0) d114_1 ?_
      refine q_iconstN (z := 1) d114_2 ?_
      refine q_s3 d114_3 (Or.inl rfl) rfl (Nat.le_of_ble_eq_true rfl) (c10t ⟨by omega, by omega⟩ (by decide) ?_)
      refine n0_ne 33 d114_6 (by decide) (by decide) (fun _ => ?_) (fun q => absurd q (by decide))
      refine q_iconstN (z := 1) d114_33 ?_
      refine q_goto 38 d114_34 (by decide) ?_
      refine q_zret d114_38 rfl (by decide) ?_
      rw [if_pos (by simp [yqm, h7])] at k; exact k
    · by_cases h10 : 100 ≤ j ∧ j ≤ 111
      · skip
        refine q_iload_n d114_0 rfl ?_
        refine q_iconstN (z := 0) d114_1 ?_
        refine q_iconstN (z := 1) d114_2 ?_
        refine q_s3 d114_3 (Or.inl rfl) rfl (Nat.le_of_ble_eq_true rfl) (c10n (by omega) (by decide) (by omega) (by decide) ?_)
        refine n0_ne 33 d114_6 (by decide) (by decide) (fun q => absurd q (by decide)) (fun _ => ?_)
        refine q_iload_n d114_9 rfl ?_
        refine q_bipush (x := nI 100) d114_10 rfl ?_
        refine q_bipush (x := nI 111) d114_12 rfl ?_
        refine q_s3 d114_14 (Or.inl rfl) rfl (Nat.le_of_ble_eq_true rfl) (c10t ⟨by omega, by omega⟩ (by decide) ?_)
        refine n0_ne 33 d114_17 (by decide) (by decide) (fun _ => ?_) (fun q => absurd q (by decide))
        refine q_iconstN (z := 1) d114_33 ?_
        refine q_goto 38 d114_34 (by decide) ?_
        refine q_zret d114_38 rfl (by decide) ?_
        rw [if_pos (by simp [yqm, h7, h10])] at k; exact k
      · by_cases h20 : 200 ≤ j
        · skip
          refine q_iload_n d114_0 rfl ?_
          refine q_iconstN (z := 0) d114_1 ?_
          refine q_iconstN (z := 1) d114_2 ?_
          refine q_s3 d114_3 (Or.inl rfl) rfl (Nat.le_of_ble_eq_true rfl) (c10n (by omega) (by decide) (by omega) (by decide) ?_)
          refine n0_ne 33 d114_6 (by decide) (by decide) (fun q => absurd q (by decide)) (fun _ => ?_)
          refine q_iload_n d114_9 rfl ?_
          refine q_bipush (x := nI 100) d114_10 rfl ?_
          refine q_bipush (x := nI 111) d114_12 rfl ?_
          refine q_s3 d114_14 (Or.inl rfl) rfl (Nat.le_of_ble_eq_true rfl) (c10n (by omega) (by decide) (by omega) (by decide) ?_)
          refine n0_ne 33 d114_17 (by decide) (by decide) (fun q => absurd q (by decide)) (fun _ => ?_)
          refine q_iload_n d114_20 rfl ?_
          refine q_sipush (x := nI 200) d114_21 rfl ?_
          refine q_sipush (x := nI 211) d114_24 rfl ?_
          refine q_s3 d114_27 (Or.inl rfl) rfl (Nat.le_of_ble_eq_true rfl) (c10t ⟨by omega, by omega⟩ (by decide) ?_)
          refine n0_eq 37 d114_30 (by decide) (by decide) (fun q => absurd q (by decide)) (fun _ => ?_)
          refine q_iconstN (z := 1) d114_33 ?_
          refine q_goto 38 d114_34 (by decide) ?_
          refine q_zret d114_38 rfl (by decide) ?_
          rw [if_pos (by simp [yqm, h7, h20])] at k; exact k
        · skip
          refine q_iload_n d114_0 rfl ?_
          refine q_iconstN (z := 0) d114_1 ?_
          refine q_iconstN (z := 1) d114_2 ?_
          refine q_s3 d114_3 (Or.inl rfl) rfl (Nat.le_of_ble_eq_true rfl) (c10n (by omega) (by decide) (by omega) (by decide) ?_)
          refine n0_ne 33 d114_6 (by decide) (by decide) (fun q => absurd q (by decide)) (fun _ => ?_)
          refine q_iload_n d114_9 rfl ?_
          refine q_bipush (x := nI 100) d114_10 rfl ?_
          refine q_bipush (x := nI 111) d114_12 rfl ?_
          refine q_s3 d114_14 (Or.inl rfl) rfl (Nat.le_of_ble_eq_true rfl) (c10n (by omega) (by decide) (by omega) (by decide) ?_)
          refine n0_ne 33 d114_17 (by decide) (by decide) (fun q => absurd q (by decide)) (fun _ => ?_)
          refine q_iload_n d114_20 rfl ?_
          refine q_sipush (x := nI 200) d114_21 rfl ?_
          refine q_sipush (x := nI 211) d114_24 rfl ?_
          refine q_s3 d114_27 (Or.inl rfl) rfl (Nat.le_of_ble_eq_true rfl) (c10n (by omega) (by decide) (by omega) (by decide) ?_)
          refine n0_eq 37 d114_30 (by decide) (by decide) (fun _ => ?_) (fun q => absurd q (by decide))
          refine q_iconstN (z := 0) d114_37 ?_
          refine q_zret d114_38 rfl (by decide) ?_
          rw [if_neg (by simp [yqm, h7, h20]; omega)] at k; exact k
  · rw [e] at k
    simp only [] at k
    refine q_iload_n d114_0 rfl ?_
    refine q_iconstN (z := 0) d114_1 ?_
    refine q_iconstN (z := 1) d114_2 ?_
    refine q_s3 d114_3 (Or.inl rfl) rfl (Nat.le_of_ble_eq_true rfl) (c10f (by decide) (by omega) (by decide) ?_)
    refine n0_ne 33 d114_6 (by decide) (by decide) (fun q => absurd q (by decide)) (fun _ => ?_)
    refine q_iload_n d114_9 rfl ?_
    refine q_bipush (x := nI 100) d114_10 rfl ?_
    refine q_bipush (x := nI 111) d114_12 rfl ?_
    refine q_s3 d114_14 (Or.inl rfl) rfl (Nat.le_of_ble_eq_true rfl) (c10f (by decide) (by omega) (by decide) ?_)
    refine n0_ne 33 d114_17 (by decide) (by decide) (fun q => absurd q (by decide)) (fun _ => ?_)
    refine q_iload_n d114_20 rfl ?_
    refine q_sipush (x := nI 200) d114_21 rfl ?_
    refine q_sipush (x := nI 211) d114_24 rfl ?_
    refine q_s3 d114_27 (Or.inl rfl) rfl (Nat.le_of_ble_eq_true rfl) (c10f (by decide) (by omega) (by decide) ?_)
    refine n0_eq 37 d114_30 (by decide) (by decide) (fun _ => ?_) (fun q => absurd q (by decide))
    refine q_iconstN (z := 0) d114_37 ?_
    refine q_zret d114_38 rfl (by decide) ?_
    exact k
/-! ===== contracts: the widest ===== -/
theorem qC_up {d d' y : Nat} {as : List Value} {M : zM} {Q : Option Value → zM → Prop} (h : qC d y as M Q) (hd : d ≤ d') : qC d' y as M Q := by
  obtain ⟨v, M', h1, h2⟩ := h
  exact ⟨v, M', zEv_up h1 hd, h2⟩
/-- the widest of the free steps from s on, r steps -/
def ywf (T : yT) : Nat → Nat → Nat → Nat
  | 0, _, _ => 0
  | r + 1, s, f => if f.testBit s then max (ywf T r (s + 1) f) (1 + ywf T r (s + 1) (f &&& ybd T s)) else ywf T r (s + 1) f
theorem ywf_le (T : yT) : ∀ r s f, ywf T r s f ≤ r
  | 0, _, _ => Nat.le_refl _
  | r + 1, s, f => by
    have h1 := ywf_le T r (s + 1) f
    have h2 := ywf_le T r (s + 1) (f &&& ybd T s)
    rw [ywf]
    split
    · exact Nat.max_le.mpr ⟨by omega, by omega⟩
    · omega
theorem ybd_lt (T : yT) (i : Nat) (h : tn T ≤ 12) : ybd T i < 4096 := ymk_lt12 _ h
theorem and_lt {a b : Nat} (h : a < 4096) : a &&& b < 4096 := Nat.lt_of_le_of_lt Nat.and_le_left h
theorem d38_0 : decode (zB 38) 0 = .ok (.iload_n 1, 1) := (congrArg (fun c => decode c 0) zeq38).trans (by decide +kernel)
theorem d38_1 : decode (zB 38) 1 = .ok (.aload_n 0, 1) := (congrArg (fun c => decode c 1) zeq38).trans (by decide +kernel)
theorem d38_2 : decode (zB 38) 2 = .ok (.getfield 34, 3) := (congrArg (fun c => decode c 2) zeq38).trans (by decide +kernel)
theorem d38_5 : decode (zB 38) 5 = .ok (.if_icmp .lt 5, 3) := (congrArg (fun c => decode c 5) zeq38).trans (by decide +kernel)
theorem d38_8 : decode (zB 38) 8 = .ok (.iconst 0, 1) := (congrArg (fun c => decode c 8) zeq38).trans (by decide +kernel)
theorem d38_9 : decode (zB 38) 9 = .ok (.ireturn, 1) := (congrArg (fun c => decode c 9) zeq38).trans (by decide +kernel)
theorem d38_10 : decode (zB 38) 10 = .ok (.aload_n 0, 1) := (congrArg (fun c => decode c 10) zeq38).trans (by decide +kernel)
theorem d38_11 : decode (zB 38) 11 = .ok (.iload_n 1, 1) := (congrArg (fun c => decode c 11) zeq38).trans (by decide +kernel)
theorem d38_12 : decode (zB 38) 12 = .ok (.iconst 1, 1) := (congrArg (fun c => decode c 12) zeq38).trans (by decide +kernel)
theorem d38_13 : decode (zB 38) 13 = .ok (.iadd, 1) := (congrArg (fun c => decode c 13) zeq38).trans (by decide +kernel)
theorem d38_14 : decode (zB 38) 14 = .ok (.iload_n 2, 1) := (congrArg (fun c => decode c 14) zeq38).trans (by decide +kernel)
theorem d38_15 : decode (zB 38) 15 = .ok (.invokestatic 51, 3) := (congrArg (fun c => decode c 15) zeq38).trans (by decide +kernel)
theorem d38_18 : decode (zB 38) 18 = .ok (.istore_n 3, 1) := (congrArg (fun c => decode c 18) zeq38).trans (by decide +kernel)
theorem d38_19 : decode (zB 38) 19 = .ok (.iload_n 2, 1) := (congrArg (fun c => decode c 19) zeq38).trans (by decide +kernel)
theorem d38_20 : decode (zB 38) 20 = .ok (.iload_n 1, 1) := (congrArg (fun c => decode c 20) zeq38).trans (by decide +kernel)
theorem d38_21 : decode (zB 38) 21 = .ok (.invokestatic 37, 3) := (congrArg (fun c => decode c 21) zeq38).trans (by decide +kernel)
theorem d38_24 : decode (zB 38) 24 = .ok (.ifCond .ne 5, 3) := (congrArg (fun c => decode c 24) zeq38).trans (by decide +kernel)
theorem d38_27 : decode (zB 38) 27 = .ok (.iload_n 3, 1) := (congrArg (fun c => decode c 27) zeq38).trans (by decide +kernel)
theorem d38_28 : decode (zB 38) 28 = .ok (.ireturn, 1) := (congrArg (fun c => decode c 28) zeq38).trans (by decide +kernel)
theorem d38_29 : decode (zB 38) 29 = .ok (.iload_n 3, 1) := (congrArg (fun c => decode c 29) zeq38).trans (by decide +kernel)
theorem d38_30 : decode (zB 38) 30 = .ok (.iconst 1, 1) := (congrArg (fun c => decode c 30) zeq38).trans (by decide +kernel)
theorem d38_31 : decode (zB 38) 31 = .ok (.aload_n 0, 1) := (congrArg (fun c => decode c 31) zeq38).trans (by decide +kernel)
theorem d38_32 : decode (zB 38) 32 = .ok (.iload_n 1, 1) := (congrArg (fun c => decode c 32) zeq38).trans (by decide +kernel)
theorem d38_33 : decode (zB 38) 33 = .ok (.iconst 1, 1) := (congrArg (fun c => decode c 33) zeq38).trans (by decide +kernel)
theorem d38_34 : decode (zB 38) 34 = .ok (.iadd, 1) := (congrArg (fun c => decode c 34) zeq38).trans (by decide +kernel)
theorem d38_35 : decode (zB 38) 35 = .ok (.iload_n 2, 1) := (congrArg (fun c => decode c 35) zeq38).trans (by decide +kernel)
theorem d38_36 : decode (zB 38) 36 = .ok (.aload_n 0, 1) := (congrArg (fun c => decode c 36) zeq38).trans (by decide +kernel)
theorem d38_37 : decode (zB 38) 37 = .ok (.iload_n 1, 1) := (congrArg (fun c => decode c 37) zeq38).trans (by decide +kernel)
theorem d38_38 : decode (zB 38) 38 = .ok (.invokevirtual 55, 3) := (congrArg (fun c => decode c 38) zeq38).trans (by decide +kernel)
theorem d38_41 : decode (zB 38) 41 = .ok (.iand, 1) := (congrArg (fun c => decode c 41) zeq38).trans (by decide +kernel)
theorem d38_42 : decode (zB 38) 42 = .ok (.invokestatic 51, 3) := (congrArg (fun c => decode c 42) zeq38).trans (by decide +kernel)
theorem d38_45 : decode (zB 38) 45 = .ok (.iadd, 1) := (congrArg (fun c => decode c 45) zeq38).trans (by decide +kernel)
theorem d38_46 : decode (zB 38) 46 = .ok (.invokestatic 45, 3) := (congrArg (fun c => decode c 46) zeq38).trans (by decide +kernel)
theorem d38_49 : decode (zB 38) 49 = .ok (.ireturn, 1) := (congrArg (fun c => decode c 49) zeq38).trans (by decide +kernel)
theorem c38 {d : Nat} {M : zM} {a : Nat} {T : yT} (hp : SPr M a) (hr : RP M a T) (ho : OKT T) : ∀ (r s f : Nat) {Q : Option Value → zM → Prop}, s + r = tn T → f < 4096 → Q (some (.int (nI (ywf T r s f)))) M → qC (d + r + 3) 38 [.ref a, .int (nI s), .int (nI f)] M Q := by
  have hn := ho.n
  intro r
  induction r with
  | zero =>
    intro s f Q hs hf k
    refine qC_of (by decide) (Nat.le_of_ble_eq_true rfl) ?_
    refine q_iload_n d38_0 rfl ?_
    refine q_aload_n d38_1 rfl ?_
    refine q_getv (c := 1) (f := 6) d38_2 ⟨rfl, by decide⟩ hp.1 hr.1 ?_
    refine nc_lt 10 d38_5 (by decide) (by omega) (by omega) (fun h5 => (False.elim (by omega))) (fun h5 => ?_)
    refine q_iconstN (z := 0) d38_8 ?_
    refine q_iret d38_9 rfl ?_
    exact k
  | succ r ih =>
    intro s f Q hs hf k
    refine qC_of (d := d + r + 3) (by decide) (Nat.le_of_ble_eq_true rfl) ?_
    refine q_iload_n d38_0 rfl ?_
    refine q_aload_n d38_1 rfl ?_
    refine q_getv (c := 1) (f := 6) d38_2 ⟨rfl, by decide⟩ hp.1 hr.1 ?_
    refine nc_lt 10 d38_5 (by decide) (by omega) (by omega) (fun h5 => ?_) (fun h5 => (False.elim (by omega)))
    refine q_aload_n d38_10 rfl ?_
    refine q_iload_n d38_11 rfl ?_
    refine q_iconstN (z := 1) d38_12 ?_
    refine n_iadd d38_13 ?_
    refine q_iload_n d38_14 rfl ?_
    refine q_s3 d38_15 (Or.inl rfl) rfl (Nat.le_of_ble_eq_true rfl) (ih (s + 1) _ (by omega) hf ?_)
    have b1 := ywf_le T r (s + 1) f
    refine q_istore_n d38_18 (by decide) rfl ?_
    refine q_iload_n d38_19 rfl ?_
    refine q_iload_n d38_20 rfl ?_
    refine q_s2 d38_21 (Or.inr rfl) rfl (Nat.le_of_ble_eq_true rfl) (c35 (by omega) (by omega) ?_)
    refine b0_ne 29 d38_24 (by decide) (fun h24 => ?_) (fun h24 => ?_)
    · have b2 := ywf_le T r (s + 1) (f &&& ybd T s)
      refine q_iload_n d38_29 rfl ?_
      refine q_iconstN (z := 1) d38_30 ?_
      refine q_aload_n d38_31 rfl ?_
      refine q_iload_n d38_32 rfl ?_
      refine q_iconstN (z := 1) d38_33 ?_
      refine n_iadd d38_34 ?_
      refine q_iload_n d38_35 rfl ?_
      refine q_aload_n d38_36 rfl ?_
      refine q_iload_n d38_37 rfl ?_
      refine q_v1 d38_38 rfl rfl hp.1 (Nat.le_of_ble_eq_true rfl) (c39 hp hr ho (by omega) ?_)
      refine n_iand d38_41 ?_
      refine q_s3 d38_42 (Or.inl rfl) rfl (Nat.le_of_ble_eq_true rfl) (ih (s + 1) _ (by omega) (and_lt hf) ?_)
      refine n_iadd d38_45 ?_
      refine q_max d38_46 rfl (Nat.le_of_ble_eq_true rfl) ?_
      rw [n_maxN (by omega) (by omega)]
      refine q_iret d38_49 rfl ?_
      rw [ywf, if_pos h24] at k; exact k
    · refine q_iload_n d38_27 rfl ?_
      refine q_iret d38_28 rfl ?_
      rw [ywf, h24, if_neg (by decide)] at k; exact k
theorem d36_0 : decode (zB 36) 0 = .ok (.aload_n 0, 1) := (congrArg (fun c => decode c 0) zeq36).trans (by decide +kernel)
theorem d36_1 : decode (zB 36) 1 = .ok (.iconst 0, 1) := (congrArg (fun c => decode c 1) zeq36).trans (by decide +kernel)
theorem d36_2 : decode (zB 36) 2 = .ok (.aload_n 0, 1) := (congrArg (fun c => decode c 2) zeq36).trans (by decide +kernel)
theorem d36_3 : decode (zB 36) 3 = .ok (.invokevirtual 41, 3) := (congrArg (fun c => decode c 3) zeq36).trans (by decide +kernel)
theorem d36_6 : decode (zB 36) 6 = .ok (.invokestatic 51, 3) := (congrArg (fun c => decode c 6) zeq36).trans (by decide +kernel)
theorem d36_9 : decode (zB 36) 9 = .ok (.ireturn, 1) := (congrArg (fun c => decode c 9) zeq36).trans (by decide +kernel)
theorem c36 {d : Nat} {M : zM} {Q : Option Value → zM → Prop} {a : Nat} {T : yT} (hp : SPr M a) (hr : RP M a T) (ho : OKT T) (k : Q (some (.int (nI (ywf T (tn T) 0 (2 ^ tn T - 1))))) M) : qC (d + 16) 36 [.ref a] M Q := by
  have hn := ho.n
  have hz : 2 ^ tn T ≤ 4096 := pow_12 hn
  have h0 : 0 < 2 ^ tn T := Nat.two_pow_pos _
  refine qC_of (d := d + 15) (by decide) (Nat.le_of_ble_eq_true rfl) ?_
  refine q_aload_n d36_0 rfl ?_
  refine q_iconstN (z := 0) d36_1 ?_
  refine q_aload_n d36_2 rfl ?_
  refine q_v0 d36_3 rfl rfl hp.1 (Nat.le_of_ble_eq_true rfl) (c37 hp hr hn ?_)
  refine q_s3 d36_6 (Or.inl rfl) rfl (Nat.le_of_ble_eq_true rfl) (qC_up (c38 (d := d) hp hr ho (tn T) 0 _ (by omega) (by omega) ?_) (by omega))
  refine q_iret d36_9 rfl ?_
  exact k
/-! ===== the order of the locals' list does not matter ===== -/
def zks (l : List (Nat × Value)) : List Nat := l.map (fun q => q.1)
theorem zld_cons (q : Nat × Value) (l : List (Nat × Value)) (j : Nat) : zld (q :: l) j = if q.1 = j then some q.2 else zld l j := by
  unfold zld
  rw [List.find?_cons]
  by_cases h : q.1 = j
  · rw [if_pos h, show (q.1 == j) = true from beq_iff_eq.mpr h]; rfl
  · rw [if_neg h, show (q.1 == j) = false from beq_eq_false_iff_ne.mpr h]
theorem zld_not {l : List (Nat × Value)} {j : Nat} (h : j ∉ zks l) : zld l j = none := by
  induction l with
  | nil => rfl
  | cons q l ih =>
    have h1 : j ≠ q.1 ∧ j ∉ zks l := by
      have : j ∉ q.1 :: zks l := h
      rw [List.mem_cons] at this
      exact ⟨fun e => this (Or.inl e), fun e => this (Or.inr e)⟩
    rw [zld_cons, if_neg (fun e => h1.1 e.symm)]; exact ih h1.2
def zkeep (i : Nat) (q : Nat × Value) : Bool := !(q.1 == i) && !(q.1 + 1 == i && q.2.category == 2)
theorem zld_flt {l : List (Nat × Value)} (hn : (zks l).Nodup) (i j : Nat) : zld (l.filter (zkeep i)) j = match zld l j with
    | none => none
    | some w => if zkeep i (j, w) then some w else none := by
  induction l with
  | nil => rfl
  | cons q l ih =>
    obtain ⟨h1, h2⟩ := List.nodup_cons.mp (show (q.1 :: zks l).Nodup from hn)
    rw [List.filter_cons, zld_cons q l]
    by_cases e : q.1 = j
    · subst e
      rw [if_pos rfl]
      have h3 : zld l q.1 = none := zld_not h1
      by_cases hk : zkeep i q = true
      · rw [if_pos hk, zld_cons, if_pos rfl]
        show some q.2 = if zkeep i (q.1, q.2) then some q.2 else none
        rw [show zkeep i (q.1, q.2) = true from hk]; rfl
      · rw [if_neg hk, ih h2, h3]
        show none = if zkeep i (q.1, q.2) then some q.2 else none
        rw [show zkeep i (q.1, q.2) = false from by simpa using hk]; rfl
    · rw [if_neg e]
      by_cases hk : zkeep i q = true
      · rw [if_pos hk, zld_cons, if_neg e]; exact ih h2
      · rw [if_neg hk]; exact ih h2
theorem zks_flt {l : List (Nat × Value)} (hn : (zks l).Nodup) (p : Nat × Value → Bool) : (zks (l.filter p)).Nodup ∧ ∀ j, j ∈ zks (l.filter p) → j ∈ zks l := by
  induction l with
  | nil => exact ⟨List.nodup_nil, fun _ h => h⟩
  | cons q l ih =>
    obtain ⟨h1, h2⟩ := List.nodup_cons.mp (show (q.1 :: zks l).Nodup from hn)
    obtain ⟨a, b⟩ := ih h2
    rw [List.filter_cons]
    split
    · exact ⟨List.nodup_cons.mpr ⟨fun h => h1 (b _ h), a⟩, fun j h => by
        rcases List.mem_cons.mp (show j ∈ q.1 :: zks (l.filter p) from h) with e | e
        · exact List.mem_cons.mpr (Or.inl e)
        · exact List.mem_cons.mpr (Or.inr (b _ e))⟩
    · exact ⟨a, fun j h => List.mem_cons.mpr (Or.inr (b _ h))⟩
theorem zst_eq (l : List (Nat × Value)) (i : Nat) (v : Value) : zst l i v = (i, v) :: l.filter (zkeep i) := rfl
/-- two lists of locals that say the same -/
def zSm (l l' : List (Nat × Value)) : Prop := (zks l).Nodup ∧ (zks l').Nodup ∧ ∀ j, zld l j = zld l' j
theorem zSm_st {l l' : List (Nat × Value)} (h : zSm l l') (i : Nat) (v : Value) : zSm (zst l i v) (zst l' i v) := by
  have nd : ∀ l : List (Nat × Value), (zks l).Nodup → (zks (zst l i v)).Nodup := fun l hl => by
    rw [zst_eq]
    refine List.nodup_cons.mpr ⟨fun hm => ?_, (zks_flt hl _).1⟩
    obtain ⟨q, hq, e⟩ := List.mem_map.mp hm
    have := (List.mem_filter.mp hq).2
    unfold zkeep at this
    rw [show (q.1 == i) = true from beq_iff_eq.mpr e] at this
    exact absurd this (by simp)
  refine ⟨nd l h.1, nd l' h.2.1, fun j => ?_⟩
  rw [zst_eq, zst_eq, zld_cons, zld_cons, zld_flt h.1, zld_flt h.2.1, h.2.2 j]
theorem zLoop_sm {R : zRT} {m : Nat} {v : Option Value} {M' : zM} : ∀ (f pc : Nat) (l l' : List (Nat × Value)) (st : List Value) (M : zM), zSm l l' → zLoop R m v M' f pc l st M → zLoop R m v M' f pc l' st M := by
  intro f
  induction f with
  | zero => intro _ _ _ _ _ _ h; exact h.elim
  | succ f ih =>
    intro pc l l' st M hs h
    obtain ⟨i, n, hd, h⟩ := h
    refine ⟨i, n, hd, ?_⟩
    have ih' : ∀ pc st M, zLoop R m v M' f pc l st M → zLoop R m v M' f pc l' st M := fun pc st M h => ih pc l l' st M hs h
    have hI : ∀ j d, zldI (zLoop R m v M' f) pc l st M j d → zldI (zLoop R m v M' f) pc l' st M j d := fun j d ⟨x, h1, h2⟩ => ⟨x, (hs.2.2 j).symm.trans h1, ih' _ _ _ h2⟩
    have hA : ∀ j d, zldA (zLoop R m v M' f) pc l st M j d → zldA (zLoop R m v M' f) pc l' st M j d := fun j d ⟨x, h1, h2⟩ => ⟨x, (hs.2.2 j).symm.trans h1, ih' _ _ _ h2⟩
    have hSI : ∀ j d, zstI m (zLoop R m v M' f) pc l st M j d → zstI m (zLoop R m v M' f) pc l' st M j d := fun j d ⟨h0, x, s, h1, h2⟩ => ⟨h0, x, s, h1, ih _ _ _ _ _ (zSm_st hs _ _) h2⟩
    have hSA : ∀ j d, zstA m (zLoop R m v M' f) pc l st M j d → zstA m (zLoop R m v M' f) pc l' st M j d := fun j d ⟨h0, x, s, h1, h2⟩ => ⟨h0, x, s, h1, ih _ _ _ _ _ (zSm_st hs _ _) h2⟩
    have hcs : ∀ y as rest pc, zCallS R (zLoop R m v M' f) pc l M y as rest → zCallS R (zLoop R m v M' f) pc l' M y as rest := by
      intro y as rest pc ⟨h8, w, M1, h1, h2⟩
      exact ⟨h8, w, M1, h1, ih' _ _ _ h2⟩
    have hbr : ∀ (p A B A' B' : Prop), (A → A') → (B → B') → zbr p A B → zbr p A' B' := fun p A B A' B' hA hB h => ⟨fun q => hA (h.1 q), fun q => hB (h.2 q)⟩
    cases i with
    | iload_n j => exact ⟨h.1, hI _ _ h.2⟩
    | iload j => exact ⟨h.1, hI _ _ h.2⟩
    | aload_n j => exact ⟨h.1, hA _ _ h.2⟩
    | aload j => exact ⟨h.1, hA _ _ h.2⟩
    | istore_n j => exact ⟨h.1, hSI _ _ h.2⟩
    | istore j => exact ⟨h.1, hSI _ _ h.2⟩
    | astore_n j => exact ⟨h.1, hSA _ _ h.2⟩
    | astore j => exact ⟨h.1, hSA _ _ h.2⟩
    | iinc j z => obtain ⟨e1, e2, x, h1, h2⟩ := h; exact ⟨e1, e2, x, (hs.2.2 j).symm.trans h1, ih _ _ _ _ _ (zSm_st hs _ _) h2⟩
    | ldc ix =>
      obtain ⟨e, h⟩ := h
      rcases h with ⟨x, h1, h⟩ | ⟨x, h1, h⟩
      · exact ⟨e, Or.inl ⟨x, h1, ih' _ _ _ h⟩⟩
      · exact ⟨e, Or.inr ⟨x, h1, ih' _ _ _ h⟩⟩
    | ifCond c off => obtain ⟨e, x, st', tgt, e1, e2, h⟩ := h; exact ⟨e, x, st', tgt, e1, e2, hbr _ _ _ _ _ (ih' _ _ _) (ih' _ _ _) h⟩
    | if_icmp c off => obtain ⟨e, x, y, st', tgt, e1, e2, h⟩ := h; exact ⟨e, x, y, st', tgt, e1, e2, hbr _ _ _ _ _ (ih' _ _ _) (ih' _ _ _) h⟩
    | ifnull off => obtain ⟨e, r, st', tgt, e1, e2, h⟩ := h; exact ⟨e, r, st', tgt, e1, e2, hbr _ _ _ _ _ (ih' _ _ _) (ih' _ _ _) h⟩
    | ifnonnull off => obtain ⟨e, r, st', tgt, e1, e2, h⟩ := h; exact ⟨e, r, st', tgt, e1, e2, hbr _ _ _ _ _ (ih' _ _ _) (ih' _ _ _) h⟩
    | tableswitch d lo hi offs =>
      obtain ⟨x, st', e, h⟩ := h
      exact ⟨x, st', e, hbr _ _ _ _ _ (fun ⟨t, e, h⟩ => ⟨t, e, ih' _ _ _ h⟩) (fun ⟨o, t, e1, e2, h⟩ => ⟨o, t, e1, e2, ih' _ _ _ h⟩) h⟩
    | putfield ix =>
      obtain ⟨e, w, a, st', c, f', e1, e2, e3, e4, h⟩ := h
      refine ⟨e, w, a, st', c, f', e1, e2, e3, e4, ?_⟩
      rcases h with ⟨e5, x, e6, h⟩ | ⟨e5, x, e6, e7, h⟩ | ⟨e5, x, e6, h⟩
      · exact Or.inl ⟨e5, x, e6, ih' _ _ _ h⟩
      · exact Or.inr (Or.inl ⟨e5, x, e6, e7, ih' _ _ _ h⟩)
      · exact Or.inr (Or.inr ⟨e5, x, e6, ih' _ _ _ h⟩)
    | newarray t =>
      obtain ⟨e, z, st', N, e1, e2, e3, e4, h⟩ := h
      refine ⟨e, z, st', N, e1, e2, e3, e4, ?_⟩
      rcases h with ⟨e5, h⟩ | ⟨e5, h⟩
      · exact Or.inl ⟨e5, ih' _ _ _ h⟩
      · exact Or.inr ⟨e5, ih' _ _ _ h⟩
    | multianewarray ix d =>
      obtain ⟨e, z, j, st', N, J, e1, e2, e3, e4, e5, e6, h⟩ := h
      refine ⟨e, z, j, st', N, J, e1, e2, e3, e4, e5, e6, ?_⟩
      rcases h with ⟨g1, g2, g3, h⟩ | ⟨g1, g2, y, K, g3, g4, g5, g6, h⟩
      · exact Or.inl ⟨g1, g2, g3, ih' _ _ _ h⟩
      · exact Or.inr ⟨g1, g2, y, K, g3, g4, g5, g6, ih' _ _ _ h⟩
    | invokevirtual ix =>
      obtain ⟨e, kd, y, b, as, rest, e1, e2, h⟩ := h
      refine ⟨e, kd, y, b, as, rest, e1, e2, ?_⟩
      rcases h with ⟨g1, g2, g3, h⟩ | ⟨g1, h⟩
      · exact Or.inl ⟨g1, g2, g3, hcs _ _ _ _ h⟩
      · exact Or.inr ⟨g1, hcs _ _ _ _ h⟩
    | invokestatic ix =>
      obtain ⟨e, kd, y, e1, h⟩ := h
      refine ⟨e, kd, y, e1, ?_⟩
      rcases h with ⟨g1, as, rest, g2, g3, h⟩ | ⟨g1, N, dp, sp, a, a0, rest, n0, n1, g2, g3, g4, g5, g6, g7, g8, g9, ga, h⟩ | ⟨g1, a, b, rest, g2, g3, h⟩ | ⟨g1, a, b, rest, g2, g3, h⟩
      · exact Or.inl ⟨g1, as, rest, g2, g3, hcs _ _ _ _ h⟩
      · exact Or.inr (Or.inl ⟨g1, N, dp, sp, a, a0, rest, n0, n1, g2, g3, g4, g5, g6, g7, g8, g9, ga, ih' _ _ _ h⟩)
      · exact Or.inr (Or.inr (Or.inl ⟨g1, a, b, rest, g2, g3, ih' _ _ _ h⟩))
      · exact Or.inr (Or.inr (Or.inr ⟨g1, a, b, rest, g2, g3, ih' _ _ _ h⟩))
    | invokespecial ix =>
      obtain ⟨e, kd, y, b, as, rest, e1, e2, h⟩ := h
      refine ⟨e, kd, y, b, as, rest, e1, e2, ?_⟩
      rcases h with ⟨g1, g2, g3, h⟩ | ⟨g1, g2, g3, h⟩
      · exact Or.inl ⟨g1, g2, g3, ih' _ _ _ h⟩
      · exact Or.inr ⟨g1, g2, g3, hcs _ _ _ _ h⟩
    | ireturn => exact h
    | lreturn => exact h
    | areturn => exact h
    | return_ => exact h
    | _ => first
      | exact h.elim
      | (obtain ⟨e1, h⟩ := h; exact ⟨e1, ih' _ _ _ h⟩)
      | (obtain ⟨e1, e2, h⟩ := h; exact ⟨e1, e2, ih' _ _ _ h⟩)
      | (obtain ⟨e1, e2, e3, h⟩ := h; exact ⟨e1, e2, e3, ih' _ _ _ h⟩)
      | (obtain ⟨e1, e2, e3, e4, h⟩ := h; exact ⟨e1, e2, e3, e4, ih' _ _ _ h⟩)
      | (obtain ⟨e1, e2, e3, e4, e5, h⟩ := h; exact ⟨e1, e2, e3, e4, e5, ih' _ _ _ h⟩)
      | (obtain ⟨e1, e2, e3, e4, e5, e6, h⟩ := h; exact ⟨e1, e2, e3, e4, e5, e6, ih' _ _ _ h⟩)
      | (obtain ⟨e1, e2, e3, e4, e5, e6, e7, h⟩ := h; exact ⟨e1, e2, e3, e4, e5, e6, e7, ih' _ _ _ h⟩)
      | (obtain ⟨e1, e2, e3, e4, e5, e6, e7, e8, h⟩ := h; exact ⟨e1, e2, e3, e4, e5, e6, e7, e8, ih' _ _ _ h⟩)
      | (obtain ⟨e1, e2, e3, e4, e5, e6, e7, e8, e9, h⟩ := h; exact ⟨e1, e2, e3, e4, e5, e6, e7, e8, e9, ih' _ _ _ h⟩)
      | (obtain ⟨e1, e2, e3, e4, e5, e6, e7, e8, e9, ea, h⟩ := h; exact ⟨e1, e2, e3, e4, e5, e6, e7, e8, e9, ea, ih' _ _ _ h⟩)
      | (obtain ⟨e1, e2, e3, e4, e5, e6, e7, e8, e9, ea, eb, h⟩ := h; exact ⟨e1, e2, e3, e4, e5, e6, e7, e8, e9, ea, eb, ih' _ _ _ h⟩)
      | (obtain ⟨e1, e2, e3, e4, e5, e6, e7, e8, e9, ea, eb, ec, h⟩ := h; exact ⟨e1, e2, e3, e4, e5, e6, e7, e8, e9, ea, eb, ec, ih' _ _ _ h⟩)
/-- sorted by their places -/
def zins (q : Nat × Value) : List (Nat × Value) → List (Nat × Value)
  | [] => [q]
  | r :: t => if Nat.ble q.1 r.1 then q :: r :: t else r :: zins q t
def znrm (l : List (Nat × Value)) : List (Nat × Value) := l.foldr zins []
def zkd (l : List (Nat × Value)) : Bool := match l with
  | [] => true
  | q :: t => !((zks t).contains q.1) && zkd t
theorem zkd_nd : ∀ {l : List (Nat × Value)}, zkd l = true → (zks l).Nodup
  | [], _ => List.nodup_nil
  | q :: t, h => by
    unfold zkd at h
    simp only [Bool.and_eq_true, Bool.not_eq_true', List.contains_eq_mem, decide_eq_false_iff_not] at h
    exact List.nodup_cons.mpr ⟨h.1, zkd_nd h.2⟩
theorem zins_ks (q : Nat × Value) : ∀ (l : List (Nat × Value)) (j : Nat), j ∈ zks (zins q l) ↔ j = q.1 ∨ j ∈ zks l
  | [], j => by show j ∈ [q.1] ↔ j = q.1 ∨ j ∈ []; simp
  | r :: t, j => by
    rw [zins]
    split
    · show j ∈ q.1 :: r.1 :: zks t ↔ j = q.1 ∨ j ∈ r.1 :: zks t; rw [List.mem_cons]
    · show j ∈ r.1 :: zks (zins q t) ↔ j = q.1 ∨ j ∈ r.1 :: zks t
      rw [List.mem_cons, zins_ks q t j, List.mem_cons]
      constructor
      · rintro (e | e | e)
        · exact Or.inr (Or.inl e)
        · exact Or.inl e
        · exact Or.inr (Or.inr e)
      · rintro (e | e | e)
        · exact Or.inr (Or.inl e)
        · exact Or.inl e
        · exact Or.inr (Or.inr e)
theorem zins_ok {q : Nat × Value} : ∀ {l : List (Nat × Value)}, q.1 ∉ zks l → (zks l).Nodup → (zks (zins q l)).Nodup ∧ ∀ j, zld (zins q l) j = if q.1 = j then some q.2 else zld l j
  | [], _, _ => ⟨List.nodup_cons.mpr ⟨List.not_mem_nil, List.nodup_nil⟩, fun j => zld_cons _ _ _⟩
  | r :: t, hq, hn => by
    have hq2 : q.1 ≠ r.1 ∧ q.1 ∉ zks t := by
      have : q.1 ∉ r.1 :: zks t := hq
      rw [List.mem_cons] at this
      exact ⟨fun e => this (Or.inl e), fun e => this (Or.inr e)⟩
    obtain ⟨h1, h2⟩ := List.nodup_cons.mp (show (r.1 :: zks t).Nodup from hn)
    rw [zins]
    split
    · exact ⟨List.nodup_cons.mpr ⟨hq, hn⟩, fun j => zld_cons _ _ _⟩
    · obtain ⟨a, b⟩ := zins_ok hq2.2 h2
      refine ⟨List.nodup_cons.mpr ⟨fun hm => ?_, a⟩, fun j => ?_⟩
      · rcases (zins_ks q t r.1).mp hm with e | e
        · exact hq2.1 e.symm
        · exact h1 e
      · rw [zld_cons, b j, zld_cons]
        by_cases e : r.1 = j
        · rw [if_pos e, if_pos e, if_neg (fun e2 => hq2.1 (e2.trans e.symm))]
        · rw [if_neg e, if_neg e]
theorem znrm_ok : ∀ {l : List (Nat × Value)}, (zks l).Nodup → (zks (znrm l)).Nodup ∧ (∀ j, j ∈ zks (znrm l) ↔ j ∈ zks l) ∧ ∀ j, zld (znrm l) j = zld l j
  | [], h => ⟨h, fun _ => Iff.rfl, fun _ => rfl⟩
  | q :: t, h => by
    obtain ⟨h1, h2⟩ := List.nodup_cons.mp (show (q.1 :: zks t).Nodup from h)
    obtain ⟨a, b, c⟩ := znrm_ok h2
    obtain ⟨e, f⟩ := zins_ok (q := q) (l := znrm t) (fun hm => h1 ((b _).mp hm)) a
    exact ⟨e, fun j => by
      show j ∈ zks (zins q (znrm t)) ↔ j ∈ q.1 :: zks t
      rw [zins_ks, List.mem_cons, b j], fun j => by
      show zld (zins q (znrm t)) j = _
      rw [f j, zld_cons, c j]⟩
theorem qW_srt {R : zRT} {m : Nat} {Q : Option Value → zM → Prop} {pc : Nat} {l l' : List (Nat × Value)} {st : List Value} {M : zM} (h1 : zkd l = true) (h2 : znrm l = l') (k : qW R m Q pc l' st M) : qW R m Q pc l st M := by
  subst h2
  obtain ⟨f, v, M', h, hq⟩ := k
  obtain ⟨a, -, c⟩ := znrm_ok (zkd_nd h1)
  exact ⟨f, v, M', zLoop_sm f pc _ _ st M ⟨a, zkd_nd h1, c⟩ h, hq⟩
/-! ===== contracts: clashes, chains ===== -/
def yap (T : yT) (i j : Nat) : Bool := (ybd T i).testBit j && (yao T i &&& yao T j) != 0
/-- how many j < n with i < j clash with i -/
def ycj (T : yT) (i : Nat) : Nat → Nat
  | 0 => 0
  | j + 1 => ycj T i j + (if i < j ∧ yap T i j = true then 1 else 0)
def ycl (T : yT) : Nat → Nat
  | 0 => 0
  | i + 1 => ycl T i + ycj T i (tn T)
theorem ycj_le (T : yT) (i : Nat) : ∀ j, ycj T i j ≤ j
  | 0 => Nat.le_refl _
  | j + 1 => by have := ycj_le T i j; rw [ycj]; split <;> omega
theorem ycj_0 (T : yT) (i : Nat) : ∀ j, j ≤ i + 1 → ycj T i j = 0
  | 0, _ => rfl
  | j + 1, h => by rw [ycj, ycj_0 T i j (by omega), if_neg (fun q => by omega)]
theorem yao_lt (T : yT) (i : Nat) : yao T i < 64 := or_lt (n := 6) (yac_lt _) (yac_lt _)
theorem ycj_t {T : yT} {i j : Nat} (h : i < j) (h1 : (ybd T i).testBit j = true) (h2 : ¬ yao T i &&& yao T j = 0) : ycj T i (j + 1) = ycj T i j + 1 := by
  rw [ycj, if_pos ⟨h, by unfold yap; rw [h1]; simp [h2]⟩]
theorem ycj_f {T : yT} {i j : Nat} (h : (ybd T i).testBit j = false ∨ yao T i &&& yao T j = 0) : ycj T i (j + 1) = ycj T i j := by
  rw [ycj, if_neg (fun q => by
    have q2 := q.2
    unfold yap at q2
    rcases h with e | e <;> rw [e] at q2 <;> simp at q2)]
  rfl
theorem d40_0 : decode (zB 40) 0 = .ok (.iconst 0, 1) := (congrArg (fun c => decode c 0) zeq40).trans (by decide +kernel)
theorem d40_1 : decode (zB 40) 1 = .ok (.istore_n 1, 1) := (congrArg (fun c => decode c 1) zeq40).trans (by decide +kernel)
theorem d40_2 : decode (zB 40) 2 = .ok (.iconst 0, 1) := (congrArg (fun c => decode c 2) zeq40).trans (by decide +kernel)
theorem d40_3 : decode (zB 40) 3 = .ok (.istore_n 2, 1) := (congrArg (fun c => decode c 3) zeq40).trans (by decide +kernel)
theorem d40_4 : decode (zB 40) 4 = .ok (.iload_n 2, 1) := (congrArg (fun c => decode c 4) zeq40).trans (by decide +kernel)
theorem d40_5 : decode (zB 40) 5 = .ok (.aload_n 0, 1) := (congrArg (fun c => decode c 5) zeq40).trans (by decide +kernel)
theorem d40_6 : decode (zB 40) 6 = .ok (.getfield 34, 3) := (congrArg (fun c => decode c 6) zeq40).trans (by decide +kernel)
theorem d40_9 : decode (zB 40) 9 = .ok (.if_icmp .ge 62, 3) := (congrArg (fun c => decode c 9) zeq40).trans (by decide +kernel)
theorem d40_12 : decode (zB 40) 12 = .ok (.aload_n 0, 1) := (congrArg (fun c => decode c 12) zeq40).trans (by decide +kernel)
theorem d40_13 : decode (zB 40) 13 = .ok (.iload_n 2, 1) := (congrArg (fun c => decode c 13) zeq40).trans (by decide +kernel)
theorem d40_14 : decode (zB 40) 14 = .ok (.invokevirtual 55, 3) := (congrArg (fun c => decode c 14) zeq40).trans (by decide +kernel)
theorem d40_17 : decode (zB 40) 17 = .ok (.istore_n 3, 1) := (congrArg (fun c => decode c 17) zeq40).trans (by decide +kernel)
theorem d40_18 : decode (zB 40) 18 = .ok (.iload_n 2, 1) := (congrArg (fun c => decode c 18) zeq40).trans (by decide +kernel)
theorem d40_19 : decode (zB 40) 19 = .ok (.iconst 1, 1) := (congrArg (fun c => decode c 19) zeq40).trans (by decide +kernel)
theorem d40_20 : decode (zB 40) 20 = .ok (.iadd, 1) := (congrArg (fun c => decode c 20) zeq40).trans (by decide +kernel)
theorem d40_21 : decode (zB 40) 21 = .ok (.istore 4, 2) := (congrArg (fun c => decode c 21) zeq40).trans (by decide +kernel)
theorem d40_23 : decode (zB 40) 23 = .ok (.iload 4, 2) := (congrArg (fun c => decode c 23) zeq40).trans (by decide +kernel)
theorem d40_25 : decode (zB 40) 25 = .ok (.aload_n 0, 1) := (congrArg (fun c => decode c 25) zeq40).trans (by decide +kernel)
theorem d40_26 : decode (zB 40) 26 = .ok (.getfield 34, 3) := (congrArg (fun c => decode c 26) zeq40).trans (by decide +kernel)
theorem d40_29 : decode (zB 40) 29 = .ok (.if_icmp .ge 36, 3) := (congrArg (fun c => decode c 29) zeq40).trans (by decide +kernel)
theorem d40_32 : decode (zB 40) 32 = .ok (.iload_n 3, 1) := (congrArg (fun c => decode c 32) zeq40).trans (by decide +kernel)
theorem d40_33 : decode (zB 40) 33 = .ok (.iload 4, 2) := (congrArg (fun c => decode c 33) zeq40).trans (by decide +kernel)
theorem d40_35 : decode (zB 40) 35 = .ok (.invokestatic 37, 3) := (congrArg (fun c => decode c 35) zeq40).trans (by decide +kernel)
theorem d40_38 : decode (zB 40) 38 = .ok (.ifCond .eq 21, 3) := (congrArg (fun c => decode c 38) zeq40).trans (by decide +kernel)
theorem d40_41 : decode (zB 40) 41 = .ok (.aload_n 0, 1) := (congrArg (fun c => decode c 41) zeq40).trans (by decide +kernel)
theorem d40_42 : decode (zB 40) 42 = .ok (.iload_n 2, 1) := (congrArg (fun c => decode c 42) zeq40).trans (by decide +kernel)
theorem d40_43 : decode (zB 40) 43 = .ok (.invokevirtual 63, 3) := (congrArg (fun c => decode c 43) zeq40).trans (by decide +kernel)
theorem d40_46 : decode (zB 40) 46 = .ok (.aload_n 0, 1) := (congrArg (fun c => decode c 46) zeq40).trans (by decide +kernel)
theorem d40_47 : decode (zB 40) 47 = .ok (.iload 4, 2) := (congrArg (fun c => decode c 47) zeq40).trans (by decide +kernel)
theorem d40_49 : decode (zB 40) 49 = .ok (.invokevirtual 63, 3) := (congrArg (fun c => decode c 49) zeq40).trans (by decide +kernel)
theorem d40_52 : decode (zB 40) 52 = .ok (.iand, 1) := (congrArg (fun c => decode c 52) zeq40).trans (by decide +kernel)
theorem d40_53 : decode (zB 40) 53 = .ok (.ifCond .eq 6, 3) := (congrArg (fun c => decode c 53) zeq40).trans (by decide +kernel)
theorem d40_56 : decode (zB 40) 56 = .ok (.iinc 1 1, 3) := (congrArg (fun c => decode c 56) zeq40).trans (by decide +kernel)
theorem d40_59 : decode (zB 40) 59 = .ok (.iinc 4 1, 3) := (congrArg (fun c => decode c 59) zeq40).trans (by decide +kernel)
theorem d40_62 : decode (zB 40) 62 = .ok (.goto (-39), 3) := (congrArg (fun c => decode c 62) zeq40).trans (by decide +kernel)
theorem d40_65 : decode (zB 40) 65 = .ok (.iinc 2 1, 3) := (congrArg (fun c => decode c 65) zeq40).trans (by decide +kernel)
theorem d40_68 : decode (zB 40) 68 = .ok (.goto (-64), 3) := (congrArg (fun c => decode c 68) zeq40).trans (by decide +kernel)
theorem d40_71 : decode (zB 40) 71 = .ok (.iload_n 1, 1) := (congrArg (fun c => decode c 71) zeq40).trans (by decide +kernel)
theorem d40_72 : decode (zB 40) 72 = .ok (.ireturn, 1) := (congrArg (fun c => decode c 72) zeq40).trans (by decide +kernel)
theorem l40i {d : Nat} {M : zM} {Q : Option Value → zM → Prop} {a : Nat} {T : yT} {i c : Nat} (hp : SPr M a) (hr : RP M a T) (ho : OKT T) (hi : i < tn T) (k : qW (zEv (d + 3)) 40 Q 65 [(0, .ref a), (1, .int (nI (c + ycj T i (tn T)))), (2, .int (nI i)), (3, .int (nI (ybd T i))), (4, .int (nI (tn T)))] [] M) : ∀ (r j : Nat), j ≤ tn T → tn T < j + r → i < j → qW (zEv (d + 3)) 40 Q 23 [(0, .ref a), (1, .int (nI (c + ycj T i j))), (2, .int (nI i)), (3, .int (nI (ybd T i))), (4, .int (nI j))] [] M := by
  intro r
  induction r with
  | zero => intros; omega
  | succ r ih =>
    intro j  h1 h2 hj
    have hn := ho.n
    have hb1 := ybd_lt T i hn
    refine q_iload d40_23 rfl ?_
    refine q_aload_n d40_25 rfl ?_
    refine q_getv (c := 1) (f := 6) d40_26 ⟨rfl, by decide⟩ hp.1 hr.1 ?_
    refine nc_ge 65 d40_29 (by decide) (by omega) (by omega) (fun h29 => ?_) (fun h29 => ?_)
    · refine qW_srt rfl rfl ?_
      rw [show j = tn T by omega]; exact k
    · refine q_iload_n d40_32 rfl ?_
      refine q_iload d40_33 rfl ?_
      refine q_s2 d40_35 (Or.inr rfl) rfl (Nat.le_of_ble_eq_true rfl) (c35 (by omega) (by omega) ?_)
      refine b0_eq 59 d40_38 (by decide) (fun h38 => ?_) (fun h38 => ?_)
      · refine n_iinc 1 d40_59 (by decide) rfl rfl ?_
        refine q_goto 23 d40_62 (by decide) ?_
        refine qW_srt rfl rfl ?_
        first
        | (rw [show c + ycj T i j + 1 = c + ycj T i (j + 1) by rw [ycj_t (by omega) h38 h53]; rfl]; exact ih (j + 1) (by omega) (by omega) (by omega))
        | (rw [show ycj T i j = ycj T i (j + 1) by rw [ycj_f (Or.inr h53)]]; exact ih (j + 1) (by omega) (by omega) (by omega))
        | (rw [show ycj T i j = ycj T i (j + 1) by rw [ycj_f (Or.inl h38)]]; exact ih (j + 1) (by omega) (by omega) (by omega))
      · have ha1 : yao T i &&& yao T j < 2147483648 := Nat.lt_of_le_of_lt Nat.and_le_left (Nat.lt_trans (yao_lt T i) (by decide))
        refine q_aload_n d40_41 rfl ?_
        refine q_iload_n d40_42 rfl ?_
        refine q_v1 d40_43 rfl rfl hp.1 (Nat.le_of_ble_eq_true rfl) (c41 hp hr hi hn ?_)
        refine q_aload_n d40_46 rfl ?_
        refine q_iload d40_47 rfl ?_
        refine q_v1 d40_49 rfl rfl hp.1 (Nat.le_of_ble_eq_true rfl) (c41 hp hr (by omega) hn ?_)
        refine n_iand d40_52 ?_
        refine n0_eq 59 d40_53 (by decide) (by omega) (fun h53 => ?_) (fun h53 => ?_)
        · refine n_iinc 1 d40_59 (by decide) rfl rfl ?_
          refine q_goto 23 d40_62 (by decide) ?_
          refine qW_srt rfl rfl ?_
          first
          | (rw [show c + ycj T i j + 1 = c + ycj T i (j + 1) by rw [ycj_t (by omega) h38 h53]; rfl]; exact ih (j + 1) (by omega) (by omega) (by omega))
          | (rw [show ycj T i j = ycj T i (j + 1) by rw [ycj_f (Or.inr h53)]]; exact ih (j + 1) (by omega) (by omega) (by omega))
          | (rw [show ycj T i j = ycj T i (j + 1) by rw [ycj_f (Or.inl h38)]]; exact ih (j + 1) (by omega) (by omega) (by omega))
        · refine n_iinc 1 d40_56 (by decide) rfl rfl ?_
          refine n_iinc 1 d40_59 (by decide) rfl rfl ?_
          refine q_goto 23 d40_62 (by decide) ?_
          refine qW_srt rfl rfl ?_
          first
          | (rw [show c + ycj T i j + 1 = c + ycj T i (j + 1) by rw [ycj_t (by omega) h38 h53]; rfl]; exact ih (j + 1) (by omega) (by omega) (by omega))
          | (rw [show ycj T i j = ycj T i (j + 1) by rw [ycj_f (Or.inr h53)]]; exact ih (j + 1) (by omega) (by omega) (by omega))
          | (rw [show ycj T i j = ycj T i (j + 1) by rw [ycj_f (Or.inl h38)]]; exact ih (j + 1) (by omega) (by omega) (by omega))
theorem l40 {d : Nat} {M : zM} {Q : Option Value → zM → Prop} {a : Nat} {T : yT} (hp : SPr M a) (hr : RP M a T) (ho : OKT T) (k : Q (some (.int (nI (ycl T (tn T))))) M) : ∀ (r i : Nat) (a3 a4 : Value), i ≤ tn T → tn T < i + r → qW (zEv (d + 3)) 40 Q 4 [(0, .ref a), (1, .int (nI (ycl T i))), (2, .int (nI i)), (3, a3), (4, a4)] [] M := by
  intro r
  induction r with
  | zero => intros; omega
  | succ r ih =>
    intro i a3 a4 h1 h2 
    have hn := ho.n
    refine q_iload_n d40_4 rfl ?_
    refine q_aload_n d40_5 rfl ?_
    refine q_getv (c := 1) (f := 6) d40_6 ⟨rfl, by decide⟩ hp.1 hr.1 ?_
    refine nc_ge 71 d40_9 (by decide) (by omega) (by omega) (fun h9 => ?_) (fun h9 => ?_)
    · refine q_iload_n d40_71 rfl ?_
      refine q_iret d40_72 rfl ?_
      rw [show i = tn T by omega]; exact k
    · refine q_aload_n d40_12 rfl ?_
      refine q_iload_n d40_13 rfl ?_
      refine q_v1 d40_14 rfl rfl hp.1 (Nat.le_of_ble_eq_true rfl) (c39 hp hr ho (by omega) ?_)
      refine q_istore_n d40_17 (by decide) rfl ?_
      refine q_iload_n d40_18 rfl ?_
      refine q_iconstN (z := 1) d40_19 ?_
      refine n_iadd d40_20 ?_
      refine q_istore d40_21 (by decide) rfl ?_
      refine qW_srt rfl rfl ?_
      rw [show ycl T i = ycl T i + ycj T i (i + 1) by rw [ycj_0 T i _ (Nat.le_refl _)]; rfl]
      exact l40i hp hr ho (by omega) (by
        refine n_iinc (x := i) 1 d40_65 (by decide) rfl rfl ?_
        refine q_goto 4 d40_68 (by decide) ?_
        refine qW_srt rfl rfl ?_
        exact ih (i + 1) _ _ (by omega) (by omega)) (tn T + 1) (i + 1) (by omega) (by omega) (by omega)
theorem c40 {d : Nat} {M : zM} {Q : Option Value → zM → Prop} {a : Nat} {T : yT} (hp : SPr M a) (hr : RP M a T) (ho : OKT T) (k : Q (some (.int (nI (ycl T (tn T))))) M) : qC (d + 4) 40 [.ref a] M Q := by
  have hn := ho.n
  have h1n := ho.1
  refine qC_of (by decide) (Nat.le_of_ble_eq_true rfl) ?_
  refine q_iconstN (z := 0) d40_0 ?_
  refine q_istore_n d40_1 (by decide) rfl ?_
  refine q_iconstN (z := 0) d40_2 ?_
  refine q_istore_n d40_3 (by decide) rfl ?_
  refine q_iload_n d40_4 rfl ?_
  refine q_aload_n d40_5 rfl ?_
  refine q_getv (c := 1) (f := 6) d40_6 ⟨rfl, by decide⟩ hp.1 hr.1 ?_
  refine nc_ge 71 d40_9 (by decide) (by omega) (by omega) (fun h9 => ?_) (fun h9 => ?_)
  · refine q_iload_n d40_71 rfl ?_
    refine q_iret d40_72 rfl ?_
    omega
  · refine q_aload_n d40_12 rfl ?_
    refine q_iload_n d40_13 rfl ?_
    refine q_v1 d40_14 rfl rfl hp.1 (Nat.le_of_ble_eq_true rfl) (c39 hp hr ho (by omega) ?_)
    refine q_istore_n d40_17 (by decide) rfl ?_
    refine q_iload_n d40_18 rfl ?_
    refine q_iconstN (z := 1) d40_19 ?_
    refine n_iadd d40_20 ?_
    refine q_istore d40_21 (by decide) rfl ?_
    refine qW_srt rfl rfl ?_
    exact l40i (c := 0) (i := 0) hp hr ho (by omega) (by
      refine n_iinc (x := 0) 1 d40_65 (by decide) rfl rfl ?_
      refine q_goto 4 d40_68 (by decide) ?_
      refine qW_srt rfl rfl ?_
      exact l40 hp hr ho k (tn T + 1) 1 _ _ (by omega) (by omega)) (tn T + 1) 1 (by omega) (by omega) (by omega)
/-- how long a chain is that ends at i, looking at steps below j; c: those known -/
def yc1 (T : yT) (c : Nat → Nat) (i : Nat) : Nat → Nat
  | 0 => 1
  | j + 1 => if (ta T i).testBit j then max (yc1 T c i j) (c j + 1) else yc1 T c i j
def ycs (T : yT) : Nat → Nat → Nat
  | 0 => fun _ => 0
  | i + 1 => yu (ycs T i) i (yc1 T (ycs T i) i i)
def ylo (T : yT) : Nat → Nat
  | 0 => 0
  | i + 1 => max (ylo T i) (yc1 T (ycs T i) i i)
theorem yc1_le {T : yT} {c : Nat → Nat} {i b : Nat} (h : ∀ k, c k ≤ b) : ∀ j, yc1 T c i j ≤ b + 1
  | 0 => by show 1 ≤ b + 1; omega
  | j + 1 => by
    have := yc1_le (T := T) (i := i) h j
    have := h j
    rw [yc1]
    split
    · exact Nat.max_le.mpr ⟨by omega, by omega⟩
    · omega
theorem ycs_le (T : yT) : ∀ i k, ycs T i k ≤ i
  | 0, _ => Nat.le_refl _
  | i + 1, k => by
    show yu (ycs T i) i (yc1 T (ycs T i) i i) k ≤ i + 1
    by_cases e : k = i
    · subst e; rw [yu_s]; exact yc1_le (ycs_le T k) k
    · rw [yu_n e]; have := ycs_le T i k; omega
theorem ylo_le (T : yT) : ∀ i, ylo T i ≤ i
  | 0 => Nat.le_refl _
  | i + 1 => by
    have := ylo_le T i
    have := yc1_le (T := T) (i := i) (ycs_le T i) i
    rw [ylo]
    exact Nat.max_le.mpr ⟨by omega, by omega⟩
theorem d34_0 : decode (zB 34) 0 = .ok (.iconst 0, 1) := (congrArg (fun c => decode c 0) zeq34).trans (by decide +kernel)
theorem d34_1 : decode (zB 34) 1 = .ok (.istore_n 1, 1) := (congrArg (fun c => decode c 1) zeq34).trans (by decide +kernel)
theorem d34_2 : decode (zB 34) 2 = .ok (.iconst 0, 1) := (congrArg (fun c => decode c 2) zeq34).trans (by decide +kernel)
theorem d34_3 : decode (zB 34) 3 = .ok (.istore_n 2, 1) := (congrArg (fun c => decode c 3) zeq34).trans (by decide +kernel)
theorem d34_4 : decode (zB 34) 4 = .ok (.iload_n 2, 1) := (congrArg (fun c => decode c 4) zeq34).trans (by decide +kernel)
theorem d34_5 : decode (zB 34) 5 = .ok (.aload_n 0, 1) := (congrArg (fun c => decode c 5) zeq34).trans (by decide +kernel)
theorem d34_6 : decode (zB 34) 6 = .ok (.getfield 34, 3) := (congrArg (fun c => decode c 6) zeq34).trans (by decide +kernel)
theorem d34_9 : decode (zB 34) 9 = .ok (.if_icmp .ge 76, 3) := (congrArg (fun c => decode c 9) zeq34).trans (by decide +kernel)
theorem d34_12 : decode (zB 34) 12 = .ok (.aload_n 0, 1) := (congrArg (fun c => decode c 12) zeq34).trans (by decide +kernel)
theorem d34_13 : decode (zB 34) 13 = .ok (.getfield 27, 3) := (congrArg (fun c => decode c 13) zeq34).trans (by decide +kernel)
theorem d34_16 : decode (zB 34) 16 = .ok (.iload_n 2, 1) := (congrArg (fun c => decode c 16) zeq34).trans (by decide +kernel)
theorem d34_17 : decode (zB 34) 17 = .ok (.iconst 1, 1) := (congrArg (fun c => decode c 17) zeq34).trans (by decide +kernel)
theorem d34_18 : decode (zB 34) 18 = .ok (.iastore, 1) := (congrArg (fun c => decode c 18) zeq34).trans (by decide +kernel)
theorem d34_19 : decode (zB 34) 19 = .ok (.iconst 0, 1) := (congrArg (fun c => decode c 19) zeq34).trans (by decide +kernel)
theorem d34_20 : decode (zB 34) 20 = .ok (.istore_n 3, 1) := (congrArg (fun c => decode c 20) zeq34).trans (by decide +kernel)
theorem d34_21 : decode (zB 34) 21 = .ok (.iload_n 3, 1) := (congrArg (fun c => decode c 21) zeq34).trans (by decide +kernel)
theorem d34_22 : decode (zB 34) 22 = .ok (.iload_n 2, 1) := (congrArg (fun c => decode c 22) zeq34).trans (by decide +kernel)
theorem d34_23 : decode (zB 34) 23 = .ok (.if_icmp .ge 45, 3) := (congrArg (fun c => decode c 23) zeq34).trans (by decide +kernel)
theorem d34_26 : decode (zB 34) 26 = .ok (.aload_n 0, 1) := (congrArg (fun c => decode c 26) zeq34).trans (by decide +kernel)
theorem d34_27 : decode (zB 34) 27 = .ok (.getfield 24, 3) := (congrArg (fun c => decode c 27) zeq34).trans (by decide +kernel)
theorem d34_30 : decode (zB 34) 30 = .ok (.iload_n 2, 1) := (congrArg (fun c => decode c 30) zeq34).trans (by decide +kernel)
theorem d34_31 : decode (zB 34) 31 = .ok (.iaload, 1) := (congrArg (fun c => decode c 31) zeq34).trans (by decide +kernel)
theorem d34_32 : decode (zB 34) 32 = .ok (.iload_n 3, 1) := (congrArg (fun c => decode c 32) zeq34).trans (by decide +kernel)
theorem d34_33 : decode (zB 34) 33 = .ok (.invokestatic 37, 3) := (congrArg (fun c => decode c 33) zeq34).trans (by decide +kernel)
theorem d34_36 : decode (zB 34) 36 = .ok (.ifCond .eq 26, 3) := (congrArg (fun c => decode c 36) zeq34).trans (by decide +kernel)
theorem d34_39 : decode (zB 34) 39 = .ok (.aload_n 0, 1) := (congrArg (fun c => decode c 39) zeq34).trans (by decide +kernel)
theorem d34_40 : decode (zB 34) 40 = .ok (.getfield 27, 3) := (congrArg (fun c => decode c 40) zeq34).trans (by decide +kernel)
theorem d34_43 : decode (zB 34) 43 = .ok (.iload_n 2, 1) := (congrArg (fun c => decode c 43) zeq34).trans (by decide +kernel)
theorem d34_44 : decode (zB 34) 44 = .ok (.aload_n 0, 1) := (congrArg (fun c => decode c 44) zeq34).trans (by decide +kernel)
theorem d34_45 : decode (zB 34) 45 = .ok (.getfield 27, 3) := (congrArg (fun c => decode c 45) zeq34).trans (by decide +kernel)
theorem d34_48 : decode (zB 34) 48 = .ok (.iload_n 2, 1) := (congrArg (fun c => decode c 48) zeq34).trans (by decide +kernel)
theorem d34_49 : decode (zB 34) 49 = .ok (.iaload, 1) := (congrArg (fun c => decode c 49) zeq34).trans (by decide +kernel)
theorem d34_50 : decode (zB 34) 50 = .ok (.aload_n 0, 1) := (congrArg (fun c => decode c 50) zeq34).trans (by decide +kernel)
theorem d34_51 : decode (zB 34) 51 = .ok (.getfield 27, 3) := (congrArg (fun c => decode c 51) zeq34).trans (by decide +kernel)
theorem d34_54 : decode (zB 34) 54 = .ok (.iload_n 3, 1) := (congrArg (fun c => decode c 54) zeq34).trans (by decide +kernel)
theorem d34_55 : decode (zB 34) 55 = .ok (.iaload, 1) := (congrArg (fun c => decode c 55) zeq34).trans (by decide +kernel)
theorem d34_56 : decode (zB 34) 56 = .ok (.iconst 1, 1) := (congrArg (fun c => decode c 56) zeq34).trans (by decide +kernel)
theorem d34_57 : decode (zB 34) 57 = .ok (.iadd, 1) := (congrArg (fun c => decode c 57) zeq34).trans (by decide +kernel)
theorem d34_58 : decode (zB 34) 58 = .ok (.invokestatic 45, 3) := (congrArg (fun c => decode c 58) zeq34).trans (by decide +kernel)
theorem d34_61 : decode (zB 34) 61 = .ok (.iastore, 1) := (congrArg (fun c => decode c 61) zeq34).trans (by decide +kernel)
theorem d34_62 : decode (zB 34) 62 = .ok (.iinc 3 1, 3) := (congrArg (fun c => decode c 62) zeq34).trans (by decide +kernel)
theorem d34_65 : decode (zB 34) 65 = .ok (.goto (-44), 3) := (congrArg (fun c => decode c 65) zeq34).trans (by decide +kernel)
theorem d34_68 : decode (zB 34) 68 = .ok (.iload_n 1, 1) := (congrArg (fun c => decode c 68) zeq34).trans (by decide +kernel)
theorem d34_69 : decode (zB 34) 69 = .ok (.aload_n 0, 1) := (congrArg (fun c => decode c 69) zeq34).trans (by decide +kernel)
theorem d34_70 : decode (zB 34) 70 = .ok (.getfield 27, 3) := (congrArg (fun c => decode c 70) zeq34).trans (by decide +kernel)
theorem d34_73 : decode (zB 34) 73 = .ok (.iload_n 2, 1) := (congrArg (fun c => decode c 73) zeq34).trans (by decide +kernel)
theorem d34_74 : decode (zB 34) 74 = .ok (.iaload, 1) := (congrArg (fun c => decode c 74) zeq34).trans (by decide +kernel)
theorem d34_75 : decode (zB 34) 75 = .ok (.invokestatic 45, 3) := (congrArg (fun c => decode c 75) zeq34).trans (by decide +kernel)
theorem d34_78 : decode (zB 34) 78 = .ok (.istore_n 1, 1) := (congrArg (fun c => decode c 78) zeq34).trans (by decide +kernel)
theorem d34_79 : decode (zB 34) 79 = .ok (.iinc 2 1, 3) := (congrArg (fun c => decode c 79) zeq34).trans (by decide +kernel)
theorem d34_82 : decode (zB 34) 82 = .ok (.goto (-78), 3) := (congrArg (fun c => decode c 82) zeq34).trans (by decide +kernel)
theorem d34_85 : decode (zB 34) 85 = .ok (.iload_n 1, 1) := (congrArg (fun c => decode c 85) zeq34).trans (by decide +kernel)
theorem d34_86 : decode (zB 34) 86 = .ok (.ireturn, 1) := (congrArg (fun c => decode c 86) zeq34).trans (by decide +kernel)
theorem l34i {d : Nat} {Q : Option Value → zM → Prop} {a : Nat} {T : yT} {i lo : Nat} {M0 : zM} (hp : SPr M0 a) (hr : RP M0 a T) (ho : OKT T) (hi : i < tn T) (k : ∀ M', (∀ q, q ≤ i → zi M' (a + 6) q = nI (ycs T (i + 1) q)) → Fi (fun b _ => b = a + 6) M0 M' → qW (zEv (d + 1)) 34 Q 68 [(0, .ref a), (1, .int (nI lo)), (2, .int (nI i)), (3, .int (nI i))] [] M') : ∀ (r j : Nat) (M1 : zM), j ≤ i → i < j + r → (∀ q, q < i → zi M1 (a + 6) q = nI (ycs T i q)) → zi M1 (a + 6) i = nI (yc1 T (ycs T i) i j) → Fi (fun b _ => b = a + 6) M0 M1 → qW (zEv (d + 1)) 34 Q 21 [(0, .ref a), (1, .int (nI lo)), (2, .int (nI i)), (3, .int (nI j))] [] M1 := by
  intro r
  induction r with
  | zero => intros; omega
  | succ r ih =>
    intro j M1 h1 h2 hq hc hF
    have hn := ho.n
    refine q_iload_n d34_21 rfl ?_
    refine q_iload_n d34_22 rfl ?_
    refine nc_ge 68 d34_23 (by decide) (by omega) (by omega) (fun h23 => ?_) (fun h23 => ?_)
    · refine qW_srt rfl rfl ?_
      rw [show j = i by omega] at hc ⊢
      refine k _ (fun q hq1 => ?_) hF
      show _ = nI (yu (ycs T i) i (yc1 T (ycs T i) i i) q)
      by_cases e : q = i
      · subst e; rw [yu_s]; exact hc
      · rw [yu_n e]; exact hq q (by omega)
    · have ha1 : ta T i < 4096 := ho.a hi
      have hb1 := yc1_le (T := T) (i := i) (ycs_le T i) j
      have hb2 := ycs_le T i j
      refine q_aload_n d34_26 rfl ?_
      refine q_getr (c := 1) (f := 4) d34_27 ⟨rfl, rfl⟩ (SPr_fi hp hF).1 ((SPr_fi hp hF).2 4 (by decide)).1 ?_
      refine q_iload_n d34_30 rfl ?_
      refine n_iald d34_31 ((SPr_fi hp hF).2 4 (by decide)).2 (by omega) (by decide) ((RP_fr hr hF.fr (fun b q h1 h2 e => by omega)).2.2 _ (by omega)).2.2.2.2 ?_
      refine q_iload_n d34_32 rfl ?_
      refine q_s2 d34_33 (Or.inr rfl) rfl (Nat.le_of_ble_eq_true rfl) (c35 (by omega) (by omega) ?_)
      refine b0_eq 62 d34_36 (by decide) (fun h36 => ?_) (fun h36 => ?_)
      · refine n_iinc 1 d34_62 (by decide) rfl rfl ?_
        refine q_goto 21 d34_65 (by decide) ?_
        refine qW_srt rfl rfl ?_
        first
        | (refine ih (j + 1) _ (by omega) (by omega) (fun q hq1 => ?_) ?_ (hF.wi rfl)
           · rw [wi_n (Or.inr (by omega))]; exact hq q hq1
           · rw [wi_s, yc1, if_pos h36])
        | exact ih (j + 1) _ (by omega) (by omega) hq (by rw [hc, yc1, h36, if_neg (by decide)]) hF
      · refine q_aload_n d34_39 rfl ?_
        refine q_getr (c := 1) (f := 5) d34_40 ⟨rfl, rfl⟩ (SPr_fi hp hF).1 ((SPr_fi hp hF).2 5 (by decide)).1 ?_
        refine q_iload_n d34_43 rfl ?_
        refine q_aload_n d34_44 rfl ?_
        refine q_getr (c := 1) (f := 5) d34_45 ⟨rfl, rfl⟩ (SPr_fi hp hF).1 ((SPr_fi hp hF).2 5 (by decide)).1 ?_
        refine q_iload_n d34_48 rfl ?_
        refine n_iald d34_49 ((SPr_fi hp hF).2 5 (by decide)).2 (by omega) (by decide) hc ?_
        refine q_aload_n d34_50 rfl ?_
        refine q_getr (c := 1) (f := 5) d34_51 ⟨rfl, rfl⟩ (SPr_fi hp hF).1 ((SPr_fi hp hF).2 5 (by decide)).1 ?_
        refine q_iload_n d34_54 rfl ?_
        refine n_iald d34_55 ((SPr_fi hp hF).2 5 (by decide)).2 (by omega) (by decide) (hq _ (by omega)) ?_
        refine q_iconstN (z := 1) d34_56 ?_
        refine n_iadd d34_57 ?_
        refine q_max d34_58 rfl (Nat.le_of_ble_eq_true rfl) ?_
        rw [n_maxN (by omega) (by omega)]
        refine n_iast d34_61 ((SPr_fi hp hF).2 5 (by decide)).2 (by omega) (by decide) ?_
        refine n_iinc 1 d34_62 (by decide) rfl rfl ?_
        refine q_goto 21 d34_65 (by decide) ?_
        refine qW_srt rfl rfl ?_
        first
        | (refine ih (j + 1) _ (by omega) (by omega) (fun q hq1 => ?_) ?_ (hF.wi rfl)
           · rw [wi_n (Or.inr (by omega))]; exact hq q hq1
           · rw [wi_s, yc1, if_pos h36])
        | exact ih (j + 1) _ (by omega) (by omega) hq (by rw [hc, yc1, h36, if_neg (by decide)]) hF
theorem l34 {d : Nat} {Q : Option Value → zM → Prop} {a : Nat} {T : yT} {M0 : zM} (hp : SPr M0 a) (hr : RP M0 a T) (ho : OKT T) (k : ∀ M', Fi (fun b _ => b = a + 6) M0 M' → Q (some (.int (nI (ylo T (tn T))))) M') : ∀ (r i : Nat) (a3 : Value) (M1 : zM), i ≤ tn T → tn T < i + r → (∀ q, q < i → zi M1 (a + 6) q = nI (ycs T i q)) → Fi (fun b _ => b = a + 6) M0 M1 → qW (zEv (d + 1)) 34 Q 4 [(0, .ref a), (1, .int (nI (ylo T i))), (2, .int (nI i)), (3, a3)] [] M1 := by
  intro r
  induction r with
  | zero => intros; omega
  | succ r ih =>
    intro i a3 M1 h1 h2 hq hF
    have hn := ho.n
    refine q_iload_n d34_4 rfl ?_
    refine q_aload_n d34_5 rfl ?_
    refine q_getv (c := 1) (f := 6) d34_6 ⟨rfl, by decide⟩ (SPr_fi hp hF).1 (RP_fr hr hF.fr (fun b q h1 h2 e => by omega)).1 ?_
    refine nc_ge 85 d34_9 (by decide) (by omega) (by omega) (fun h9 => ?_) (fun h9 => ?_)
    · refine q_iload_n d34_85 rfl ?_
      refine q_iret d34_86 rfl ?_
      rw [show i = tn T by omega]; exact k _ hF
    · refine q_aload_n d34_12 rfl ?_
      refine q_getr (c := 1) (f := 5) d34_13 ⟨rfl, rfl⟩ (SPr_fi hp hF).1 ((SPr_fi hp hF).2 5 (by decide)).1 ?_
      refine q_iload_n d34_16 rfl ?_
      refine q_iconstN (z := 1) d34_17 ?_
      refine n_iast d34_18 ((SPr_fi hp hF).2 5 (by decide)).2 (by omega) (by decide) ?_
      refine q_iconstN (z := 0) d34_19 ?_
      refine q_istore_n d34_20 (by decide) rfl ?_
      refine qW_srt rfl rfl ?_
      exact l34i (lo := ylo T i) hp hr ho (by omega) (fun M2 hq2 hF2 => by
        have hn2 := ho.n
        have hb1 := yc1_le (T := T) (i := i) (ycs_le T i) i
        have hb3 := ylo_le T i
        have hc0 : zi M2 (a + 6) i = nI (yc1 T (ycs T i) i i) := (hq2 i (Nat.le_refl _)).trans (congrArg nI (yu_s _ _ _))
        refine q_iload_n d34_68 rfl ?_
        refine q_aload_n d34_69 rfl ?_
        refine q_getr (c := 1) (f := 5) d34_70 ⟨rfl, rfl⟩ (SPr_fi hp hF2).1 ((SPr_fi hp hF2).2 5 (by decide)).1 ?_
        refine q_iload_n d34_73 rfl ?_
        refine n_iald d34_74 ((SPr_fi hp hF2).2 5 (by decide)).2 (by omega) (by decide) hc0 ?_
        refine q_max d34_75 rfl (Nat.le_of_ble_eq_true rfl) ?_
        rw [n_maxN (by omega) (by omega)]
        refine q_istore_n d34_78 (by decide) rfl ?_
        refine n_iinc (x := i) 1 d34_79 (by decide) rfl rfl ?_
        refine q_goto 4 d34_82 (by decide) ?_
        refine qW_srt rfl rfl ?_
        exact ih (i + 1) _ _ (by omega) (by omega) (fun q hq1 => hq2 q (by omega)) hF2) (i + 1) 0 _ (by omega) (by omega) (fun q hq1 => (wi_n (Or.inr (by omega))).trans (hq q hq1)) (wi_s _ _ _ _) (hF.wi rfl)
theorem c34 {d : Nat} {M : zM} {Q : Option Value → zM → Prop} {a : Nat} {T : yT} (hp : SPr M a) (hr : RP M a T) (ho : OKT T) (k : ∀ M', Fi (fun b _ => b = a + 6) M M' → Q (some (.int (nI (ylo T (tn T))))) M') : qC (d + 2) 34 [.ref a] M Q := by
  have hn := ho.n
  have h1n := ho.1
  refine qC_of (by decide) (Nat.le_of_ble_eq_true rfl) ?_
  refine q_iconstN (z := 0) d34_0 ?_
  refine q_istore_n d34_1 (by decide) rfl ?_
  refine q_iconstN (z := 0) d34_2 ?_
  refine q_istore_n d34_3 (by decide) rfl ?_
  refine q_iload_n d34_4 rfl ?_
  refine q_aload_n d34_5 rfl ?_
  refine q_getv (c := 1) (f := 6) d34_6 ⟨rfl, by decide⟩ hp.1 hr.1 ?_
  refine nc_ge 85 d34_9 (by decide) (by omega) (by omega) (fun h9 => ?_) (fun h9 => ?_)
  · refine q_iload_n d34_85 rfl ?_
    refine q_iret d34_86 rfl ?_
    omega
  · refine q_aload_n d34_12 rfl ?_
    refine q_getr (c := 1) (f := 5) d34_13 ⟨rfl, rfl⟩ hp.1 (hp.2 5 (by decide)).1 ?_
    refine q_iload_n d34_16 rfl ?_
    refine q_iconstN (z := 1) d34_17 ?_
    refine n_iast d34_18 (hp.2 5 (by decide)).2 (by omega) (by decide) ?_
    refine q_iconstN (z := 0) d34_19 ?_
    refine q_istore_n d34_20 (by decide) rfl ?_
    refine qW_srt rfl rfl ?_
    exact l34i (lo := 0) hp hr ho (by omega) (fun M2 hq2 hF2 => by
      have hn2 := ho.n
      have hb1 := yc1_le (T := T) (i := 0) (ycs_le T 0) 0
      have hb3 := ylo_le T 0
      have hc0 : zi M2 (a + 6) 0 = nI (yc1 T (ycs T 0) 0 0) := (hq2 0 (Nat.le_refl _)).trans (congrArg nI (yu_s _ _ _))
      refine q_iload_n d34_68 rfl ?_
      refine q_aload_n d34_69 rfl ?_
      refine q_getr (c := 1) (f := 5) d34_70 ⟨rfl, rfl⟩ (SPr_fi hp hF2).1 ((SPr_fi hp hF2).2 5 (by decide)).1 ?_
      refine q_iload_n d34_73 rfl ?_
      refine n_iald d34_74 ((SPr_fi hp hF2).2 5 (by decide)).2 (by omega) (by decide) hc0 ?_
      refine q_max d34_75 rfl (Nat.le_of_ble_eq_true rfl) ?_
      rw [n_maxN (by omega) (by omega)]
      refine q_istore_n d34_78 (by decide) rfl ?_
      refine n_iinc (x := 0) 1 d34_79 (by decide) rfl rfl ?_
      refine q_goto 4 d34_82 (by decide) ?_
      refine qW_srt rfl rfl ?_
      exact l34 hp hr ho k (tn T + 1) 1 _ _ (by omega) (by omega) (fun q hq1 => hq2 q (by omega)) hF2) (0 + 1) 0 _ (by omega) (by omega) (fun q hq1 => absurd hq1 (by omega)) (wi_s _ _ _ _) ((Fi.refl _ _).wi rfl)
/-! ===== contracts: RISKY sets ===== -/
/-- how many RISKY sets there are with just these of the steps below s, r steps from there -/
def yrk (T : yT) : Nat → Nat → Nat → (Nat → Int32) → Nat
  | 0, _, set, b => if ybl T (b, 0, 0) (ynx T set) then 1 else 0
  | r + 1, s, set, b =>
    if zdf (ta T s) set = 0 ∧ yob T (b, 0, 0) s (tu T s) 1 = 0 then yrk T r (s + 1) set b + yrk T r (s + 1) (set ||| 2 ^ s) (ych T (b, 0, 0) s (tu T s) 1).1
    else yrk T r (s + 1) set b
theorem ypu_1 {P P' : yP} {x m : Int32} (h : P.1 = P'.1) : (ypu P x m).1 = (ypu P' x m).1 := by
  unfold ypu; cases zix x 6 <;> simp only [h]
theorem yex_1 {P P' : yP} {x z : Int32} (h : P.1 = P'.1) : (yex P x z).1 = (yex P' x z).1 := by
  unfold yex; cases zix x 6 <;> cases zix z 6 <;> simp only [h]
theorem ych_1 {T : yT} {P P' : yP} {i : Nat} {n w : Int32} (h : P.1 = P'.1) : (ych T P i n w).1 = (ych T P' i n w).1 := by
  have h2 : (ypu (ypu P (tf T i) (w * yf1 (tk T i) n)) (ts T i) (w * yf2 (tk T i) n)).1 = (ypu (ypu P' (tf T i) (w * yf1 (tk T i) n)) (ts T i) (w * yf2 (tk T i) n)).1 := ypu_1 (ypu_1 h)
  unfold ych
  simp only []
  split
  · exact h2
  · split
    · exact yex_1 h2
    · split
      · exact h2
      · exact h2
theorem yob_1 {T : yT} {P P' : yP} {i : Nat} {n w : Int32} (h : P.1 = P'.1) : yob T P i n w = yob T P' i n w := by
  unfold yob ybe; rw [h]
theorem i_c0 (b z : Int32) : b + 1 * z + -1 * z = b := by rw [Int32.one_mul, m1_mul, Int32.add_assoc, Int32.add_right_neg, Int32.add_zero]
theorem i_c2 (b n : Int32) : b + 1 * -n + 1 * n + -1 * -n + -1 * n = b := by rw [Int32_c1, Int32_c1]
theorem ych_inv {T : yT} {P : yP} {i : Nat} {n : Int32} (hT : OKT T) (hi : i < tn T) : (ych T (ych T P i n 1) i n (-1)).1 = P.1 := by
  obtain ⟨k6, -, a5, an5, s24, sn, -, -⟩ := hT.2.2.2 i hi
  by_cases k5 : tk T i = 5
  · have e1 : (ych T P i n 1).1 = P.1 := by
      unfold ych
      rw [if_neg (by omega), if_neg (by omega), a5 k5, sn (by omega) (by omega), ypu_n, ypu_n]
      split <;> rfl
    rw [ych_1 e1]
    unfold ych
    rw [if_neg (by omega), if_neg (by omega), a5 k5, sn (by omega) (by omega), ypu_n, ypu_n]
    split <;> rfl
  · obtain ⟨a, ha, ea⟩ := an5 k5
    by_cases k24 : tk T i = 2 ∨ tk T i = 4
    · obtain ⟨b, hb, eb⟩ := s24 k24
      rcases k24 with k | k
      · have f1 : ∀ (P : yP) (w : Int32), (ych T P i n w).1 = yu (yu P.1 a (P.1 a + w * -n)) b (yu P.1 a (P.1 a + w * -n) b + w * n) := fun P w => by
          unfold ych
          rw [if_neg (by omega), if_neg (by omega), if_neg (by omega), ea, eb, ypu_a ha, ypu_a hb, k]; rfl
        rw [f1, f1]
        funext q
        by_cases e : b = a
        · subst e
          by_cases q1 : q = b
          · subst q1; simp only [yu_s]; exact i_c2 _ _
          · simp only [yu_n q1]
        · by_cases q1 : q = b
          · subst q1; simp only [yu_s, yu_n e, yu_n (fun h => e h.symm)]; exact i_c0 _ _
          · by_cases q2 : q = a
            · subst q2; simp only [yu_s, yu_n q1, yu_n (fun h => q1 h.symm)]; exact i_c0 _ _
            · simp only [yu_n q1, yu_n q2]
      · have f1 : ∀ (P : yP) (w : Int32), (ych T P i n w).1 = yu (yu P.1 a (P.1 b)) b (P.1 a) := fun P w => by
          have g : ∀ (P : yP) (c : Nat), c < 6 → ypu P (nI c) (w * 0) = P := fun P c hc => by
            rw [ypu_a hc, Int32.mul_zero, Int32.add_zero]
            have : yu P.1 c (P.1 c) = P.1 := by
              funext q; by_cases h : q = c
              · subst h; rw [yu_s]
              · rw [yu_n h]
            rw [this]
          unfold ych
          rw [if_neg (by omega), if_pos k, ea, eb, k]
          show (yex (ypu (ypu P (nI a) (w * 0)) (nI b) (w * 0)) (nI a) (nI b)).1 = _
          rw [g P a ha, g P b hb]
          unfold yex
          rw [zix_in ha (by omega), zix_in hb (by omega)]
        rw [f1, f1]
        funext q
        by_cases e : b = a
        · subst e
          by_cases q1 : q = b
          · subst q1; simp only [yu_s]
          · simp only [yu_n q1]
        · by_cases q1 : q = b
          · subst q1; simp only [yu_s, yu_n e, yu_n (fun h => e h.symm)]
          · by_cases q2 : q = a
            · subst q2; simp only [yu_s, yu_n q1, yu_n (fun h => q1 h.symm)]
            · simp only [yu_n q1, yu_n q2]
    · have f1 : ∀ (P : yP) (w : Int32), (ych T P i n w).1 = yu P.1 a (P.1 a + w * yf1 (tk T i) n) := fun P w => by
        unfold ych
        rw [sn (by omega) (by omega), ypu_n, ea, ypu_a ha]
        split
        · rfl
        · rw [if_neg (by omega)]; split <;> rfl
      rw [f1, f1]
      funext q
      by_cases q1 : q = a
      · subst q1; simp only [yu_s]; exact i_c0 _ _
      · simp only [yu_n q1]
theorem d43_0 : decode (zB 43) 0 = .ok (.iload_n 2, 1) := (congrArg (fun c => decode c 0) zeq43).trans (by decide +kernel)
theorem d43_1 : decode (zB 43) 1 = .ok (.aload_n 0, 1) := (congrArg (fun c => decode c 1) zeq43).trans (by decide +kernel)
theorem d43_2 : decode (zB 43) 2 = .ok (.getfield 80, 3) := (congrArg (fun c => decode c 2) zeq43).trans (by decide +kernel)
theorem d43_5 : decode (zB 43) 5 = .ok (.if_icmp .lt 22, 3) := (congrArg (fun c => decode c 5) zeq43).trans (by decide +kernel)
theorem d43_8 : decode (zB 43) 8 = .ok (.aload_n 1, 1) := (congrArg (fun c => decode c 8) zeq43).trans (by decide +kernel)
theorem d43_9 : decode (zB 43) 9 = .ok (.aload_n 0, 1) := (congrArg (fun c => decode c 9) zeq43).trans (by decide +kernel)
theorem d43_10 : decode (zB 43) 10 = .ok (.aload_n 0, 1) := (congrArg (fun c => decode c 10) zeq43).trans (by decide +kernel)
theorem d43_11 : decode (zB 43) 11 = .ok (.iload_n 3, 1) := (congrArg (fun c => decode c 11) zeq43).trans (by decide +kernel)
theorem d43_12 : decode (zB 43) 12 = .ok (.invokevirtual 306, 3) := (congrArg (fun c => decode c 12) zeq43).trans (by decide +kernel)
theorem d43_15 : decode (zB 43) 15 = .ok (.invokevirtual 309, 3) := (congrArg (fun c => decode c 15) zeq43).trans (by decide +kernel)
theorem d43_18 : decode (zB 43) 18 = .ok (.ifCond .eq 7, 3) := (congrArg (fun c => decode c 18) zeq43).trans (by decide +kernel)
theorem d43_21 : decode (zB 43) 21 = .ok (.iconst 1, 1) := (congrArg (fun c => decode c 21) zeq43).trans (by decide +kernel)
theorem d43_22 : decode (zB 43) 22 = .ok (.goto 4, 3) := (congrArg (fun c => decode c 22) zeq43).trans (by decide +kernel)
theorem d43_25 : decode (zB 43) 25 = .ok (.iconst 0, 1) := (congrArg (fun c => decode c 25) zeq43).trans (by decide +kernel)
theorem d43_26 : decode (zB 43) 26 = .ok (.ireturn, 1) := (congrArg (fun c => decode c 26) zeq43).trans (by decide +kernel)
theorem d43_27 : decode (zB 43) 27 = .ok (.aload_n 0, 1) := (congrArg (fun c => decode c 27) zeq43).trans (by decide +kernel)
theorem d43_28 : decode (zB 43) 28 = .ok (.aload_n 1, 1) := (congrArg (fun c => decode c 28) zeq43).trans (by decide +kernel)
theorem d43_29 : decode (zB 43) 29 = .ok (.iload_n 2, 1) := (congrArg (fun c => decode c 29) zeq43).trans (by decide +kernel)
theorem d43_30 : decode (zB 43) 30 = .ok (.iconst 1, 1) := (congrArg (fun c => decode c 30) zeq43).trans (by decide +kernel)
theorem d43_31 : decode (zB 43) 31 = .ok (.iadd, 1) := (congrArg (fun c => decode c 31) zeq43).trans (by decide +kernel)
theorem d43_32 : decode (zB 43) 32 = .ok (.iload_n 3, 1) := (congrArg (fun c => decode c 32) zeq43).trans (by decide +kernel)
theorem d43_33 : decode (zB 43) 33 = .ok (.invokestatic 104, 3) := (congrArg (fun c => decode c 33) zeq43).trans (by decide +kernel)
theorem d43_36 : decode (zB 43) 36 = .ok (.istore 4, 2) := (congrArg (fun c => decode c 36) zeq43).trans (by decide +kernel)
theorem d43_38 : decode (zB 43) 38 = .ok (.aload_n 0, 1) := (congrArg (fun c => decode c 38) zeq43).trans (by decide +kernel)
theorem d43_39 : decode (zB 43) 39 = .ok (.getfield 127, 3) := (congrArg (fun c => decode c 39) zeq43).trans (by decide +kernel)
theorem d43_42 : decode (zB 43) 42 = .ok (.iload_n 2, 1) := (congrArg (fun c => decode c 42) zeq43).trans (by decide +kernel)
theorem d43_43 : decode (zB 43) 43 = .ok (.iaload, 1) := (congrArg (fun c => decode c 43) zeq43).trans (by decide +kernel)
theorem d43_44 : decode (zB 43) 44 = .ok (.istore 5, 2) := (congrArg (fun c => decode c 44) zeq43).trans (by decide +kernel)
theorem d43_46 : decode (zB 43) 46 = .ok (.aload_n 0, 1) := (congrArg (fun c => decode c 46) zeq43).trans (by decide +kernel)
theorem d43_47 : decode (zB 43) 47 = .ok (.getfield 130, 3) := (congrArg (fun c => decode c 47) zeq43).trans (by decide +kernel)
theorem d43_50 : decode (zB 43) 50 = .ok (.iload_n 2, 1) := (congrArg (fun c => decode c 50) zeq43).trans (by decide +kernel)
theorem d43_51 : decode (zB 43) 51 = .ok (.iaload, 1) := (congrArg (fun c => decode c 51) zeq43).trans (by decide +kernel)
theorem d43_52 : decode (zB 43) 52 = .ok (.iload_n 3, 1) := (congrArg (fun c => decode c 52) zeq43).trans (by decide +kernel)
theorem d43_53 : decode (zB 43) 53 = .ok (.iconst (-1), 1) := (congrArg (fun c => decode c 53) zeq43).trans (by decide +kernel)
theorem d43_54 : decode (zB 43) 54 = .ok (.ixor, 1) := (congrArg (fun c => decode c 54) zeq43).trans (by decide +kernel)
theorem d43_55 : decode (zB 43) 55 = .ok (.iand, 1) := (congrArg (fun c => decode c 55) zeq43).trans (by decide +kernel)
theorem d43_56 : decode (zB 43) 56 = .ok (.ifCond .ne 7, 3) := (congrArg (fun c => decode c 56) zeq43).trans (by decide +kernel)
theorem d43_59 : decode (zB 43) 59 = .ok (.iconst 1, 1) := (congrArg (fun c => decode c 59) zeq43).trans (by decide +kernel)
theorem d43_60 : decode (zB 43) 60 = .ok (.goto 4, 3) := (congrArg (fun c => decode c 60) zeq43).trans (by decide +kernel)
theorem d43_63 : decode (zB 43) 63 = .ok (.iconst 0, 1) := (congrArg (fun c => decode c 63) zeq43).trans (by decide +kernel)
theorem d43_64 : decode (zB 43) 64 = .ok (.istore 6, 2) := (congrArg (fun c => decode c 64) zeq43).trans (by decide +kernel)
theorem d43_66 : decode (zB 43) 66 = .ok (.iload 6, 2) := (congrArg (fun c => decode c 66) zeq43).trans (by decide +kernel)
theorem d43_68 : decode (zB 43) 68 = .ok (.ifCond .eq 51, 3) := (congrArg (fun c => decode c 68) zeq43).trans (by decide +kernel)
theorem d43_71 : decode (zB 43) 71 = .ok (.aload_n 1, 1) := (congrArg (fun c => decode c 71) zeq43).trans (by decide +kernel)
theorem d43_72 : decode (zB 43) 72 = .ok (.aload_n 0, 1) := (congrArg (fun c => decode c 72) zeq43).trans (by decide +kernel)
theorem d43_73 : decode (zB 43) 73 = .ok (.iload_n 2, 1) := (congrArg (fun c => decode c 73) zeq43).trans (by decide +kernel)
theorem d43_74 : decode (zB 43) 74 = .ok (.iload 5, 2) := (congrArg (fun c => decode c 74) zeq43).trans (by decide +kernel)
theorem d43_76 : decode (zB 43) 76 = .ok (.iconst 1, 1) := (congrArg (fun c => decode c 76) zeq43).trans (by decide +kernel)
theorem d43_77 : decode (zB 43) 77 = .ok (.invokevirtual 313, 3) := (congrArg (fun c => decode c 77) zeq43).trans (by decide +kernel)
theorem d43_80 : decode (zB 43) 80 = .ok (.ifCond .ne 39, 3) := (congrArg (fun c => decode c 80) zeq43).trans (by decide +kernel)
theorem d43_83 : decode (zB 43) 83 = .ok (.aload_n 1, 1) := (congrArg (fun c => decode c 83) zeq43).trans (by decide +kernel)
theorem d43_84 : decode (zB 43) 84 = .ok (.aload_n 0, 1) := (congrArg (fun c => decode c 84) zeq43).trans (by decide +kernel)
theorem d43_85 : decode (zB 43) 85 = .ok (.iload_n 2, 1) := (congrArg (fun c => decode c 85) zeq43).trans (by decide +kernel)
theorem d43_86 : decode (zB 43) 86 = .ok (.iload 5, 2) := (congrArg (fun c => decode c 86) zeq43).trans (by decide +kernel)
theorem d43_88 : decode (zB 43) 88 = .ok (.iconst 1, 1) := (congrArg (fun c => decode c 88) zeq43).trans (by decide +kernel)
theorem d43_89 : decode (zB 43) 89 = .ok (.invokevirtual 317, 3) := (congrArg (fun c => decode c 89) zeq43).trans (by decide +kernel)
theorem d43_92 : decode (zB 43) 92 = .ok (.iload 4, 2) := (congrArg (fun c => decode c 92) zeq43).trans (by decide +kernel)
theorem d43_94 : decode (zB 43) 94 = .ok (.aload_n 0, 1) := (congrArg (fun c => decode c 94) zeq43).trans (by decide +kernel)
theorem d43_95 : decode (zB 43) 95 = .ok (.aload_n 1, 1) := (congrArg (fun c => decode c 95) zeq43).trans (by decide +kernel)
theorem d43_96 : decode (zB 43) 96 = .ok (.iload_n 2, 1) := (congrArg (fun c => decode c 96) zeq43).trans (by decide +kernel)
theorem d43_97 : decode (zB 43) 97 = .ok (.iconst 1, 1) := (congrArg (fun c => decode c 97) zeq43).trans (by decide +kernel)
theorem d43_98 : decode (zB 43) 98 = .ok (.iadd, 1) := (congrArg (fun c => decode c 98) zeq43).trans (by decide +kernel)
theorem d43_99 : decode (zB 43) 99 = .ok (.iload_n 3, 1) := (congrArg (fun c => decode c 99) zeq43).trans (by decide +kernel)
theorem d43_100 : decode (zB 43) 100 = .ok (.iconst 1, 1) := (congrArg (fun c => decode c 100) zeq43).trans (by decide +kernel)
theorem d43_101 : decode (zB 43) 101 = .ok (.iload_n 2, 1) := (congrArg (fun c => decode c 101) zeq43).trans (by decide +kernel)
theorem d43_102 : decode (zB 43) 102 = .ok (.ishl, 1) := (congrArg (fun c => decode c 102) zeq43).trans (by decide +kernel)
theorem d43_103 : decode (zB 43) 103 = .ok (.ior, 1) := (congrArg (fun c => decode c 103) zeq43).trans (by decide +kernel)
theorem d43_104 : decode (zB 43) 104 = .ok (.invokestatic 104, 3) := (congrArg (fun c => decode c 104) zeq43).trans (by decide +kernel)
theorem d43_107 : decode (zB 43) 107 = .ok (.iadd, 1) := (congrArg (fun c => decode c 107) zeq43).trans (by decide +kernel)
theorem d43_108 : decode (zB 43) 108 = .ok (.istore 4, 2) := (congrArg (fun c => decode c 108) zeq43).trans (by decide +kernel)
theorem d43_110 : decode (zB 43) 110 = .ok (.aload_n 1, 1) := (congrArg (fun c => decode c 110) zeq43).trans (by decide +kernel)
theorem d43_111 : decode (zB 43) 111 = .ok (.aload_n 0, 1) := (congrArg (fun c => decode c 111) zeq43).trans (by decide +kernel)
theorem d43_112 : decode (zB 43) 112 = .ok (.iload_n 2, 1) := (congrArg (fun c => decode c 112) zeq43).trans (by decide +kernel)
theorem d43_113 : decode (zB 43) 113 = .ok (.iload 5, 2) := (congrArg (fun c => decode c 113) zeq43).trans (by decide +kernel)
theorem d43_115 : decode (zB 43) 115 = .ok (.iconst (-1), 1) := (congrArg (fun c => decode c 115) zeq43).trans (by decide +kernel)
theorem d43_116 : decode (zB 43) 116 = .ok (.invokevirtual 317, 3) := (congrArg (fun c => decode c 116) zeq43).trans (by decide +kernel)
theorem d43_119 : decode (zB 43) 119 = .ok (.iload 4, 2) := (congrArg (fun c => decode c 119) zeq43).trans (by decide +kernel)
theorem d43_121 : decode (zB 43) 121 = .ok (.ireturn, 1) := (congrArg (fun c => decode c 121) zeq43).trans (by decide +kernel)
theorem c43 {d u a : Nat} {T : yT} (ho : OKT T) (hau : a + 7 ≤ u) : ∀ (r s set : Nat) (P : yP) (M : zM) {Q : Option Value → zM → Prop}, s + r = tn T → set < 4096 → SPu M u → RPu M u P → SPr M a → RP M a T → (∀ M' P', P'.1 = P.1 → RPu M' u P' → Fi (FU u) M M' → Q (some (.int (nI (yrk T r s set P.1)))) M') → qC (d + r + 4) 43 [.ref a, .ref u, .int (nI s), .int (nI set)] M Q := by
  have hn := ho.n
  intro r
  induction r with
  | zero =>
    intro s set P M Q hs hset hu hP hp hr k
    refine qC_of (by decide) (Nat.le_of_ble_eq_true rfl) ?_
    refine q_iload_n d43_0 rfl ?_
    refine q_aload_n d43_1 rfl ?_
    refine q_getv (c := 1) (f := 6) d43_2 ⟨rfl, by decide⟩ hp.1 hr.1 ?_
    refine nc_lt 27 d43_5 (by decide) (by omega) (by omega) (fun h5 => (False.elim (by omega))) (fun h5 => ?_)
    refine q_aload_n d43_8 rfl ?_
    refine q_aload_n d43_9 rfl ?_
    refine q_aload_n d43_10 rfl ?_
    refine q_iload_n d43_11 rfl ?_
    refine q_v1 d43_12 rfl rfl hp.1 (Nat.le_of_ble_eq_true rfl) (c44 hp hr ho hset ?_)
    refine q_v2 d43_15 rfl rfl hu.1 (Nat.le_of_ble_eq_true rfl) (c45 hu hP hp hr ho (ymk_lt12 _ hn) ?_)
    refine b0_eq 25 d43_18 (by decide) (fun h18 => ?_) (fun h18 => ?_)
    · refine q_iconstN (z := 0) d43_25 ?_
      refine q_iret d43_26 rfl ?_
      first
      | exact nK (k _ P rfl hP (Fi.refl _ _)) (by rw [yrk, if_pos (show ybl T (P.1, 0, 0) (ynx T set) = true from h18)])
      | exact nK (k _ P rfl hP (Fi.refl _ _)) (by rw [yrk, if_neg (show ¬ ybl T (P.1, 0, 0) (ynx T set) = true by rw [show ybl T (P.1, 0, 0) (ynx T set) = false from h18]; decide)])
    · refine q_iconstN (z := 1) d43_21 ?_
      refine q_goto 26 d43_22 (by decide) ?_
      refine q_iret d43_26 rfl ?_
      first
      | exact nK (k _ P rfl hP (Fi.refl _ _)) (by rw [yrk, if_pos (show ybl T (P.1, 0, 0) (ynx T set) = true from h18)])
      | exact nK (k _ P rfl hP (Fi.refl _ _)) (by rw [yrk, if_neg (show ¬ ybl T (P.1, 0, 0) (ynx T set) = true by rw [show ybl T (P.1, 0, 0) (ynx T set) = false from h18]; decide)])
  | succ r ih =>
    intro s set P M Q hs hset hu hP hp hr k
    have hi : s < tn T := by omega
    refine qC_of (d := d + r + 4) (by decide) (Nat.le_of_ble_eq_true rfl) ?_
    refine q_iload_n d43_0 rfl ?_
    refine q_aload_n d43_1 rfl ?_
    refine q_getv (c := 1) (f := 6) d43_2 ⟨rfl, by decide⟩ hp.1 hr.1 ?_
    refine nc_lt 27 d43_5 (by decide) (by omega) (by omega) (fun h5 => ?_) (fun h5 => (False.elim (by omega)))
    refine q_aload_n d43_27 rfl ?_
    refine q_aload_n d43_28 rfl ?_
    refine q_iload_n d43_29 rfl ?_
    refine q_iconstN (z := 1) d43_30 ?_
    refine n_iadd d43_31 ?_
    refine q_iload_n d43_32 rfl ?_
    refine q_s4 d43_33 (Or.inl rfl) rfl (Nat.le_of_ble_eq_true rfl) (ih (s + 1) set P _ (by omega) hset hu hP hp hr (fun M1 P1 e1 hP1 f1 => ?_))
    have hu1 := SPu_fi hu f1
    have hp1 := SPr_fi hp f1
    have hr1 := RP_fr hr f1.fr (FU_x hau)
    refine q_istore d43_36 (by decide) rfl ?_
    refine q_aload_n d43_38 rfl ?_
    refine q_getr (c := 1) (f := 3) d43_39 ⟨rfl, rfl⟩ hp1.1 (hp1.2 3 (by decide)).1 ?_
    refine q_iload_n d43_42 rfl ?_
    refine n_iald d43_43 (hp1.2 3 (by decide)).2 (by omega) (by decide) (hr1.2.2 _ (by omega)).2.2.2.1 ?_
    refine q_istore d43_44 (by decide) rfl ?_
    have hza := zdf_12 (b := set) (ho.a hi)
    refine q_aload_n d43_46 rfl ?_
    refine q_getr (c := 1) (f := 4) d43_47 ⟨rfl, rfl⟩ hp1.1 (hp1.2 4 (by decide)).1 ?_
    refine q_iload_n d43_50 rfl ?_
    refine n_iald d43_51 (hp1.2 4 (by decide)).2 (by omega) (by decide) (hr1.2.2 _ (by omega)).2.2.2.2 ?_
    refine q_iload_n d43_52 rfl ?_
    refine q_iconst (x := (-1)) d43_53 rfl ?_
    refine q_ixor d43_54 ?_
    refine n_iandn d43_55 ?_
    refine n0_ne 63 d43_56 (by decide) (by omega) (fun h56 => ?_) (fun h56 => ?_)
    · refine q_iconstN (z := 0) d43_63 ?_
      refine q_istore d43_64 (by decide) rfl ?_
      refine q_iload d43_66 rfl ?_
      refine n0_eq 119 d43_68 (by decide) (by decide) (fun _ => ?_) (fun q => absurd q (by decide))
      refine q_iload d43_119 rfl ?_
      refine q_iret d43_121 rfl ?_
      first
      | (refine nK (k _ _ ?_ hP4 (((f1.trans f2).trans f3).trans f4)) ?_
         · exact ((ych_1 e3).trans (ych_inv ho hi)).trans e1
         · rw [yrk, if_pos ⟨h56, (yob_1 (P := (P.1, 0, 0)) (P' := P1) e1.symm).trans h80⟩, ych_1 (P := P1) (P' := (P.1, 0, 0)) e1])
      | exact nK (k _ P1 e1 hP1 f1) (by rw [yrk, if_neg (fun q => h80 ((yob_1 (P := P1) (P' := (P.1, 0, 0)) e1).trans q.2))])
      | exact nK (k _ P1 e1 hP1 f1) (by rw [yrk, if_neg (fun q => h56 q.1)])
    · refine q_iconstN (z := 1) d43_59 ?_
      refine q_goto 64 d43_60 (by decide) ?_
      refine q_istore d43_64 (by decide) rfl ?_
      refine q_iload d43_66 rfl ?_
      refine n0_eq 119 d43_68 (by decide) (by decide) (fun q => absurd q (by decide)) (fun _ => ?_)
      refine q_aload_n d43_71 rfl ?_
      refine q_aload_n d43_72 rfl ?_
      refine q_iload_n d43_73 rfl ?_
      refine q_iload d43_74 rfl ?_
      refine q_iconstN (z := 1) d43_76 ?_
      refine q_v4 d43_77 rfl rfl hu1.1 (Nat.le_of_ble_eq_true rfl) (c46 (w := 1) hu1 hP1 hp1 hr1 ho hi ?_)
      refine i0_ne 119 d43_80 (by decide) (fun h80 => ?_) (fun h80 => ?_)
      · refine q_iload d43_119 rfl ?_
        refine q_iret d43_121 rfl ?_
        first
        | (refine nK (k _ _ ?_ hP4 (((f1.trans f2).trans f3).trans f4)) ?_
           · exact ((ych_1 e3).trans (ych_inv ho hi)).trans e1
           · rw [yrk, if_pos ⟨h56, (yob_1 (P := (P.1, 0, 0)) (P' := P1) e1.symm).trans h80⟩, ych_1 (P := P1) (P' := (P.1, 0, 0)) e1])
        | exact nK (k _ P1 e1 hP1 f1) (by rw [yrk, if_neg (fun q => h80 ((yob_1 (P := P1) (P' := (P.1, 0, 0)) e1).trans q.2))])
        | exact nK (k _ P1 e1 hP1 f1) (by rw [yrk, if_neg (fun q => h56 q.1)])
      · refine q_aload_n d43_83 rfl ?_
        refine q_aload_n d43_84 rfl ?_
        refine q_iload_n d43_85 rfl ?_
        refine q_iload d43_86 rfl ?_
        refine q_iconstN (z := 1) d43_88 ?_
        refine q_v4 d43_89 rfl rfl hu1.1 (Nat.le_of_ble_eq_true rfl) (c51 (w := 1) hu1 hP1 hp1 hr1 ho hi hau (fun M2 hP2 f2 => ?_))
        have hu2 := SPu_fi hu1 f2
        have hp2 := SPr_fi hp1 f2
        have hr2 := RP_fr hr1 f2.fr (FU_x hau)
        refine q_iload d43_92 rfl ?_
        refine q_aload_n d43_94 rfl ?_
        refine q_aload_n d43_95 rfl ?_
        refine q_iload_n d43_96 rfl ?_
        refine q_iconstN (z := 1) d43_97 ?_
        refine n_iadd d43_98 ?_
        refine q_iload_n d43_99 rfl ?_
        refine q_iconstN (z := 1) d43_100 ?_
        refine q_iload_n d43_101 rfl ?_
        refine n_ishl1 d43_102 (by omega) ?_
        refine n_ior d43_103 ?_
        refine q_s4 d43_104 (Or.inl rfl) rfl (Nat.le_of_ble_eq_true rfl) (ih (s + 1) (set ||| 2 ^ s) _ _ (by omega) (or_lt (n := 12) hset (pow_lt (by omega))) hu2 hP2 hp2 hr2 (fun M3 P3 e3 hP3 f3 => ?_))
        have hu3 := SPu_fi hu2 f3
        have hp3 := SPr_fi hp2 f3
        have hr3 := RP_fr hr2 f3.fr (FU_x hau)
        refine n_iadd d43_107 ?_
        refine q_istore d43_108 (by decide) rfl ?_
        refine q_aload_n d43_110 rfl ?_
        refine q_aload_n d43_111 rfl ?_
        refine q_iload_n d43_112 rfl ?_
        refine q_iload d43_113 rfl ?_
        refine q_iconst (x := (-1)) d43_115 rfl ?_
        refine q_v4 d43_116 rfl rfl hu3.1 (Nat.le_of_ble_eq_true rfl) (c51 hu3 hP3 hp3 hr3 ho hi hau (fun M4 hP4 f4 => ?_))
        refine q_iload d43_119 rfl ?_
        refine q_iret d43_121 rfl ?_
        first
        | (refine nK (k _ _ ?_ hP4 (((f1.trans f2).trans f3).trans f4)) ?_
           · exact ((ych_1 e3).trans (ych_inv ho hi)).trans e1
           · rw [yrk, if_pos ⟨h56, (yob_1 (P := (P.1, 0, 0)) (P' := P1) e1.symm).trans h80⟩, ych_1 (P := P1) (P' := (P.1, 0, 0)) e1])
        | exact nK (k _ P1 e1 hP1 f1) (by rw [yrk, if_neg (fun q => h80 ((yob_1 (P := P1) (P' := (P.1, 0, 0)) e1).trans q.2))])
        | exact nK (k _ P1 e1 hP1 f1) (by rw [yrk, if_neg (fun q => h56 q.1)])
/-! ===== contracts: ORDERS ===== -/
/-- ORDERS: sums of ways -/
def ysm (f : Nat → Int64) : Nat → Int64
  | 0 => 0
  | n + 1 => ysm f n + f n
theorem ysm_ext {f g : Nat → Int64} : ∀ {n : Nat}, (∀ i, i < n → f i = g i) → ysm f n = ysm g n
  | 0, _ => rfl
  | n + 1, h => by rw [ysm, ysm, ysm_ext (fun i hi => h i (by omega)), h n (by omega)]
theorem ysm_add {f g : Nat → Int64} {v : Int64} {j : Nat} : ∀ {n : Nat}, j < n → g j = f j + v → (∀ i, i < n → i ≠ j → g i = f i) → ysm g n = ysm f n + v
  | 0, h, _, _ => absurd h (Nat.not_lt_zero _)
  | n + 1, h, hj, ho => by
    rw [ysm, ysm]
    by_cases e : j = n
    · subst e
      rw [ysm_ext (fun i hi => ho i (by omega) (by omega)), hj, Int64.add_assoc]
    · rw [ysm_add (v := v) (by omega) hj (fun i hi he => ho i (by omega) he), ho n (by omega) (by omega), Int64.add_assoc, Int64.add_comm v, ← Int64.add_assoc]
theorem ysm_0 {f : Nat → Int64} : ∀ {n : Nat}, (∀ i, i < n → f i = 0) → ysm f n = 0
  | 0, _ => rfl
  | n + 1, h => by rw [ysm, ysm_0 (fun i hi => h i (by omega)), h n (by omega)]; rfl
def ytm (T : yT) (t i : Nat) : Bool := t.testBit i && zdf (ta T i) (zdf t (2 ^ i)) == 0
def yov (T : yT) (c : Nat → Int64) (t : Nat) : Int64 := if t = 0 then 1 else ysm (fun i => if ytm T t i then c (zdf t (2 ^ i)) else 0) (tn T)
def ygs (T : yT) : Nat → Nat → Int64
  | 0 => fun _ => 0
  | t + 1 => yu (ygs T t) t (yov T (ygs T t) t)
/-- in how many ways a set comes -/
def yg (T : yT) (t : Nat) : Int64 := yov T (ygs T t) t
theorem ygs_v {T : yT} : ∀ {S x : Nat}, x < S → ygs T S x = yg T x
  | 0, _, h => absurd h (Nat.not_lt_zero _)
  | S + 1, x, h => by
    show yu (ygs T S) S (yov T (ygs T S) S) x = _
    by_cases e : x = S
    · subst e; rw [yu_s]; rfl
    · rw [yu_n e]; exact ygs_v (by omega)
theorem bit_lt {t i : Nat} (h : t.testBit i = true) : zdf t (2 ^ i) < t := by
  have h1 : zdf t (2 ^ i) ≠ t := fun e => by
    have := bit_df t i i
    rw [e, h] at this; simp at this
  have h2 : zdf t (2 ^ i) ≤ t := by
    have : zdf t (2 ^ i) = t &&& zdf t (2 ^ i) := by
      apply Nat.eq_of_testBit_eq
      intro k
      rw [Nat.testBit_and, bit_df]; cases t.testBit k <;> rfl
    rw [this]; exact Nat.and_le_left
  omega
theorem ytm_b {T : yT} {t i : Nat} (h : ytm T t i = true) : t.testBit i = true := by unfold ytm at h; simp only [Bool.and_eq_true] at h; exact h.1
theorem yg_eq (T : yT) (t : Nat) : yg T t = if t = 0 then 1 else ysm (fun i => if ytm T t i then yg T (zdf t (2 ^ i)) else 0) (tn T) := by
  unfold yg yov
  split
  · rfl
  · refine ysm_ext (fun i hi => ?_)
    by_cases h : ytm T t i = true
    · rw [if_pos h, if_pos h]; exact ygs_v (bit_lt (ytm_b h))
    · rw [if_neg h, if_neg h]
/-- what is told when the sets below S are through, of S the steps below j -/
def ypw (T : yT) (S j t : Nat) : Int64 := if t = 0 then 1 else ysm (fun i => if ytm T t i && (decide (zdf t (2 ^ i) < S) || (zdf t (2 ^ i) == S && decide (i < j))) then yg T (zdf t (2 ^ i)) else 0) (tn T)
theorem ypw_v {T : yT} {S j t : Nat} (h : t ≤ S) : ypw T S j t = yg T t := by
  rw [yg_eq]
  unfold ypw
  split
  · rfl
  · refine ysm_ext (fun i hi => ?_)
    by_cases e : ytm T t i = true
    · have := bit_lt (ytm_b e)
      rw [if_pos e, if_pos (by rw [e, decide_eq_true (show zdf t (2 ^ i) < S by omega)]; rfl)]
    · rw [if_neg e, if_neg (by simp [e])]
theorem ypw_n {T : yT} {S t : Nat} : ypw T S (tn T) t = ypw T (S + 1) 0 t := by
  unfold ypw
  split
  · rfl
  · refine ysm_ext (fun i hi => ?_)
    have : (decide (zdf t (2 ^ i) < S) || (zdf t (2 ^ i) == S && decide (i < tn T))) = (decide (zdf t (2 ^ i) < S + 1) || (zdf t (2 ^ i) == S + 1 && decide (i < 0))) := by
      rw [decide_eq_true hi, Bool.and_true, decide_eq_false (Nat.not_lt_zero i), Bool.and_false, Bool.or_false]
      rcases Nat.lt_trichotomy (zdf t (2 ^ i)) S with q | q | q
      · rw [decide_eq_true q, decide_eq_true (by omega)]; rfl
      · rw [q]; simp
      · rw [decide_eq_false (by omega), decide_eq_false (by omega), beq_false_of_ne (by omega)]; rfl
    rw [this]
theorem ypw_0 {T : yT} {t : Nat} : ypw T 0 0 t = if t = 0 then 1 else 0 := by
  unfold ypw
  split
  · rfl
  · refine ysm_0 (fun i hi => ?_)
    rw [if_neg]
    rw [decide_eq_false (Nat.not_lt_zero _), decide_eq_false (Nat.not_lt_zero _), Bool.and_false, Bool.or_false, Bool.and_false]; decide
theorem or_df {S j : Nat} (h : S.testBit j = false) : zdf (S ||| 2 ^ j) (2 ^ j) = S := by
  apply Nat.eq_of_testBit_eq
  intro k
  rw [bit_df, bit_or]
  by_cases e : k = j
  · subst e; rw [h]; simp
  · simp [e]
theorem df_or {t j : Nat} (h : t.testBit j = true) : zdf t (2 ^ j) ||| 2 ^ j = t := by
  apply Nat.eq_of_testBit_eq
  intro k
  rw [bit_or, bit_df]
  by_cases e : k = j
  · subst e; rw [h]; simp
  · simp [e]
theorem ynx_b {T : yT} {S j : Nat} : (ynx T S).testBit j = (decide (j < tn T) && (!S.testBit j && zdf (ta T j) S == 0)) := ymk_bit _ _ _
theorem ypw_t {T : yT} {S j : Nat} (hj : j < tn T) (h : (ynx T S).testBit j = true) : ypw T S (j + 1) (S ||| 2 ^ j) = ypw T S j (S ||| 2 ^ j) + yg T S := by
  rw [ynx_b, decide_eq_true hj, Bool.true_and, Bool.and_eq_true, Bool.not_eq_true'] at h
  have hd := or_df h.1
  have hb : (S ||| 2 ^ j).testBit j = true := by rw [bit_or]; simp
  have h0 : S ||| 2 ^ j ≠ 0 := fun e => by rw [e, Nat.zero_testBit] at hb; cases hb
  have hm : ytm T (S ||| 2 ^ j) j = true := by unfold ytm; rw [hd, hb, h.2]; rfl
  unfold ypw
  rw [if_neg h0, if_neg h0]
  refine ysm_add hj ?_ (fun i hi he => ?_)
  · simp only [hd, hm]
    rw [if_pos (by simp), if_neg (by simp)]; exact (Int64.zero_add _).symm
  · have : decide (i < j + 1) = decide (i < j) := by simp only [decide_eq_decide]; omega
    simp only [this]
theorem ypw_f {T : yT} {S j t : Nat} (hj : j < tn T) (h : (ynx T S).testBit j = true → yg T S = 0 ∨ t ≠ S ||| 2 ^ j) : ypw T S (j + 1) t = ypw T S j t := by
  unfold ypw
  split
  · rfl
  · refine ysm_ext (fun i hi => ?_)
    by_cases e : i = j
    · subst e
      by_cases hm : ytm T t i = true
      · by_cases hx : zdf t (2 ^ i) = S
        · have hb := ytm_b hm
          have ht : t = S ||| 2 ^ i := by rw [← hx, df_or hb]
          have hn : (ynx T S).testBit i = true := by
            rw [ynx_b, decide_eq_true hi]
            unfold ytm at hm
            rw [hx, hb] at hm
            have : S.testBit i = false := by rw [← hx, bit_df]; simp
            rw [this]; exact hm
          rcases h hn with q | q
          · rw [hx, q]; split <;> split <;> rfl
          · exact absurd ht q
        · rw [show (zdf t (2 ^ i) == S) = false from beq_false_of_ne hx]; simp
      · rw [show ytm T t i = false by simpa using hm]; simp
    · have : decide (i < j + 1) = decide (i < j) := by simp only [decide_eq_decide]; omega
      rw [this]
/-- only the row of longs b is written -/
def Fl (b : Nat) (M M' : zM) : Prop := M'.1 = M.1 ∧ M'.2.1 = M.2.1 ∧ M'.2.2.2 = M.2.2.2 ∧ ∀ c, c ≠ b → ∀ j, zl M' c j = zl M c j
theorem Fl.refl (b : Nat) (M : zM) : Fl b M M := ⟨rfl, rfl, rfl, fun _ _ _ => rfl⟩
theorem Fl.wl {b j : Nat} {M M' : zM} {v : Int64} (h : Fl b M M') : Fl b M (zwl M' b j v) := ⟨h.1, h.2.1, h.2.2.1, fun c hc q => by rw [wl_eq, if_neg (fun e => hc e.1)]; exact h.2.2.2 c hc q⟩
theorem Fl.i {b : Nat} {M M' : zM} (h : Fl b M M') (a k : Nat) : zi M' a k = zi M a k := congrFun (congrFun h.1 a) k
theorem Fl.r {b : Nat} {M M' : zM} (h : Fl b M M') (a k : Nat) : zr M' a k = zr M a k := congrFun (congrFun h.2.1 a) k
theorem Fl.k {b : Nat} {M M' : zM} (h : Fl b M M') (a : Nat) : zk M' a = zk M a := congrFun (congrArg (fun q => q.1) h.2.2.1) a
theorem SPr_fl {b : Nat} {M M' : zM} {a : Nat} (h : SPr M a) (f : Fl b M M') : SPr M' a := ⟨(f.k _).trans h.1, fun g hg => ⟨(f.r _ _).trans (h.2 g hg).1, (f.k _).trans (h.2 g hg).2⟩⟩
theorem RP_fl {b : Nat} {M M' : zM} {a : Nat} {T : yT} (h : RP M a T) (f : Fl b M M') : RP M' a T := ⟨(f.i _ _).trans h.1, (f.i _ _).trans h.2.1, fun k hk => ⟨(f.i _ _).trans (h.2.2 k hk).1, (f.i _ _).trans (h.2.2 k hk).2.1, (f.i _ _).trans (h.2.2 k hk).2.2.1, (f.i _ _).trans (h.2.2 k hk).2.2.2.1, (f.i _ _).trans (h.2.2 k hk).2.2.2.2⟩⟩
theorem wl_s {M : zM} {a k : Nat} {v : Int64} : zl (zwl M a k v) a k = v := by rw [wl_eq, if_pos ⟨rfl, rfl⟩]
theorem wl_n {M : zM} {a k b j : Nat} {v : Int64} (h : b ≠ a ∨ j ≠ k) : zl (zwl M a k v) b j = zl M b j := by rw [wl_eq, if_neg (by omega)]
theorem d55_0 : decode (zB 55) 0 = .ok (.aload_n 0, 1) := (congrArg (fun c => decode c 0) zeq55).trans (by decide +kernel)
theorem d55_1 : decode (zB 55) 1 = .ok (.invokevirtual 41, 3) := (congrArg (fun c => decode c 1) zeq55).trans (by decide +kernel)
theorem d55_4 : decode (zB 55) 4 = .ok (.istore_n 2, 1) := (congrArg (fun c => decode c 4) zeq55).trans (by decide +kernel)
theorem d55_5 : decode (zB 55) 5 = .ok (.aload_n 1, 1) := (congrArg (fun c => decode c 5) zeq55).trans (by decide +kernel)
theorem d55_6 : decode (zB 55) 6 = .ok (.arraylength, 1) := (congrArg (fun c => decode c 6) zeq55).trans (by decide +kernel)
theorem d55_7 : decode (zB 55) 7 = .ok (.iload_n 2, 1) := (congrArg (fun c => decode c 7) zeq55).trans (by decide +kernel)
theorem d55_8 : decode (zB 55) 8 = .ok (.if_icmp .gt 5, 3) := (congrArg (fun c => decode c 8) zeq55).trans (by decide +kernel)
theorem d55_11 : decode (zB 55) 11 = .ok (.lconst 0, 1) := (congrArg (fun c => decode c 11) zeq55).trans (by decide +kernel)
theorem d55_12 : decode (zB 55) 12 = .ok (.lreturn, 1) := (congrArg (fun c => decode c 12) zeq55).trans (by decide +kernel)
theorem d55_13 : decode (zB 55) 13 = .ok (.iconst 1, 1) := (congrArg (fun c => decode c 13) zeq55).trans (by decide +kernel)
theorem d55_14 : decode (zB 55) 14 = .ok (.istore_n 3, 1) := (congrArg (fun c => decode c 14) zeq55).trans (by decide +kernel)
theorem d55_15 : decode (zB 55) 15 = .ok (.iload_n 3, 1) := (congrArg (fun c => decode c 15) zeq55).trans (by decide +kernel)
theorem d55_16 : decode (zB 55) 16 = .ok (.iload_n 2, 1) := (congrArg (fun c => decode c 16) zeq55).trans (by decide +kernel)
theorem d55_17 : decode (zB 55) 17 = .ok (.if_icmp .gt 13, 3) := (congrArg (fun c => decode c 17) zeq55).trans (by decide +kernel)
theorem d55_20 : decode (zB 55) 20 = .ok (.aload_n 1, 1) := (congrArg (fun c => decode c 20) zeq55).trans (by decide +kernel)
theorem d55_21 : decode (zB 55) 21 = .ok (.iload_n 3, 1) := (congrArg (fun c => decode c 21) zeq55).trans (by decide +kernel)
theorem d55_22 : decode (zB 55) 22 = .ok (.lconst 0, 1) := (congrArg (fun c => decode c 22) zeq55).trans (by decide +kernel)
theorem d55_23 : decode (zB 55) 23 = .ok (.lastore, 1) := (congrArg (fun c => decode c 23) zeq55).trans (by decide +kernel)
theorem d55_24 : decode (zB 55) 24 = .ok (.iinc 3 1, 3) := (congrArg (fun c => decode c 24) zeq55).trans (by decide +kernel)
theorem d55_27 : decode (zB 55) 27 = .ok (.goto (-12), 3) := (congrArg (fun c => decode c 27) zeq55).trans (by decide +kernel)
theorem d55_30 : decode (zB 55) 30 = .ok (.aload_n 1, 1) := (congrArg (fun c => decode c 30) zeq55).trans (by decide +kernel)
theorem d55_31 : decode (zB 55) 31 = .ok (.iconst 0, 1) := (congrArg (fun c => decode c 31) zeq55).trans (by decide +kernel)
theorem d55_32 : decode (zB 55) 32 = .ok (.lconst 1, 1) := (congrArg (fun c => decode c 32) zeq55).trans (by decide +kernel)
theorem d55_33 : decode (zB 55) 33 = .ok (.lastore, 1) := (congrArg (fun c => decode c 33) zeq55).trans (by decide +kernel)
theorem d55_34 : decode (zB 55) 34 = .ok (.iconst 0, 1) := (congrArg (fun c => decode c 34) zeq55).trans (by decide +kernel)
theorem d55_35 : decode (zB 55) 35 = .ok (.istore_n 3, 1) := (congrArg (fun c => decode c 35) zeq55).trans (by decide +kernel)
theorem d55_36 : decode (zB 55) 36 = .ok (.iload_n 3, 1) := (congrArg (fun c => decode c 36) zeq55).trans (by decide +kernel)
theorem d55_37 : decode (zB 55) 37 = .ok (.iload_n 2, 1) := (congrArg (fun c => decode c 37) zeq55).trans (by decide +kernel)
theorem d55_38 : decode (zB 55) 38 = .ok (.if_icmp .ge 70, 3) := (congrArg (fun c => decode c 38) zeq55).trans (by decide +kernel)
theorem d55_41 : decode (zB 55) 41 = .ok (.aload_n 1, 1) := (congrArg (fun c => decode c 41) zeq55).trans (by decide +kernel)
theorem d55_42 : decode (zB 55) 42 = .ok (.iload_n 3, 1) := (congrArg (fun c => decode c 42) zeq55).trans (by decide +kernel)
theorem d55_43 : decode (zB 55) 43 = .ok (.laload, 1) := (congrArg (fun c => decode c 43) zeq55).trans (by decide +kernel)
theorem d55_44 : decode (zB 55) 44 = .ok (.lconst 0, 1) := (congrArg (fun c => decode c 44) zeq55).trans (by decide +kernel)
theorem d55_45 : decode (zB 55) 45 = .ok (.lcmp, 1) := (congrArg (fun c => decode c 45) zeq55).trans (by decide +kernel)
theorem d55_46 : decode (zB 55) 46 = .ok (.ifCond .ne 7, 3) := (congrArg (fun c => decode c 46) zeq55).trans (by decide +kernel)
theorem d55_49 : decode (zB 55) 49 = .ok (.iconst 0, 1) := (congrArg (fun c => decode c 49) zeq55).trans (by decide +kernel)
theorem d55_50 : decode (zB 55) 50 = .ok (.goto 8, 3) := (congrArg (fun c => decode c 50) zeq55).trans (by decide +kernel)
theorem d55_53 : decode (zB 55) 53 = .ok (.aload_n 0, 1) := (congrArg (fun c => decode c 53) zeq55).trans (by decide +kernel)
theorem d55_54 : decode (zB 55) 54 = .ok (.iload_n 3, 1) := (congrArg (fun c => decode c 54) zeq55).trans (by decide +kernel)
theorem d55_55 : decode (zB 55) 55 = .ok (.invokevirtual 66, 3) := (congrArg (fun c => decode c 55) zeq55).trans (by decide +kernel)
theorem d55_58 : decode (zB 55) 58 = .ok (.istore 4, 2) := (congrArg (fun c => decode c 58) zeq55).trans (by decide +kernel)
theorem d55_60 : decode (zB 55) 60 = .ok (.iconst 0, 1) := (congrArg (fun c => decode c 60) zeq55).trans (by decide +kernel)
theorem d55_61 : decode (zB 55) 61 = .ok (.istore 5, 2) := (congrArg (fun c => decode c 61) zeq55).trans (by decide +kernel)
theorem d55_63 : decode (zB 55) 63 = .ok (.iload 5, 2) := (congrArg (fun c => decode c 63) zeq55).trans (by decide +kernel)
theorem d55_65 : decode (zB 55) 65 = .ok (.aload_n 0, 1) := (congrArg (fun c => decode c 65) zeq55).trans (by decide +kernel)
theorem d55_66 : decode (zB 55) 66 = .ok (.getfield 34, 3) := (congrArg (fun c => decode c 66) zeq55).trans (by decide +kernel)
theorem d55_69 : decode (zB 55) 69 = .ok (.if_icmp .ge 33, 3) := (congrArg (fun c => decode c 69) zeq55).trans (by decide +kernel)
theorem d55_72 : decode (zB 55) 72 = .ok (.iload 4, 2) := (congrArg (fun c => decode c 72) zeq55).trans (by decide +kernel)
theorem d55_74 : decode (zB 55) 74 = .ok (.iload 5, 2) := (congrArg (fun c => decode c 74) zeq55).trans (by decide +kernel)
theorem d55_76 : decode (zB 55) 76 = .ok (.invokestatic 37, 3) := (congrArg (fun c => decode c 76) zeq55).trans (by decide +kernel)
theorem d55_79 : decode (zB 55) 79 = .ok (.ifCond .eq 17, 3) := (congrArg (fun c => decode c 79) zeq55).trans (by decide +kernel)
theorem d55_82 : decode (zB 55) 82 = .ok (.aload_n 1, 1) := (congrArg (fun c => decode c 82) zeq55).trans (by decide +kernel)
theorem d55_83 : decode (zB 55) 83 = .ok (.iload_n 3, 1) := (congrArg (fun c => decode c 83) zeq55).trans (by decide +kernel)
theorem d55_84 : decode (zB 55) 84 = .ok (.iconst 1, 1) := (congrArg (fun c => decode c 84) zeq55).trans (by decide +kernel)
theorem d55_85 : decode (zB 55) 85 = .ok (.iload 5, 2) := (congrArg (fun c => decode c 85) zeq55).trans (by decide +kernel)
theorem d55_87 : decode (zB 55) 87 = .ok (.ishl, 1) := (congrArg (fun c => decode c 87) zeq55).trans (by decide +kernel)
theorem d55_88 : decode (zB 55) 88 = .ok (.ior, 1) := (congrArg (fun c => decode c 88) zeq55).trans (by decide +kernel)
theorem d55_89 : decode (zB 55) 89 = .ok (.dup2, 1) := (congrArg (fun c => decode c 89) zeq55).trans (by decide +kernel)
theorem d55_90 : decode (zB 55) 90 = .ok (.laload, 1) := (congrArg (fun c => decode c 90) zeq55).trans (by decide +kernel)
theorem d55_91 : decode (zB 55) 91 = .ok (.aload_n 1, 1) := (congrArg (fun c => decode c 91) zeq55).trans (by decide +kernel)
theorem d55_92 : decode (zB 55) 92 = .ok (.iload_n 3, 1) := (congrArg (fun c => decode c 92) zeq55).trans (by decide +kernel)
theorem d55_93 : decode (zB 55) 93 = .ok (.laload, 1) := (congrArg (fun c => decode c 93) zeq55).trans (by decide +kernel)
theorem d55_94 : decode (zB 55) 94 = .ok (.ladd, 1) := (congrArg (fun c => decode c 94) zeq55).trans (by decide +kernel)
theorem d55_95 : decode (zB 55) 95 = .ok (.lastore, 1) := (congrArg (fun c => decode c 95) zeq55).trans (by decide +kernel)
theorem d55_96 : decode (zB 55) 96 = .ok (.iinc 5 1, 3) := (congrArg (fun c => decode c 96) zeq55).trans (by decide +kernel)
theorem d55_99 : decode (zB 55) 99 = .ok (.goto (-36), 3) := (congrArg (fun c => decode c 99) zeq55).trans (by decide +kernel)
theorem d55_102 : decode (zB 55) 102 = .ok (.iinc 3 1, 3) := (congrArg (fun c => decode c 102) zeq55).trans (by decide +kernel)
theorem d55_105 : decode (zB 55) 105 = .ok (.goto (-69), 3) := (congrArg (fun c => decode c 105) zeq55).trans (by decide +kernel)
theorem d55_108 : decode (zB 55) 108 = .ok (.aload_n 1, 1) := (congrArg (fun c => decode c 108) zeq55).trans (by decide +kernel)
theorem d55_109 : decode (zB 55) 109 = .ok (.iload_n 2, 1) := (congrArg (fun c => decode c 109) zeq55).trans (by decide +kernel)
theorem d55_110 : decode (zB 55) 110 = .ok (.laload, 1) := (congrArg (fun c => decode c 110) zeq55).trans (by decide +kernel)
theorem d55_111 : decode (zB 55) 111 = .ok (.lreturn, 1) := (congrArg (fun c => decode c 111) zeq55).trans (by decide +kernel)
theorem l55i {d : Nat} {Q : Option Value → zM → Prop} {a b : Nat} {T : yT} {M0 : zM} {S x : Nat} (hp : SPr M0 a) (hr : RP M0 a T) (ho : OKT T) (hb : zk M0 b = (21, 4096)) (hS : S < 2 ^ tn T - 1) (hx : x = if yg T S = 0 then 0 else ynx T S) (k : ∀ M', (∀ t, t < 2 ^ tn T → zl M' b t = ypw T S (tn T) t) → Fl b M0 M' → qW (zEv (d + 2)) 55 Q 102 [(0, .ref a), (1, .ref b), (2, .int (nI (2 ^ tn T - 1))), (3, .int (nI S)), (4, .int (nI x)), (5, .int (nI (tn T)))] [] M') : ∀ (r i : Nat) (M1 : zM), i ≤ tn T → tn T < i + r → (∀ t, t < 2 ^ tn T → zl M1 b t = ypw T S i t) → Fl b M0 M1 → qW (zEv (d + 2)) 55 Q 63 [(0, .ref a), (1, .ref b), (2, .int (nI (2 ^ tn T - 1))), (3, .int (nI S)), (4, .int (nI x)), (5, .int (nI i))] [] M1 := by
  intro r
  induction r with
  | zero => intros; omega
  | succ r ih =>
    intro i M1 h1 h2 hw hF
    have hn := ho.n
    have hz : 2 ^ tn T ≤ 4096 := pow_12 hn
    have hz0 : 0 < 2 ^ tn T := Nat.two_pow_pos _
    have hnx : ynx T S < 4096 := ymk_lt12 _ hn
    have hx4 : x < 4096 := by rw [hx]; split <;> omega
    refine q_iload d55_63 rfl ?_
    refine q_aload_n d55_65 rfl ?_
    refine q_getv (c := 1) (f := 6) d55_66 ⟨rfl, by decide⟩ (SPr_fl hp hF).1 (RP_fl hr hF).1 ?_
    refine nc_ge 102 d55_69 (by decide) (by omega) (by omega) (fun h69 => ?_) (fun h69 => ?_)
    · refine qW_srt rfl rfl ?_
      rw [show i = tn T by omega] at hw ⊢
      exact k _ hw hF
    · refine q_iload d55_72 rfl ?_
      refine q_iload d55_74 rfl ?_
      refine q_s2 d55_76 (Or.inr rfl) rfl (Nat.le_of_ble_eq_true rfl) (c35 (by omega) (by omega) ?_)
      refine b0_eq 96 d55_79 (by decide) (fun h79 => ?_) (fun h79 => ?_)
      · refine n_iinc 1 d55_96 (by decide) rfl rfl ?_
        refine q_goto 63 d55_99 (by decide) ?_
        refine qW_srt rfl rfl ?_
        first
        | (have hg : ¬ yg T S = 0 := fun q => by rw [hx, if_pos q, Nat.zero_testBit] at h79; cases h79
           rw [hx, if_neg hg] at h79
           refine ih (i + 1) _ (by omega) (by omega) (fun t ht => ?_) hF.wl
           by_cases e : t = S ||| 2 ^ i
           · subst e; rw [wl_s, ypw_t (by omega) h79, ypw_v (t := S) (Nat.le_refl S)]
           · rw [wl_n (Or.inr e), hw t ht]; exact (ypw_f (by omega) (fun _ => Or.inr e)).symm)
        | (refine ih (i + 1) _ (by omega) (by omega) (fun t ht => ?_) hF
           rw [hw t ht]
           refine (ypw_f (by omega) (fun q => ?_)).symm
           by_cases hg : yg T S = 0
           · exact Or.inl hg
           · rw [hx, if_neg hg, q] at h79; cases h79)
      · have hor : S ||| 2 ^ i < 2 ^ tn T := or_lt (by omega) (pow_lt (by omega))
        refine q_aload_n d55_82 rfl ?_
        refine q_iload_n d55_83 rfl ?_
        refine q_iconstN (z := 1) d55_84 ?_
        refine q_iload d55_85 rfl ?_
        refine n_ishl1 d55_87 (by omega) ?_
        refine n_ior d55_88 ?_
        refine q_dup2 d55_89 rfl rfl ?_
        refine n_lald d55_90 ((hF.k _).trans hb) (by omega) (by decide) (hw _ hor) ?_
        refine q_aload_n d55_91 rfl ?_
        refine q_iload_n d55_92 rfl ?_
        refine n_lald d55_93 ((hF.k _).trans hb) (by omega) (by decide) (hw _ (by omega)) ?_
        refine q_ladd d55_94 ?_
        refine n_last d55_95 ((hF.k _).trans hb) (by omega) (by decide) ?_
        refine n_iinc 1 d55_96 (by decide) rfl rfl ?_
        refine q_goto 63 d55_99 (by decide) ?_
        refine qW_srt rfl rfl ?_
        first
        | (have hg : ¬ yg T S = 0 := fun q => by rw [hx, if_pos q, Nat.zero_testBit] at h79; cases h79
           rw [hx, if_neg hg] at h79
           refine ih (i + 1) _ (by omega) (by omega) (fun t ht => ?_) hF.wl
           by_cases e : t = S ||| 2 ^ i
           · subst e; rw [wl_s, ypw_t (by omega) h79, ypw_v (t := S) (Nat.le_refl S)]
           · rw [wl_n (Or.inr e), hw t ht]; exact (ypw_f (by omega) (fun _ => Or.inr e)).symm)
        | (refine ih (i + 1) _ (by omega) (by omega) (fun t ht => ?_) hF
           rw [hw t ht]
           refine (ypw_f (by omega) (fun q => ?_)).symm
           by_cases hg : yg T S = 0
           · exact Or.inl hg
           · rw [hx, if_neg hg, q] at h79; cases h79)
theorem l55 {d : Nat} {Q : Option Value → zM → Prop} {a b : Nat} {T : yT} {M0 : zM} (hp : SPr M0 a) (hr : RP M0 a T) (ho : OKT T) (hb : zk M0 b = (21, 4096)) (k : ∀ M', Fl b M0 M' → Q (some (.long (yg T (2 ^ tn T - 1)))) M') : ∀ (r i : Nat) (a4 a5 : Value) (M1 : zM), i ≤ (2 ^ tn T - 1) → (2 ^ tn T - 1) < i + r → (∀ t, t < 2 ^ tn T → zl M1 b t = ypw T i 0 t) → Fl b M0 M1 → qW (zEv (d + 2)) 55 Q 36 [(0, .ref a), (1, .ref b), (2, .int (nI (2 ^ tn T - 1))), (3, .int (nI i)), (4, a4), (5, a5)] [] M1 := by
  intro r
  induction r with
  | zero => intros; omega
  | succ r ih =>
    intro i a4 a5 M1 h1 h2 hw hF
    have hn := ho.n
    have hz : 2 ^ tn T ≤ 4096 := pow_12 hn
    have hz0 : 0 < 2 ^ tn T := Nat.two_pow_pos _
    refine q_iload_n d55_36 rfl ?_
    refine q_iload_n d55_37 rfl ?_
    refine nc_ge 108 d55_38 (by decide) (by omega) (by omega) (fun h38 => ?_) (fun h38 => ?_)
    · refine q_aload_n d55_108 rfl ?_
      refine q_iload_n d55_109 rfl ?_
      refine n_lald d55_110 ((hF.k _).trans hb) (by omega) (by decide) ((hw _ (by omega)).trans (ypw_v (by omega))) ?_
      refine q_lret d55_111 rfl ?_
      exact k _ hF
    · refine q_aload_n d55_41 rfl ?_
      refine q_iload_n d55_42 rfl ?_
      refine n_lald d55_43 ((hF.k _).trans hb) (by omega) (by decide) ((hw i (by omega)).trans (ypw_v (Nat.le_refl i))) ?_
      refine q_lconst (x := 0) d55_44 rfl ?_
      refine q_lcmp d55_45 ?_
      refine i0_ne 53 d55_46 (by decide) (fun h46 => ?_) (fun h46 => ?_)
      · refine q_aload_n d55_53 rfl ?_
        refine q_iload_n d55_54 rfl ?_
        refine q_v1 d55_55 rfl rfl (SPr_fl hp hF).1 (Nat.le_of_ble_eq_true rfl) (c44 (SPr_fl hp hF) (RP_fl hr hF) ho (by omega) ?_)
        refine q_istore d55_58 (by decide) rfl ?_
        refine q_iconstN (z := 0) d55_60 ?_
        refine q_istore d55_61 (by decide) rfl ?_
        refine qW_srt rfl rfl ?_
        exact l55i (S := i) hp hr ho hb (by omega) (by first | (rw [if_neg (fun q => h46 ((lg_cmp_eq _ _).mpr q))]) | (rw [if_pos ((lg_cmp_eq _ _).mp h46)])) (fun M2 hw2 hF2 => by
          refine n_iinc (x := i) 1 d55_102 (by decide) rfl rfl ?_
          refine q_goto 36 d55_105 (by decide) ?_
          refine qW_srt rfl rfl ?_
          exact ih (i + 1) _ _ _ (by omega) (by omega) (fun t ht => (hw2 t ht).trans ypw_n) hF2) (tn T + 1) 0 _ (by omega) (by omega) hw hF
      · refine q_iconstN (z := 0) d55_49 ?_
        refine q_goto 58 d55_50 (by decide) ?_
        refine q_istore d55_58 (by decide) rfl ?_
        refine q_iconstN (z := 0) d55_60 ?_
        refine q_istore d55_61 (by decide) rfl ?_
        refine qW_srt rfl rfl ?_
        exact l55i (S := i) hp hr ho hb (by omega) (by first | (rw [if_neg (fun q => h46 ((lg_cmp_eq _ _).mpr q))]) | (rw [if_pos ((lg_cmp_eq _ _).mp h46)])) (fun M2 hw2 hF2 => by
          refine n_iinc (x := i) 1 d55_102 (by decide) rfl rfl ?_
          refine q_goto 36 d55_105 (by decide) ?_
          refine qW_srt rfl rfl ?_
          exact ih (i + 1) _ _ _ (by omega) (by omega) (fun t ht => (hw2 t ht).trans ypw_n) hF2) (tn T + 1) 0 _ (by omega) (by omega) hw hF
theorem l55z {d : Nat} {Q : Option Value → zM → Prop} {a b : Nat} {T : yT} {M0 : zM} (hp : SPr M0 a) (hr : RP M0 a T) (ho : OKT T) (hb : zk M0 b = (21, 4096)) (k : ∀ M', (∀ t, t < 2 ^ tn T → zl M' b t = ypw T 0 0 t) → Fl b M0 M' → qW (zEv (d + 2)) 55 Q 36 [(0, .ref a), (1, .ref b), (2, .int (nI (2 ^ tn T - 1))), (3, .int (nI 0))] [] M') : ∀ (r i : Nat) (M1 : zM), i ≤ (2 ^ tn T) → (2 ^ tn T) < i + r → (∀ t, 1 ≤ t → t < i → zl M1 b t = 0) → Fl b M0 M1 → 1 ≤ i → qW (zEv (d + 2)) 55 Q 15 [(0, .ref a), (1, .ref b), (2, .int (nI (2 ^ tn T - 1))), (3, .int (nI i))] [] M1 := by
  intro r
  induction r with
  | zero => intros; omega
  | succ r ih =>
    intro i M1 h1 h2 hw hF hi1
    have hn := ho.n
    have hz : 2 ^ tn T ≤ 4096 := pow_12 hn
    have hz0 : 0 < 2 ^ tn T := Nat.two_pow_pos _
    refine q_iload_n d55_15 rfl ?_
    refine q_iload_n d55_16 rfl ?_
    refine nc_gt 30 d55_17 (by decide) (by omega) (by omega) (fun h17 => ?_) (fun h17 => ?_)
    · refine q_aload_n d55_30 rfl ?_
      refine q_iconstN (z := 0) d55_31 ?_
      refine q_lconst (x := 1) d55_32 rfl ?_
      refine n_last d55_33 ((hF.k _).trans hb) (by omega) (by decide) ?_
      refine q_iconstN (z := 0) d55_34 ?_
      refine q_istore_n d55_35 (by decide) rfl ?_
      refine qW_srt rfl rfl ?_
      refine k _ (fun t ht => ?_) hF.wl
      rw [ypw_0]
      by_cases e : t = 0
      · subst e; rw [if_pos rfl]; exact wl_s
      · rw [if_neg e, wl_n (Or.inr e)]; exact hw t (by omega) (by omega)
    · refine q_aload_n d55_20 rfl ?_
      refine q_iload_n d55_21 rfl ?_
      refine q_lconst (x := 0) d55_22 rfl ?_
      refine n_last d55_23 ((hF.k _).trans hb) (by omega) (by decide) ?_
      refine n_iinc 1 d55_24 (by decide) rfl rfl ?_
      refine q_goto 15 d55_27 (by decide) ?_
      refine qW_srt rfl rfl ?_
      exact ih (i + 1) _ (by omega) (by omega) (fun t h1 h3 => by
        by_cases e : t = i
        · subst e; exact wl_s
        · rw [wl_n (Or.inr e)]; exact hw t h1 (by omega)) hF.wl (by omega)
theorem c55 {d : Nat} {M : zM} {Q : Option Value → zM → Prop} {a b : Nat} {T : yT} (hp : SPr M a) (hr : RP M a T) (ho : OKT T) (hb : zk M b = (21, 4096)) (k : ∀ M', Fl b M M' → Q (some (.long (yg T (2 ^ tn T - 1)))) M') : qC (d + 3) 55 [.ref a, .ref b] M Q := by
  have hn := ho.n
  have hz : 2 ^ tn T ≤ 4096 := pow_12 hn
  have hz0 : 2 ≤ 2 ^ tn T := by have h1 := ho.1; exact Nat.le_trans (Nat.le_of_eq (Nat.pow_one 2).symm) (Nat.pow_le_pow_right (by omega) h1)
  refine qC_of (by decide) (Nat.le_of_ble_eq_true rfl) ?_
  refine q_aload_n d55_0 rfl ?_
  refine q_v0 d55_1 rfl rfl hp.1 (Nat.le_of_ble_eq_true rfl) (c37 hp hr hn ?_)
  refine q_istore_n d55_4 (by decide) rfl ?_
  refine q_aload_n d55_5 rfl ?_
  refine n_alen d55_6 (Or.inr hb) ?_
  refine q_iload_n d55_7 rfl ?_
  refine nc_gt 13 d55_8 (by decide) (by omega) (by omega) (fun h8 => ?_) (fun h8 => (False.elim (by omega)))
  refine q_iconstN (z := 1) d55_13 ?_
  refine q_istore_n d55_14 (by decide) rfl ?_
  refine qW_srt rfl rfl ?_
  exact l55z hp hr ho hb (fun M1 hw hF => by
      refine q_iload_n d55_36 rfl ?_
      refine q_iload_n d55_37 rfl ?_
      refine nc_ge 108 d55_38 (by decide) (by omega) (by omega) (fun h38 => ?_) (fun h38 => ?_)
      · refine q_aload_n d55_108 rfl ?_
        refine q_iload_n d55_109 rfl ?_
        refine n_lald d55_110 ((hF.k _).trans hb) (by omega) (by decide) ((hw _ (by omega)).trans (ypw_v (by omega))) ?_
        refine q_lret d55_111 rfl ?_
        exact k _ hF
      · refine q_aload_n d55_41 rfl ?_
        refine q_iload_n d55_42 rfl ?_
        refine n_lald d55_43 ((hF.k _).trans hb) (by omega) (by decide) ((hw 0 (by omega)).trans (ypw_v (Nat.le_refl 0))) ?_
        refine q_lconst (x := 0) d55_44 rfl ?_
        refine q_lcmp d55_45 ?_
        refine i0_ne 53 d55_46 (by decide) (fun h46 => ?_) (fun h46 => ?_)
        · refine q_aload_n d55_53 rfl ?_
          refine q_iload_n d55_54 rfl ?_
          refine q_v1 d55_55 rfl rfl (SPr_fl hp hF).1 (Nat.le_of_ble_eq_true rfl) (c44 (SPr_fl hp hF) (RP_fl hr hF) ho (by omega) ?_)
          refine q_istore d55_58 (by decide) rfl ?_
          refine q_iconstN (z := 0) d55_60 ?_
          refine q_istore d55_61 (by decide) rfl ?_
          refine qW_srt rfl rfl ?_
          exact l55i (S := 0) hp hr ho hb (by omega) (by first | (rw [if_neg (fun q => h46 ((lg_cmp_eq _ _).mpr q))]) | (rw [if_pos ((lg_cmp_eq _ _).mp h46)])) (fun M2 hw2 hF2 => by
            refine n_iinc (x := 0) 1 d55_102 (by decide) rfl rfl ?_
            refine q_goto 36 d55_105 (by decide) ?_
            refine qW_srt rfl rfl ?_
            exact l55 hp hr ho hb k (2 ^ tn T) 1 _ _ _ (by omega) (by omega) (fun t ht => (hw2 t ht).trans ypw_n) hF2) (tn T + 1) 0 _ (by omega) (by omega) hw hF
        · refine q_iconstN (z := 0) d55_49 ?_
          refine q_goto 58 d55_50 (by decide) ?_
          refine q_istore d55_58 (by decide) rfl ?_
          refine q_iconstN (z := 0) d55_60 ?_
          refine q_istore d55_61 (by decide) rfl ?_
          refine qW_srt rfl rfl ?_
          exact l55i (S := 0) hp hr ho hb (by omega) (by first | (rw [if_neg (fun q => h46 ((lg_cmp_eq _ _).mpr q))]) | (rw [if_pos ((lg_cmp_eq _ _).mp h46)])) (fun M2 hw2 hF2 => by
            refine n_iinc (x := 0) 1 d55_102 (by decide) rfl rfl ?_
            refine q_goto 36 d55_105 (by decide) ?_
            refine qW_srt rfl rfl ?_
            exact l55 hp hr ho hb k (2 ^ tn T) 1 _ _ _ (by omega) (by omega) (fun t ht => (hw2 t ht).trans ypw_n) hF2) (tn T + 1) 0 _ (by omega) (by omega) hw hF) (2 ^ tn T + 1) 1 M (by omega) (by omega) (fun t h1 h2 => absurd h2 (by omega)) (Fl.refl _ _) (by omega)
