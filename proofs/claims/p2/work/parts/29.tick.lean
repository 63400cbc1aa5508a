/-! ===== contracts: turns and ticks ===== -/
theorem yfo_eq {T : yT} {nm : Nat → Int32} {s : Nat} {X : yX} : yfo T nm s X = if gt (yxs (yfl T nm s (yfr T (yxs X s)) 12 0 X) s) = 1 ∧ gm (yxs (yfl T nm s (yfr T (yxs X s)) 12 0 X) s) 1 = 2 ^ tn T - 1 then yen (yfl T nm s (yfr T (yxs X s)) 12 0 X) s 3 else yfl T nm s (yfr T (yxs X s)) 12 0 X := rfl
theorem c71r {d : Nat} {M : zM} {Q : Option Value → zM → Prop} {a b : Nat} {T : yT} {S : yS} (hs : SSg M a) (q2 : zr M a 2 = some b) (hp : SPr M b) (hr : RP M b T) (ho : OKT T) (h3 : ∀ i, gd S i ≤ 3) (q0 : zi M a 0 = nI (gt S)) (hg : gt S = 1) (q3 : zi M a 3 = nI (gm S 1)) (q4 : zi M a 4 = nI (gm S 2)) (q5 : zi M a 5 = nI (gm S 3)) (k : Q (some (.int (nI (yfr T S)))) M) : qC (d + 3) 71 [.ref a] M Q :=
  c71 hs q2 hp hr ho h3 q0 (by omega) q3 q4 q5 (by rw [if_pos hg]; exact k)
theorem yfr_lt (T : yT) (S : yS) (h : tn T ≤ 12) : yfr T S < 4096 := ymk_lt12 _ h
theorem d70_0 : decode (zB 70) 0 = .ok (.aload_n 2, 1) := by decide +kernel
theorem d70_1 : decode (zB 70) 1 = .ok (.invokevirtual 84, 3) := by decide +kernel
theorem d70_4 : decode (zB 70) 4 = .ok (.istore_n 3, 1) := by decide +kernel
theorem d70_5 : decode (zB 70) 5 = .ok (.iconst 0, 1) := by decide +kernel
theorem d70_6 : decode (zB 70) 6 = .ok (.istore 4, 2) := by decide +kernel
theorem d70_8 : decode (zB 70) 8 = .ok (.iload 4, 2) := by decide +kernel
theorem d70_10 : decode (zB 70) 10 = .ok (.bipush 12, 2) := by decide +kernel
theorem d70_12 : decode (zB 70) 12 = .ok (.if_icmp .ge 34, 3) := by decide +kernel
theorem d70_15 : decode (zB 70) 15 = .ok (.aload_n 2, 1) := by decide +kernel
theorem d70_16 : decode (zB 70) 16 = .ok (.getfield 65, 3) := by decide +kernel
theorem d70_19 : decode (zB 70) 19 = .ok (.iconst 1, 1) := by decide +kernel
theorem d70_20 : decode (zB 70) 20 = .ok (.if_icmp .ne 26, 3) := by decide +kernel
theorem d70_23 : decode (zB 70) 23 = .ok (.iload_n 3, 1) := by decide +kernel
theorem d70_24 : decode (zB 70) 24 = .ok (.iload 4, 2) := by decide +kernel
theorem d70_26 : decode (zB 70) 26 = .ok (.invokestatic 88, 3) := by decide +kernel
theorem d70_29 : decode (zB 70) 29 = .ok (.ifCond .eq 11, 3) := by decide +kernel
theorem d70_32 : decode (zB 70) 32 = .ok (.aload_n 0, 1) := by decide +kernel
theorem d70_33 : decode (zB 70) 33 = .ok (.iload_n 1, 1) := by decide +kernel
theorem d70_34 : decode (zB 70) 34 = .ok (.aload_n 2, 1) := by decide +kernel
theorem d70_35 : decode (zB 70) 35 = .ok (.iload 4, 2) := by decide +kernel
theorem d70_37 : decode (zB 70) 37 = .ok (.invokevirtual 92, 3) := by decide +kernel
theorem d70_40 : decode (zB 70) 40 = .ok (.iinc 4 1, 3) := by decide +kernel
theorem d70_43 : decode (zB 70) 43 = .ok (.goto (-35), 3) := by decide +kernel
theorem d70_46 : decode (zB 70) 46 = .ok (.aload_n 2, 1) := by decide +kernel
theorem d70_47 : decode (zB 70) 47 = .ok (.getfield 65, 3) := by decide +kernel
theorem d70_50 : decode (zB 70) 50 = .ok (.iconst 1, 1) := by decide +kernel
theorem d70_51 : decode (zB 70) 51 = .ok (.if_icmp .ne 17, 3) := by decide +kernel
theorem d70_54 : decode (zB 70) 54 = .ok (.aload_n 2, 1) := by decide +kernel
theorem d70_55 : decode (zB 70) 55 = .ok (.invokevirtual 96, 3) := by decide +kernel
theorem d70_58 : decode (zB 70) 58 = .ok (.ifCond .eq 10, 3) := by decide +kernel
theorem d70_61 : decode (zB 70) 61 = .ok (.aload_n 0, 1) := by decide +kernel
theorem d70_62 : decode (zB 70) 62 = .ok (.iload_n 1, 1) := by decide +kernel
theorem d70_63 : decode (zB 70) 63 = .ok (.aload_n 2, 1) := by decide +kernel
theorem d70_64 : decode (zB 70) 64 = .ok (.iconst 3, 1) := by decide +kernel
theorem d70_65 : decode (zB 70) 65 = .ok (.invokevirtual 99, 3) := by decide +kernel
theorem d70_68 : decode (zB 70) 68 = .ok (.return_, 1) := by decide +kernel
theorem l70 {d : Nat} {Q : Option Value → zM → Prop} {lo w u j c : Nat} {T : Nat → yT} {nm : Nat → Nat → Int32} {s : Nat} {M0 : zM} {g0 fr L0 : Nat} {XF : yX} (hs3 : s < 3) (hfr : fr < 4096) (hL : L0 + 13 ≤ 240) (k : ∀ M', CW M' lo w u j T c nm (if gt (yxs XF s) = 1 ∧ gm (yxs XF s) 1 = 2 ^ tn (T g0) - 1 then yen XF s 3 else XF) → Fi (FW lo) M0 M' → Q none M') : ∀ (r i : Nat) (M1 : zM) (X1 : yX), i ≤ 12 → 12 < i + r → CW M1 lo w u j T c nm X1 → Fi (FW lo) M0 M1 → gx (yxs X1 s) = g0 → (∀ j, i ≤ j → fr.testBit j = true → j < tn (T g0) ∧ gd (yxs X1 s) j = 0) → (gt (yxs X1 s) = 1 ∨ gt (yxs X1 s) = 2 ∨ gt (yxs X1 s) = 5) → ym1 X1 s ≤ L0 + 1 + i → yfl (T g0) (nm s) s fr (12 - i) i X1 = XF → qW (zEv (d + 3)) 70 Q 8 [(4, .int (nI i)), (3, .int (nI fr)), (0, .ref w), (1, .int (nI s)), (2, .ref (u + 3 + 8 * s))] [] M1 := by
  intro r
  induction r with
  | zero => intros; omega
  | succ r ih =>
    intro i M1 X1 h1 h2 hC1 hF hgx hf hg hm hy
    have hC1' := hC1
    obtain ⟨hS, hw, hT, hO, hR⟩ := hC1
    have hwo := hS.wo hw
    have hsa := hw.sg hs3
    have hs := hS.sg hsa
    have hd := hw.d
    have hRs : RS M1 (u + 3 + 8 * s) T (nm s) (yxs X1 s) := hR.2.1 s hs3
    have hOs : OKS T c (yxs X1 s) := hO.2.2 s hs3
    have hx : gx (yxs X1 s) < c := hOs.2.1 (by omega)
    have hc6 := hO.1.1
    have ho := hO.1.2 _ hx
    have hn := ho.n
    have hm4 := gm_lt (yxs X1 s) 1
    obtain ⟨⟨q0, q1, q2⟩, ⟨q3, q4, q5⟩, ⟨q7, q8⟩, q9, qa, qb⟩ := hRs
    have e2 : zr M1 (u + 3 + 8 * s) 2 = some (20 + 7 * gx (yxs X1 s)) := q2.trans (if_neg (by show ¬ gt (yxs X1 s) = 0; omega))
    refine q_iload d70_8 rfl ?_
    refine q_bipush (x := nI 12) d70_10 rfl ?_
    refine nc_ge 46 d70_12 (by decide) (by omega) (by omega) (fun h12 => ?_) (fun h12 => ?_)
    · have hXF : XF = X1 := by
        first
        | (rw [show 12 - i = 0 by omega] at hy; exact hy.symm)
        | (rw [show 12 - i = (12 - (i + 1)) + 1 by omega, yfl, if_neg h20] at hy; exact hy.symm)
      subst hXF
      rw [← hgx] at k
      refine q_aload_n d70_46 rfl ?_
      refine q_getv (c := 5) (f := 0) d70_47 ⟨rfl, by decide⟩ hs.1 q0 ?_
      refine q_iconstN (z := 1) d70_50 ?_
      refine nc_ne 68 d70_51 (by decide) (by omega) (by omega) (fun h51 => ?_) (fun h51 => ?_)
      · refine q_ret d70_68 rfl ?_
        first
        | (rw [if_pos ⟨h51, of_decide_eq_true h58⟩] at k; exact k _ hC2 (hF.trans f2))
        | (rw [if_neg (fun q => absurd q.2 (of_decide_eq_false h58))] at k; exact k _ hC1' hF)
        | (rw [if_neg (fun q => h51 q.1)] at k; exact k _ hC1' hF)
      · refine q_aload_n d70_54 rfl ?_
        refine q_v0 d70_55 rfl rfl hs.1 (Nat.le_of_ble_eq_true rfl) (c80 hs e2 (hS.pr (by omega)) (hT _ hx) hn q3 hm4 ?_)
        refine b0_eq 68 d70_58 (by decide) (fun h58 => ?_) (fun h58 => ?_)
        · refine q_ret d70_68 rfl ?_
          first
          | (rw [if_pos ⟨h51, of_decide_eq_true h58⟩] at k; exact k _ hC2 (hF.trans f2))
          | (rw [if_neg (fun q => absurd q.2 (of_decide_eq_false h58))] at k; exact k _ hC1' hF)
          | (rw [if_neg (fun q => h51 q.1)] at k; exact k _ hC1' hF)
        · refine q_aload_n d70_61 rfl ?_
          refine q_iload_n d70_62 rfl ?_
          refine q_aload_n d70_63 rfl ?_
          refine q_iconstN (z := 3) d70_64 ?_
          refine q_v3 d70_65 rfl rfl hwo.1 (Nat.le_of_ble_eq_true rfl) (c79 hC1' hs3 (by omega) (by decide) (by decide) (by unfold ym1 at hm; rw [if_pos h51] at hm; omega) (fun M2 hC2 f2 => ?_))
          refine q_ret d70_68 rfl ?_
          first
          | (rw [if_pos ⟨h51, of_decide_eq_true h58⟩] at k; exact k _ hC2 (hF.trans f2))
          | (rw [if_neg (fun q => absurd q.2 (of_decide_eq_false h58))] at k; exact k _ hC1' hF)
          | (rw [if_neg (fun q => h51 q.1)] at k; exact k _ hC1' hF)
    · refine q_aload_n d70_15 rfl ?_
      refine q_getv (c := 5) (f := 0) d70_16 ⟨rfl, by decide⟩ hs.1 q0 ?_
      refine q_iconstN (z := 1) d70_19 ?_
      refine nc_ne 46 d70_20 (by decide) (by omega) (by omega) (fun h20 => ?_) (fun h20 => ?_)
      · have hXF : XF = X1 := by
          first
          | (rw [show 12 - i = 0 by omega] at hy; exact hy.symm)
          | (rw [show 12 - i = (12 - (i + 1)) + 1 by omega, yfl, if_neg h20] at hy; exact hy.symm)
        subst hXF
        rw [← hgx] at k
        refine q_aload_n d70_46 rfl ?_
        refine q_getv (c := 5) (f := 0) d70_47 ⟨rfl, by decide⟩ hs.1 q0 ?_
        refine q_iconstN (z := 1) d70_50 ?_
        refine nc_ne 68 d70_51 (by decide) (by omega) (by omega) (fun h51 => ?_) (fun h51 => ?_)
        · refine q_ret d70_68 rfl ?_
          first
          | (rw [if_pos ⟨h51, of_decide_eq_true h58⟩] at k; exact k _ hC2 (hF.trans f2))
          | (rw [if_neg (fun q => absurd q.2 (of_decide_eq_false h58))] at k; exact k _ hC1' hF)
          | (rw [if_neg (fun q => h51 q.1)] at k; exact k _ hC1' hF)
        · refine q_aload_n d70_54 rfl ?_
          refine q_v0 d70_55 rfl rfl hs.1 (Nat.le_of_ble_eq_true rfl) (c80 hs e2 (hS.pr (by omega)) (hT _ hx) hn q3 hm4 ?_)
          refine b0_eq 68 d70_58 (by decide) (fun h58 => ?_) (fun h58 => ?_)
          · refine q_ret d70_68 rfl ?_
            first
            | (rw [if_pos ⟨h51, of_decide_eq_true h58⟩] at k; exact k _ hC2 (hF.trans f2))
            | (rw [if_neg (fun q => absurd q.2 (of_decide_eq_false h58))] at k; exact k _ hC1' hF)
            | (rw [if_neg (fun q => h51 q.1)] at k; exact k _ hC1' hF)
          · refine q_aload_n d70_61 rfl ?_
            refine q_iload_n d70_62 rfl ?_
            refine q_aload_n d70_63 rfl ?_
            refine q_iconstN (z := 3) d70_64 ?_
            refine q_v3 d70_65 rfl rfl hwo.1 (Nat.le_of_ble_eq_true rfl) (c79 hC1' hs3 (by omega) (by decide) (by decide) (by unfold ym1 at hm; rw [if_pos h51] at hm; omega) (fun M2 hC2 f2 => ?_))
            refine q_ret d70_68 rfl ?_
            first
            | (rw [if_pos ⟨h51, of_decide_eq_true h58⟩] at k; exact k _ hC2 (hF.trans f2))
            | (rw [if_neg (fun q => absurd q.2 (of_decide_eq_false h58))] at k; exact k _ hC1' hF)
            | (rw [if_neg (fun q => h51 q.1)] at k; exact k _ hC1' hF)
      · refine q_iload_n d70_23 rfl ?_
        refine q_iload d70_24 rfl ?_
        refine q_s2 d70_26 (Or.inr rfl) rfl (Nat.le_of_ble_eq_true rfl) (c35 (by omega) (by omega) ?_)
        refine b0_eq 40 d70_29 (by decide) (fun h29 => ?_) (fun h29 => ?_)
        · refine n_iinc 1 d70_40 (by decide) rfl rfl ?_
          refine q_goto 8 d70_43 (by decide) ?_
          first
          | (have h1 : gt (yxs X1 s) = 1 := h20
             rw [hgx] at hC2
             have hd1 := ytr_d (T := T g0) (n := nm s i) (i := i) h1
             have hm1 := ytr_m (T := T g0) (n := nm s i) (i := i) h1
             exact ih (i + 1) _ _ (by omega) (by omega) hC2 (hF.trans f2) (hd1.2.1.trans hgx) (fun j hj hb => ⟨(hf j (by omega) hb).1, by rw [hd1.1 j (by omega)]; exact (hf j (by omega) hb).2⟩) hd1.2.2.2 (by omega) (by rw [show 12 - i = (12 - (i + 1)) + 1 by omega, yfl, if_pos h1, if_pos h29] at hy; exact hy))
          | (have h1 : gt (yxs X1 s) = 1 := h20
             exact ih (i + 1) _ _ (by omega) (by omega) hC1' hF hgx (fun j hj hb => hf j (by omega) hb) hg (by omega) (by rw [show 12 - i = (12 - (i + 1)) + 1 by omega, yfl, if_pos h1, h29, if_neg (by decide)] at hy; exact hy))
        · refine q_aload_n d70_32 rfl ?_
          refine q_iload_n d70_33 rfl ?_
          refine q_aload_n d70_34 rfl ?_
          refine q_iload d70_35 rfl ?_
          refine q_v3 d70_37 rfl rfl hwo.1 (Nat.le_of_ble_eq_true rfl) (c72 hC1' hs3 h20 (by rw [hgx]; exact (hf i (Nat.le_refl _) h29).1) (hf i (Nat.le_refl _) h29).2 (by unfold ym1 at hm; rw [if_pos h20] at hm; omega) (fun M2 hC2 f2 => ?_))
          refine n_iinc 1 d70_40 (by decide) rfl rfl ?_
          refine q_goto 8 d70_43 (by decide) ?_
          first
          | (have h1 : gt (yxs X1 s) = 1 := h20
             rw [hgx] at hC2
             have hd1 := ytr_d (T := T g0) (n := nm s i) (i := i) h1
             have hm1 := ytr_m (T := T g0) (n := nm s i) (i := i) h1
             exact ih (i + 1) _ _ (by omega) (by omega) hC2 (hF.trans f2) (hd1.2.1.trans hgx) (fun j hj hb => ⟨(hf j (by omega) hb).1, by rw [hd1.1 j (by omega)]; exact (hf j (by omega) hb).2⟩) hd1.2.2.2 (by omega) (by rw [show 12 - i = (12 - (i + 1)) + 1 by omega, yfl, if_pos h1, if_pos h29] at hy; exact hy))
          | (have h1 : gt (yxs X1 s) = 1 := h20
             exact ih (i + 1) _ _ (by omega) (by omega) hC1' hF hgx (fun j hj hb => hf j (by omega) hb) hg (by omega) (by rw [show 12 - i = (12 - (i + 1)) + 1 by omega, yfl, if_pos h1, h29, if_neg (by decide)] at hy; exact hy))
theorem c70 {d : Nat} {M : zM} {Q : Option Value → zM → Prop} {lo w u j c : Nat} {T : Nat → yT} {nm : Nat → Nat → Int32} {X : yX} {s : Nat} (hC : CW M lo w u j T c nm X) (hs3 : s < 3) (h1 : gt (yxs X s) = 1) (hl : yln X.2 + 13 ≤ 240) (k : ∀ M', CW M' lo w u j T c nm (yfo (T (gx (yxs X s))) (nm s) s X) → Fi (FW lo) M M' → Q none M') : qC (d + 4) 70 [.ref w, .int (nI s), .ref (u + 3 + 8 * s)] M Q := by
  have hC0 := hC
  obtain ⟨hS, hw, hT, hO, hR⟩ := hC
  have hwo := hS.wo hw
  have hsa := hw.sg hs3
  have hs := hS.sg hsa
  have hd := hw.d
  have hRs : RS M (u + 3 + 8 * s) T (nm s) (yxs X s) := hR.2.1 s hs3
  have hRs' := hRs
  have hOs : OKS T c (yxs X s) := hO.2.2 s hs3
  have hx : gx (yxs X s) < c := hOs.2.1 (by show gt (yxs X s) ≠ 0; omega)
  have hc6 := hO.1.1
  have ho := hO.1.2 _ hx
  have hn := ho.n
  have hz : gz T (yxs X s) = tn (T (gx (yxs X s))) := by unfold gz; rw [if_neg (by omega)]
  obtain ⟨⟨q0, q1, q2⟩, ⟨q3, q4, q5⟩, ⟨q7, q8⟩, q9, qa, qb⟩ := hRs
  have e2 : zr M (u + 3 + 8 * s) 2 = some (20 + 7 * gx (yxs X s)) := q2.trans (if_neg (by show ¬ gt (yxs X s) = 0; omega))
  refine qC_of (by decide) (Nat.le_of_ble_eq_true rfl) ?_
  refine q_aload_n d70_0 rfl ?_
  refine q_v0 d70_1 rfl rfl hs.1 (Nat.le_of_ble_eq_true rfl) (c71r hs e2 (hS.pr (by omega)) (hT _ hx) ho hOs.2.2.2.2.2 q0 h1 q3 q4 q5 ?_)
  refine q_istore_n d70_4 (by decide) rfl ?_
  refine q_iconstN (z := 0) d70_5 ?_
  refine q_istore d70_6 (by decide) rfl ?_
  exact l70 (XF := yfl (T (gx (yxs X s))) (nm s) s (yfr (T (gx (yxs X s))) (yxs X s)) 12 0 X) (L0 := yln X.2) hs3 (yfr_lt _ _ hn) (by omega) (fun M' hC f => k M' hC f) 13 0 M X (by omega) (by omega) hC0 (Fi.refl _ _) rfl (fun j _ hj => front_bit hj) (Or.inl h1) (by unfold ym1; rw [if_pos h1]; omega) rfl
/-- the turns from saga i on -/
def ytf (T : Nat → yT) (nm : Nat → Nat → Int32) : Nat → Nat → yX → yX
  | 0, _, X => X
  | k + 1, i, X => ytf T nm k (i + 1) (ytu T nm i X)
theorem ytf_ti (T : Nat → yT) (nm : Nat → Nat → Int32) (X : yX) : ytf T nm 3 0 X = yti T nm X := rfl
theorem ytu_1 {T : Nat → yT} {nm : Nat → Nat → Int32} {s : Nat} {X : yX} (h : gt (yxs X s) = 1) : ytu T nm s X = yfo (T (gx (yxs X s))) (nm s) s X := if_pos h
theorem ytu_2 {T : Nat → yT} {nm : Nat → Nat → Int32} {s : Nat} {X : yX} (h : gt (yxs X s) = 2) : ytu T nm s X = yba (T (gx (yxs X s))) s X := by unfold ytu; rw [if_neg (by omega), if_pos h]
theorem ytu_0 {T : Nat → yT} {nm : Nat → Nat → Int32} {s : Nat} {X : yX} (h1 : ¬ gt (yxs X s) = 1) (h2 : ¬ gt (yxs X s) = 2) : ytu T nm s X = X := by unfold ytu; rw [if_neg h1, if_neg h2]
theorem d69_0 : decode (zB 69) 0 = .ok (.iconst 0, 1) := by decide +kernel
theorem d69_1 : decode (zB 69) 1 = .ok (.istore_n 1, 1) := by decide +kernel
theorem d69_2 : decode (zB 69) 2 = .ok (.iload_n 1, 1) := by decide +kernel
theorem d69_3 : decode (zB 69) 3 = .ok (.iconst 3, 1) := by decide +kernel
theorem d69_4 : decode (zB 69) 4 = .ok (.if_icmp .ge 47, 3) := by decide +kernel
theorem d69_7 : decode (zB 69) 7 = .ok (.aload_n 0, 1) := by decide +kernel
theorem d69_8 : decode (zB 69) 8 = .ok (.getfield 20, 3) := by decide +kernel
theorem d69_11 : decode (zB 69) 11 = .ok (.iload_n 1, 1) := by decide +kernel
theorem d69_12 : decode (zB 69) 12 = .ok (.aaload, 1) := by decide +kernel
theorem d69_13 : decode (zB 69) 13 = .ok (.astore_n 2, 1) := by decide +kernel
theorem d69_14 : decode (zB 69) 14 = .ok (.aload_n 2, 1) := by decide +kernel
theorem d69_15 : decode (zB 69) 15 = .ok (.getfield 65, 3) := by decide +kernel
theorem d69_18 : decode (zB 69) 18 = .ok (.iconst 1, 1) := by decide +kernel
theorem d69_19 : decode (zB 69) 19 = .ok (.if_icmp .ne 12, 3) := by decide +kernel
theorem d69_22 : decode (zB 69) 22 = .ok (.aload_n 0, 1) := by decide +kernel
theorem d69_23 : decode (zB 69) 23 = .ok (.iload_n 1, 1) := by decide +kernel
theorem d69_24 : decode (zB 69) 24 = .ok (.aload_n 2, 1) := by decide +kernel
theorem d69_25 : decode (zB 69) 25 = .ok (.invokevirtual 77, 3) := by decide +kernel
theorem d69_28 : decode (zB 69) 28 = .ok (.goto 17, 3) := by decide +kernel
theorem d69_31 : decode (zB 69) 31 = .ok (.aload_n 2, 1) := by decide +kernel
theorem d69_32 : decode (zB 69) 32 = .ok (.getfield 65, 3) := by decide +kernel
theorem d69_35 : decode (zB 69) 35 = .ok (.iconst 2, 1) := by decide +kernel
theorem d69_36 : decode (zB 69) 36 = .ok (.if_icmp .ne 9, 3) := by decide +kernel
theorem d69_39 : decode (zB 69) 39 = .ok (.aload_n 0, 1) := by decide +kernel
theorem d69_40 : decode (zB 69) 40 = .ok (.iload_n 1, 1) := by decide +kernel
theorem d69_41 : decode (zB 69) 41 = .ok (.aload_n 2, 1) := by decide +kernel
theorem d69_42 : decode (zB 69) 42 = .ok (.invokevirtual 81, 3) := by decide +kernel
theorem d69_45 : decode (zB 69) 45 = .ok (.iinc 1 1, 3) := by decide +kernel
theorem d69_48 : decode (zB 69) 48 = .ok (.goto (-46), 3) := by decide +kernel
theorem d69_51 : decode (zB 69) 51 = .ok (.return_, 1) := by decide +kernel
theorem l69 {d : Nat} {Q : Option Value → zM → Prop} {lo w u j c : Nat} {T : Nat → yT} {nm : Nat → Nat → Int32} {M0 : zM} {XF : yX} (k : ∀ M', CW M' lo w u j T c nm XF → Fi (FW lo) M0 M' → Q none M') : ∀ (r i : Nat) (a2 : Nat) (M1 : zM) (X1 : yX), i ≤ 3 → 3 < i + r → CW M1 lo w u j T c nm X1 → Fi (FW lo) M0 M1 → yln X1.2 + 13 * (3 - i) ≤ 240 → ytf T nm (3 - i) i X1 = XF → qW (zEv (d + 4)) 69 Q 2 [(1, .int (nI i)), (2, .ref a2), (0, .ref w)] [] M1 := by
  intro r
  induction r with
  | zero => intros; omega
  | succ r ih =>
    intro i a2 M1 X1 h1 h2 hC1 hF hl hy
    have hC1' := hC1
    obtain ⟨hS, hw, hT, hO, hR⟩ := hC1
    have hwo := hS.wo hw
    have hd := hw.d
    refine q_iload_n d69_2 rfl ?_
    refine q_iconstN (z := 3) d69_3 ?_
    refine nc_ge 51 d69_4 (by decide) (by omega) (by omega) (fun h4 => ?_) (fun h4 => ?_)
    · refine q_ret d69_51 rfl ?_
      rw [show 3 - i = 0 by omega] at hy
      have hy : X1 = XF := hy
      subst hy
      exact k _ hC1' hF
    · have hi3 : i < 3 := by omega
      have hsi := hS.sg (hw.sg hi3)
      have q0 : zi M1 (u + 3 + 8 * i) 0 = nI (gt (yxs X1 i)) := (hR.2.1 i hi3).1.1
      have hg5 : gt (yxs X1 i) ≤ 5 := (hO.2.2 i hi3).1
      have hyl := (ytu_ok (nm := nm) hO hi3).2.2
      rw [show 3 - i = (3 - (i + 1)) + 1 by omega, ytf] at hy
      refine q_aload_n d69_7 rfl ?_
      refine q_getr (c := 6) (f := 3) d69_8 ⟨rfl, rfl⟩ hwo.1 hwo.2.2.2.2.1 ?_
      refine q_iload_n d69_11 rfl ?_
      refine n_aald d69_12 hwo.2.2.2.2.2.1 (by decide) (by omega) (by decide) (hwo.2.2.2.2.2.2 _ (by omega)) ?_
      refine q_astore_n d69_13 (by decide) rfl ?_
      refine q_aload_n d69_14 rfl ?_
      refine q_getv (c := 5) (f := 0) d69_15 ⟨rfl, by decide⟩ hsi.1 q0 ?_
      refine q_iconstN (z := 1) d69_18 ?_
      refine nc_ne 31 d69_19 (by decide) (by omega) (by omega) (fun h19 => ?_) (fun h19 => ?_)
      · refine q_aload_n d69_31 rfl ?_
        refine q_getv (c := 5) (f := 0) d69_32 ⟨rfl, by decide⟩ hsi.1 q0 ?_
        refine q_iconstN (z := 2) d69_35 ?_
        refine nc_ne 45 d69_36 (by decide) (by omega) (by omega) (fun h36 => ?_) (fun h36 => ?_)
        · refine n_iinc 1 d69_45 (by decide) rfl rfl ?_
          refine q_goto 2 d69_48 (by decide) ?_
          first
          | (rw [ytu_1 h19] at hy hyl; exact ih (i + 1) _ _ _ (by omega) (by omega) hC2 (hF.trans f2) (by omega) hy)
          | (rw [ytu_2 h36] at hy hyl; exact ih (i + 1) _ _ _ (by omega) (by omega) hC2 (hF.trans f2) (by omega) hy)
          | (rw [ytu_0 h19 h36] at hy hyl; exact ih (i + 1) _ _ _ (by omega) (by omega) hC1' hF (by omega) hy)
        · refine q_aload_n d69_39 rfl ?_
          refine q_iload_n d69_40 rfl ?_
          refine q_aload_n d69_41 rfl ?_
          refine q_v2 d69_42 rfl rfl hwo.1 (Nat.le_of_ble_eq_true rfl) (c81 hC1' hi3 h36 (by omega) (fun M2 hC2 f2 => ?_))
          refine n_iinc 1 d69_45 (by decide) rfl rfl ?_
          refine q_goto 2 d69_48 (by decide) ?_
          first
          | (rw [ytu_1 h19] at hy hyl; exact ih (i + 1) _ _ _ (by omega) (by omega) hC2 (hF.trans f2) (by omega) hy)
          | (rw [ytu_2 h36] at hy hyl; exact ih (i + 1) _ _ _ (by omega) (by omega) hC2 (hF.trans f2) (by omega) hy)
          | (rw [ytu_0 h19 h36] at hy hyl; exact ih (i + 1) _ _ _ (by omega) (by omega) hC1' hF (by omega) hy)
      · refine q_aload_n d69_22 rfl ?_
        refine q_iload_n d69_23 rfl ?_
        refine q_aload_n d69_24 rfl ?_
        refine q_v2 d69_25 rfl rfl hwo.1 (Nat.le_of_ble_eq_true rfl) (c70 hC1' hi3 h19 (by omega) (fun M2 hC2 f2 => ?_))
        refine q_goto 45 d69_28 (by decide) ?_
        refine n_iinc 1 d69_45 (by decide) rfl rfl ?_
        refine q_goto 2 d69_48 (by decide) ?_
        first
        | (rw [ytu_1 h19] at hy hyl; exact ih (i + 1) _ _ _ (by omega) (by omega) hC2 (hF.trans f2) (by omega) hy)
        | (rw [ytu_2 h36] at hy hyl; exact ih (i + 1) _ _ _ (by omega) (by omega) hC2 (hF.trans f2) (by omega) hy)
        | (rw [ytu_0 h19 h36] at hy hyl; exact ih (i + 1) _ _ _ (by omega) (by omega) hC1' hF (by omega) hy)
theorem c69 {d : Nat} {M : zM} {Q : Option Value → zM → Prop} {lo w u j c : Nat} {T : Nat → yT} {nm : Nat → Nat → Int32} {X : yX} (hC : CW M lo w u j T c nm X) (hl : yln X.2 + 39 ≤ 240) (k : ∀ M', CW M' lo w u j T c nm (yti T nm X) → Fi (FW lo) M M' → Q none M') : qC (d + 5) 69 [.ref w] M Q := by
  have hC1' := hC
  obtain ⟨hS, hw, hT, hO, hR⟩ := hC
  have hwo := hS.wo hw
  have hd := hw.d
  refine qC_of (by decide) (Nat.le_of_ble_eq_true rfl) ?_
  refine q_iconstN (z := 0) d69_0 ?_
  refine q_istore_n d69_1 (by decide) rfl ?_
  refine q_iload_n d69_2 rfl ?_
  refine q_iconstN (z := 3) d69_3 ?_
  refine nc_ge 51 d69_4 (by decide) (by decide) (by decide) (fun q => absurd q (by decide)) (fun _ => ?_)
  have hi3 : 0 < 3 := by omega
  have hsi := hS.sg (hw.sg hi3)
  have q0 : zi M (u + 3 + 8 * 0) 0 = nI (gt (yxs X 0)) := (hR.2.1 0 hi3).1.1
  have hg5 : gt (yxs X 0) ≤ 5 := (hO.2.2 0 hi3).1
  have hyl := (ytu_ok (nm := nm) hO hi3).2.2
  have hy0 : ytf T nm 2 1 (ytu T nm 0 X) = yti T nm X := rfl
  refine q_aload_n d69_7 rfl ?_
  refine q_getr (c := 6) (f := 3) d69_8 ⟨rfl, rfl⟩ hwo.1 hwo.2.2.2.2.1 ?_
  refine q_iload_n d69_11 rfl ?_
  refine n_aald d69_12 hwo.2.2.2.2.2.1 (by decide) (by omega) (by decide) (hwo.2.2.2.2.2.2 _ (by omega)) ?_
  refine q_astore_n d69_13 (by decide) rfl ?_
  refine q_aload_n d69_14 rfl ?_
  refine q_getv (c := 5) (f := 0) d69_15 ⟨rfl, by decide⟩ hsi.1 q0 ?_
  refine q_iconstN (z := 1) d69_18 ?_
  refine nc_ne 31 d69_19 (by decide) (by omega) (by omega) (fun h19 => ?_) (fun h19 => ?_)
  · refine q_aload_n d69_31 rfl ?_
    refine q_getv (c := 5) (f := 0) d69_32 ⟨rfl, by decide⟩ hsi.1 q0 ?_
    refine q_iconstN (z := 2) d69_35 ?_
    refine nc_ne 45 d69_36 (by decide) (by omega) (by omega) (fun h36 => ?_) (fun h36 => ?_)
    · refine n_iinc 1 d69_45 (by decide) rfl rfl ?_
      refine q_goto 2 d69_48 (by decide) ?_
      first
      | (rw [ytu_1 h19] at hyl hy0; exact l69 (XF := yti T nm X) k 3 1 _ _ _ (by omega) (by omega) hC2 f2 (by omega) hy0)
      | (rw [ytu_2 h36] at hyl hy0; exact l69 (XF := yti T nm X) k 3 1 _ _ _ (by omega) (by omega) hC2 f2 (by omega) hy0)
      | (rw [ytu_0 h19 h36] at hyl hy0; exact l69 (XF := yti T nm X) k 3 1 _ _ _ (by omega) (by omega) hC1' (Fi.refl _ _) (by omega) hy0)
    · refine q_aload_n d69_39 rfl ?_
      refine q_iload_n d69_40 rfl ?_
      refine q_aload_n d69_41 rfl ?_
      refine q_v2 d69_42 rfl rfl hwo.1 (Nat.le_of_ble_eq_true rfl) (c81 hC1' (show 0 < 3 by omega) h36 (by omega) (fun M2 hC2 f2 => ?_))
      refine n_iinc 1 d69_45 (by decide) rfl rfl ?_
      refine q_goto 2 d69_48 (by decide) ?_
      first
      | (rw [ytu_1 h19] at hyl hy0; exact l69 (XF := yti T nm X) k 3 1 _ _ _ (by omega) (by omega) hC2 f2 (by omega) hy0)
      | (rw [ytu_2 h36] at hyl hy0; exact l69 (XF := yti T nm X) k 3 1 _ _ _ (by omega) (by omega) hC2 f2 (by omega) hy0)
      | (rw [ytu_0 h19 h36] at hyl hy0; exact l69 (XF := yti T nm X) k 3 1 _ _ _ (by omega) (by omega) hC1' (Fi.refl _ _) (by omega) hy0)
  · refine q_aload_n d69_22 rfl ?_
    refine q_iload_n d69_23 rfl ?_
    refine q_aload_n d69_24 rfl ?_
    refine q_v2 d69_25 rfl rfl hwo.1 (Nat.le_of_ble_eq_true rfl) (c70 hC1' (show 0 < 3 by omega) h19 (by omega) (fun M2 hC2 f2 => ?_))
    refine q_goto 45 d69_28 (by decide) ?_
    refine n_iinc 1 d69_45 (by decide) rfl rfl ?_
    refine q_goto 2 d69_48 (by decide) ?_
    first
    | (rw [ytu_1 h19] at hyl hy0; exact l69 (XF := yti T nm X) k 3 1 _ _ _ (by omega) (by omega) hC2 f2 (by omega) hy0)
    | (rw [ytu_2 h36] at hyl hy0; exact l69 (XF := yti T nm X) k 3 1 _ _ _ (by omega) (by omega) hC2 f2 (by omega) hy0)
    | (rw [ytu_0 h19 h36] at hyl hy0; exact l69 (XF := yti T nm X) k 3 1 _ _ _ (by omega) (by omega) hC1' (Fi.refl _ _) (by omega) hy0)
