/-! ===== contracts: the way back ===== -/
theorem nI_m1 {i : Nat} (h : i < 2147483648) : ¬ nI i = -1 := by
  intro e
  have h1 := congrArg Int32.toInt e
  rw [nI_toInt h, show (-1 : Int32).toInt = -1 from rfl] at h1
  omega
theorem yun_N {T : yT} {s : Nat} {X : yX} (hg : go (yxs X s) = []) : yun T s X = X := by
  unfold yun
  simp only [hg]
theorem d83_0 : decode (zB 83) 0 = .ok (.aload_n 2, 1) := by decide +kernel
theorem d83_1 : decode (zB 83) 1 = .ok (.iload_n 3, 1) := by decide +kernel
theorem d83_2 : decode (zB 83) 2 = .ok (.iconst (-1), 1) := by decide +kernel
theorem d83_3 : decode (zB 83) 3 = .ok (.invokevirtual 102, 3) := by decide +kernel
theorem d83_6 : decode (zB 83) 6 = .ok (.istore 4, 2) := by decide +kernel
theorem d83_8 : decode (zB 83) 8 = .ok (.aload_n 2, 1) := by decide +kernel
theorem d83_9 : decode (zB 83) 9 = .ok (.getfield 148, 3) := by decide +kernel
theorem d83_12 : decode (zB 83) 12 = .ok (.iload_n 3, 1) := by decide +kernel
theorem d83_13 : decode (zB 83) 13 = .ok (.invokestatic 109, 3) := by decide +kernel
theorem d83_16 : decode (zB 83) 16 = .ok (.istore 5, 2) := by decide +kernel
theorem d83_18 : decode (zB 83) 18 = .ok (.iload 5, 2) := by decide +kernel
theorem d83_20 : decode (zB 83) 20 = .ok (.ifCond .ne 20, 3) := by decide +kernel
theorem d83_23 : decode (zB 83) 23 = .ok (.aload_n 0, 1) := by decide +kernel
theorem d83_24 : decode (zB 83) 24 = .ok (.getfield 12, 3) := by decide +kernel
theorem d83_27 : decode (zB 83) 27 = .ok (.aload_n 2, 1) := by decide +kernel
theorem d83_28 : decode (zB 83) 28 = .ok (.getfield 113, 3) := by decide +kernel
theorem d83_31 : decode (zB 83) 31 = .ok (.iload_n 3, 1) := by decide +kernel
theorem d83_32 : decode (zB 83) 32 = .ok (.iload 4, 2) := by decide +kernel
theorem d83_34 : decode (zB 83) 34 = .ok (.iconst (-1), 1) := by decide +kernel
theorem d83_35 : decode (zB 83) 35 = .ok (.invokevirtual 117, 3) := by decide +kernel
theorem d83_38 : decode (zB 83) 38 = .ok (.istore 5, 2) := by decide +kernel
theorem d83_40 : decode (zB 83) 40 = .ok (.iload 5, 2) := by decide +kernel
theorem d83_42 : decode (zB 83) 42 = .ok (.ifCond .ne 34, 3) := by decide +kernel
theorem d83_45 : decode (zB 83) 45 = .ok (.aload_n 0, 1) := by decide +kernel
theorem d83_46 : decode (zB 83) 46 = .ok (.getfield 12, 3) := by decide +kernel
theorem d83_49 : decode (zB 83) 49 = .ok (.aload_n 2, 1) := by decide +kernel
theorem d83_50 : decode (zB 83) 50 = .ok (.getfield 113, 3) := by decide +kernel
theorem d83_53 : decode (zB 83) 53 = .ok (.iload_n 3, 1) := by decide +kernel
theorem d83_54 : decode (zB 83) 54 = .ok (.iload 4, 2) := by decide +kernel
theorem d83_56 : decode (zB 83) 56 = .ok (.iconst (-1), 1) := by decide +kernel
theorem d83_57 : decode (zB 83) 57 = .ok (.invokevirtual 121, 3) := by decide +kernel
theorem d83_60 : decode (zB 83) 60 = .ok (.aload_n 2, 1) := by decide +kernel
theorem d83_61 : decode (zB 83) 61 = .ok (.iload_n 3, 1) := by decide +kernel
theorem d83_62 : decode (zB 83) 62 = .ok (.invokevirtual 151, 3) := by decide +kernel
theorem d83_65 : decode (zB 83) 65 = .ok (.aload_n 0, 1) := by decide +kernel
theorem d83_66 : decode (zB 83) 66 = .ok (.getfield 28, 3) := by decide +kernel
theorem d83_69 : decode (zB 83) 69 = .ok (.iconst 3, 1) := by decide +kernel
theorem d83_70 : decode (zB 83) 70 = .ok (.iload_n 1, 1) := by decide +kernel
theorem d83_71 : decode (zB 83) 71 = .ok (.iload_n 3, 1) := by decide +kernel
theorem d83_72 : decode (zB 83) 72 = .ok (.invokevirtual 129, 3) := by decide +kernel
theorem d83_75 : decode (zB 83) 75 = .ok (.return_, 1) := by decide +kernel
theorem d83_76 : decode (zB 83) 76 = .ok (.aload_n 2, 1) := by decide +kernel
theorem d83_77 : decode (zB 83) 77 = .ok (.iload_n 3, 1) := by decide +kernel
theorem d83_78 : decode (zB 83) 78 = .ok (.iload 5, 2) := by decide +kernel
theorem d83_80 : decode (zB 83) 80 = .ok (.invokevirtual 154, 3) := by decide +kernel
theorem d83_83 : decode (zB 83) 83 = .ok (.aload_n 0, 1) := by decide +kernel
theorem d83_84 : decode (zB 83) 84 = .ok (.getfield 28, 3) := by decide +kernel
theorem d83_87 : decode (zB 83) 87 = .ok (.iconst 4, 1) := by decide +kernel
theorem d83_88 : decode (zB 83) 88 = .ok (.iload_n 1, 1) := by decide +kernel
theorem d83_89 : decode (zB 83) 89 = .ok (.iload_n 3, 1) := by decide +kernel
theorem d83_90 : decode (zB 83) 90 = .ok (.invokevirtual 129, 3) := by decide +kernel
theorem d83_93 : decode (zB 83) 93 = .ok (.return_, 1) := by decide +kernel
theorem c83 {d : Nat} {M : zM} {Q : Option Value → zM → Prop} {lo w u j c : Nat} {T : Nat → yT} {nm : Nat → Nat → Int32} {X : yX} {s : Nat} {i : Nat} {t : List Nat} (hC : CW M lo w u j T c nm X) (hs3 : s < 3) (h1 : gt (yxs X s) = 2) (hgo : go (yxs X s) = i :: t) (hl : yln X.2 + 1 ≤ 240) (k : ∀ M', CW M' lo w u j T c nm (yun (T (gx (yxs X s))) s X) → Fi (FW lo) M M' → Q none M') : qC (d + 3) 83 [.ref w, .int (nI s), .ref (u + 3 + 8 * s), .int (nI i)] M Q := by
  refine qC_of (by decide) (Nat.le_of_ble_eq_true rfl) ?_
  have hC0 := hC
  obtain ⟨hS, hw, hT, hO, hR⟩ := hC
  have hwo := hS.wo hw
  have hsa := hw.sg hs3
  have hs := hS.sg hsa
  have hd := hw.d
  have hRs : RS M (u + 3 + 8 * s) T (nm s) (yxs X s) := hR.2.1 s hs3
  have hRs' := hRs
  have hOs : OKS T c (yxs X s) := hO.2.2 s hs3
  have hx : gx (yxs X s) < c := hOs.2.1 (by show gt (yxs X s) ≠ 0; omega)
  have hc6 := hO.1.1
  have ho := hO.1.2 _ hx
  have hn := ho.n
  have hz : gz T (yxs X s) = tn (T (gx (yxs X s))) := by unfold gz; rw [if_neg (by omega)]
  obtain ⟨⟨q0, q1, q2⟩, ⟨q3, q4, q5⟩, ⟨q7, q8⟩, q9, qa, qb⟩ := hRs
  have e2 : zr M (u + 3 + 8 * s) 2 = some (20 + 7 * gx (yxs X s)) := q2.trans (if_neg (by show ¬ gt (yxs X s) = 0; omega))
  have hgd : gd (yxs X s) i = 1 := (hOs.2.2.2.1 i).mp (by rw [hgo]; exact List.mem_cons_self)
  have hi : i < tn (T (gx (yxs X s))) := Nat.lt_of_not_le (fun q => by have := hOs.2.2.2.2.1 i (by omega); omega)
  have hlen : (go (yxs X s)).length ≤ 12 := Nat.le_trans (OKS_len hOs (by omega)) (by omega)
  cases hpl : ypl (gq (yxs X s)) i with
  | true =>
    refine q_aload_n d83_0 rfl ?_
    refine q_iload_n d83_1 rfl ?_
    refine q_iconst (x := (-1)) d83_2 rfl ?_
    refine q_v2 d83_3 rfl rfl hs.1 (Nat.le_of_ble_eq_true rfl) (c73b hs (by omega) (qa i (by omega) hgd) ?_)
    refine q_istore d83_6 (by decide) rfl ?_
    refine q_aload_n d83_8 rfl ?_
    refine q_getr (c := 5) (f := 11) d83_9 ⟨rfl, rfl⟩ hs.1 (hs.2.2.1 3 (by decide)) ?_
    refine q_iload_n d83_12 rfl ?_
    refine q_s2 d83_13 (Or.inl rfl) rfl (Nat.le_of_ble_eq_true rfl) (c74t (hs.2.2.2 4 (by decide)) (by omega) (fun j hj => (qb j hj).2.1) hpl (fun M1 hp1 f1 => ?_))
    have g1 : Fi (FW lo) M M1 := f1.mono (fun b _ q => ⟨by omega, by omega⟩)
    have hRs1 : RS M1 (u + 3 + 8 * s) T (nm s) (gqS (yxs X s) (ysd (gq (yxs X s)) i)) := RS_gq hRs' hp1 f1
    have hC1 := hC0.up (X' := yss X s (gqS (yxs X s) (ysd (gq (yxs X s)) i))) (RW_sg hw hR hs3 hRs1 (f1.mono (fun b _ q => FS_x (by omega) (by omega))).fr) (OKW_ss hO hOs) g1
    have hC1' := hC1
    obtain ⟨hS1, -, hT1, hO1, hR1⟩ := hC1
    have hwo1 := hS1.wo hw
    have hs1 := hS1.sg hsa
    have e21 : zr M1 (u + 3 + 8 * s) 2 = some (20 + 7 * gx (yxs X s)) := (f1.r _ _).trans e2
    refine q_istore d83_16 (by decide) rfl ?_
    refine q_iload d83_18 rfl ?_
    refine n0_ne 40 d83_20 (by decide) (by decide) (fun _ => ?_) (fun q => absurd q (by decide))
    refine q_iload d83_40 rfl ?_
    refine n0_ne 76 d83_42 (by decide) (by decide) (fun _ => ?_) (fun q => absurd q (by decide))
    refine q_aload_n d83_76 rfl ?_
    refine q_iload_n d83_77 rfl ?_
    refine q_iload d83_78 rfl ?_
    refine q_v2 d83_80 rfl rfl hs1.1 (Nat.le_of_ble_eq_true rfl) (c86 hs1 hRs1 hgo hgd (by omega) hlen (fun M2 hR2s f2 => ?_))
    have g2 : Fi (FW lo) M1 M2 := f2.mono (Fb_m (by omega) (by omega))
    have hR2 := RW_sg hw hR1 hs3 hR2s f2.fr
    rw [yss_yss] at hR2
    have hC2 := hC1'.up (X' := yss X s (gwS (goS (gdS (gqS (yxs X s) (ysd (gq (yxs X s)) i)) (yu (gd (yxs X s)) i 3)) t) (yu (gw (yxs X s)) i (nI 1)))) hR2 (OKW_ss hO (OKS_undo (S := (gqS (yxs X s) (ysd (gq (yxs X s)) i))) hOs hgo (Or.inr rfl))) g2
    have hC2' := hC2
    obtain ⟨hS2, -, hT2, hO2, hR2⟩ := hC2
    have hwo2 := hS2.wo hw
    have hs2 := hS2.sg hsa
    have e22 : zr M2 (u + 3 + 8 * s) 2 = some (20 + 7 * gx (yxs X s)) := (f2.r _ _).trans e21
    have hjk2 : zk M2 j = (0, 0) := by
      obtain ⟨_, _, _, h1, h2, _⟩ := hS2
      rcases hw with ⟨-, -, -, rfl⟩ | ⟨-, -, -, rfl⟩
      · exact h1.1
      · exact h2.1
    refine q_aload_n d83_83 rfl ?_
    refine q_getr (c := 6) (f := 1) d83_84 ⟨rfl, rfl⟩ hwo2.1 hwo2.2.2.1 ?_
    refine q_iconstN (z := 4) d83_87 ?_
    refine q_iload_n d83_88 rfl ?_
    refine q_iload_n d83_89 rfl ?_
    refine q_v3 d83_90 rfl rfl hjk2 (Nat.le_of_ble_eq_true rfl) (c65 hS2 hR2.2.2 (by show yln X.2 + 1 ≤ 240; omega) (fun M3 hJ3 f3 => ?_))
    have g3 : Fi (FW lo) M2 M3 := f3.mono (Fb_m (by omega) (by omega))
    have hC3 := hC2'.up (RW_lg hw hR2 hJ3 f3.fr) hO2 g3
    rw [yun_B (r := (nI 1)) hgo (by rw [hpl]; rfl) (by decide)] at k
    refine q_ret d83_93 rfl ?_
    exact k _ hC3 ((g1.trans g2).trans g3)
  | false =>
    refine q_aload_n d83_0 rfl ?_
    refine q_iload_n d83_1 rfl ?_
    refine q_iconst (x := (-1)) d83_2 rfl ?_
    refine q_v2 d83_3 rfl rfl hs.1 (Nat.le_of_ble_eq_true rfl) (c73b hs (by omega) (qa i (by omega) hgd) ?_)
    refine q_istore d83_6 (by decide) rfl ?_
    refine q_aload_n d83_8 rfl ?_
    refine q_getr (c := 5) (f := 11) d83_9 ⟨rfl, rfl⟩ hs.1 (hs.2.2.1 3 (by decide)) ?_
    refine q_iload_n d83_12 rfl ?_
    refine q_s2 d83_13 (Or.inl rfl) rfl (Nat.le_of_ble_eq_true rfl) (c74f (hs.2.2.2 4 (by decide)) (by omega) (fun j hj => (qb j hj).2.1) hpl (fun M1 hp1 f1 => ?_))
    have g1 : Fi (FW lo) M M1 := f1.mono (fun b _ q => ⟨by omega, by omega⟩)
    have hRs1 : RS M1 (u + 3 + 8 * s) T (nm s) (gqS (yxs X s) (ysd (gq (yxs X s)) i)) := RS_gq hRs' hp1 f1
    have hC1 := hC0.up (X' := yss X s (gqS (yxs X s) (ysd (gq (yxs X s)) i))) (RW_sg hw hR hs3 hRs1 (f1.mono (fun b _ q => FS_x (by omega) (by omega))).fr) (OKW_ss hO hOs) g1
    have hC1' := hC1
    obtain ⟨hS1, -, hT1, hO1, hR1⟩ := hC1
    have hwo1 := hS1.wo hw
    have hs1 := hS1.sg hsa
    have e21 : zr M1 (u + 3 + 8 * s) 2 = some (20 + 7 * gx (yxs X s)) := (f1.r _ _).trans e2
    refine q_istore d83_16 (by decide) rfl ?_
    refine q_iload d83_18 rfl ?_
    refine n0_ne 40 d83_20 (by decide) (by decide) (fun q => absurd q (by decide)) (fun _ => ?_)
    refine q_aload_n d83_23 rfl ?_
    refine q_getr (c := 6) (f := 2) d83_24 ⟨rfl, rfl⟩ hwo1.1 hwo1.2.2.2.1 ?_
    refine q_aload_n d83_27 rfl ?_
    refine q_getr (c := 5) (f := 2) d83_28 ⟨rfl, rfl⟩ hs1.1 e21 ?_
    refine q_iload_n d83_31 rfl ?_
    refine q_iload d83_32 rfl ?_
    refine q_iconst (x := (-1)) d83_34 rfl ?_
    refine q_v4 d83_35 rfl rfl (hS1.pu hw).1 (Nat.le_of_ble_eq_true rfl) (c46 (P := X.1.1) (hS1.pu hw) hR1.1 (hS1.pr (by omega)) (hT1 _ hx) ho hi ?_)
    refine q_istore d83_38 (by decide) rfl ?_
    refine q_iload d83_40 rfl ?_
    refine i0_ne 76 d83_42 (by decide) (fun h42 => ?_) (fun h42 => ?_)
    · refine q_aload_n d83_76 rfl ?_
      refine q_iload_n d83_77 rfl ?_
      refine q_iload d83_78 rfl ?_
      refine q_v2 d83_80 rfl rfl hs1.1 (Nat.le_of_ble_eq_true rfl) (c86 hs1 hRs1 hgo hgd (by omega) hlen (fun M2 hR2s f2 => ?_))
      have g2 : Fi (FW lo) M1 M2 := f2.mono (Fb_m (by omega) (by omega))
      have hR2 := RW_sg hw hR1 hs3 hR2s f2.fr
      rw [yss_yss] at hR2
      have hC2 := hC1'.up (X' := yss X s (gwS (goS (gdS (gqS (yxs X s) (ysd (gq (yxs X s)) i)) (yu (gd (yxs X s)) i 3)) t) (yu (gw (yxs X s)) i (yob (T (gx (yxs X s))) X.1.1 i (gb (yxs X s) i) (-1))))) hR2 (OKW_ss hO (OKS_undo (S := (gqS (yxs X s) (ysd (gq (yxs X s)) i))) hOs hgo (Or.inr rfl))) g2
      have hC2' := hC2
      obtain ⟨hS2, -, hT2, hO2, hR2⟩ := hC2
      have hwo2 := hS2.wo hw
      have hs2 := hS2.sg hsa
      have e22 : zr M2 (u + 3 + 8 * s) 2 = some (20 + 7 * gx (yxs X s)) := (f2.r _ _).trans e21
      have hjk2 : zk M2 j = (0, 0) := by
        obtain ⟨_, _, _, h1, h2, _⟩ := hS2
        rcases hw with ⟨-, -, -, rfl⟩ | ⟨-, -, -, rfl⟩
        · exact h1.1
        · exact h2.1
      refine q_aload_n d83_83 rfl ?_
      refine q_getr (c := 6) (f := 1) d83_84 ⟨rfl, rfl⟩ hwo2.1 hwo2.2.2.1 ?_
      refine q_iconstN (z := 4) d83_87 ?_
      refine q_iload_n d83_88 rfl ?_
      refine q_iload_n d83_89 rfl ?_
      refine q_v3 d83_90 rfl rfl hjk2 (Nat.le_of_ble_eq_true rfl) (c65 hS2 hR2.2.2 (by show yln X.2 + 1 ≤ 240; omega) (fun M3 hJ3 f3 => ?_))
      have g3 : Fi (FW lo) M2 M3 := f3.mono (Fb_m (by omega) (by omega))
      have hC3 := hC2'.up (RW_lg hw hR2 hJ3 f3.fr) hO2 g3
      rw [yun_B (r := (yob (T (gx (yxs X s))) X.1.1 i (gb (yxs X s) i) (-1))) hgo (by rw [hpl]; rfl) h42] at k
      refine q_ret d83_93 rfl ?_
      exact k _ hC3 ((g1.trans g2).trans g3)
    · refine q_aload_n d83_45 rfl ?_
      refine q_getr (c := 6) (f := 2) d83_46 ⟨rfl, rfl⟩ hwo1.1 hwo1.2.2.2.1 ?_
      refine q_aload_n d83_49 rfl ?_
      refine q_getr (c := 5) (f := 2) d83_50 ⟨rfl, rfl⟩ hs1.1 e21 ?_
      refine q_iload_n d83_53 rfl ?_
      refine q_iload d83_54 rfl ?_
      refine q_iconst (x := (-1)) d83_56 rfl ?_
      refine q_v4 d83_57 rfl rfl (hS1.pu hw).1 (Nat.le_of_ble_eq_true rfl) (c51 (P := X.1.1) (hS1.pu hw) hR1.1 (hS1.pr (by omega)) (hT1 _ hx) ho hi (by omega) (fun M2 hP2 f2 => ?_))
      have g2 : Fi (FW lo) M1 M2 := f2.mono (Fb_m (by omega) (by omega))
      have hC2 := hC1'.up (RW_pu hw hR1 hP2 f2.fr) ⟨hO1.1, OKP_ch ho hi hO1.2.1 h42, hO1.2.2⟩ g2
      have hC2' := hC2
      obtain ⟨hS2, -, hT2, hO2, hR2⟩ := hC2
      have hwo2 := hS2.wo hw
      have hs2 := hS2.sg hsa
      have hR2s := RS_fr hRs1 f2.fr (fun b k h1 h2 q => by have := q.2; omega)
      have e22 : zr M2 (u + 3 + 8 * s) 2 = some (20 + 7 * gx (yxs X s)) := (f2.r _ _).trans e21
      refine q_aload_n d83_60 rfl ?_
      refine q_iload_n d83_61 rfl ?_
      refine q_v1 d83_62 rfl rfl hs2.1 (Nat.le_of_ble_eq_true rfl) (c84 hs2 hR2s hgo hgd (by omega) hlen (fun M3 hR3s f3 => ?_))
      have g3 : Fi (FW lo) M2 M3 := f3.mono (Fb_m (by omega) (by omega))
      have hR3 := RW_sg hw hR2 hs3 hR3s f3.fr
      rw [yss_p] at hR3
      have hC3 := hC2'.up (X' := yss (ysp X (ych (T (gx (yxs X s))) X.1.1 i (gb (yxs X s) i) (-1))) s (goS (gdS (gqS (yxs X s) (ysd (gq (yxs X s)) i)) (yu (gd (yxs X s)) i 2)) t)) hR3 (OKW_ss (X := ysp X _) ⟨hO1.1, hO2.2.1, hO.2.2⟩ (OKS_undo (S := (gqS (yxs X s) (ysd (gq (yxs X s)) i))) hOs hgo (Or.inl rfl))) g3
      have hC3' := hC3
      obtain ⟨hS3, -, hT3, hO3, hR3⟩ := hC3
      have hwo3 := hS3.wo hw
      have hs3 := hS3.sg hsa
      have e23 : zr M3 (u + 3 + 8 * s) 2 = some (20 + 7 * gx (yxs X s)) := (f3.r _ _).trans e22
      have hjk3 : zk M3 j = (0, 0) := by
        obtain ⟨_, _, _, h1, h2, _⟩ := hS3
        rcases hw with ⟨-, -, -, rfl⟩ | ⟨-, -, -, rfl⟩
        · exact h1.1
        · exact h2.1
      refine q_aload_n d83_65 rfl ?_
      refine q_getr (c := 6) (f := 1) d83_66 ⟨rfl, rfl⟩ hwo3.1 hwo3.2.2.1 ?_
      refine q_iconstN (z := 3) d83_69 ?_
      refine q_iload_n d83_70 rfl ?_
      refine q_iload_n d83_71 rfl ?_
      refine q_v3 d83_72 rfl rfl hjk3 (Nat.le_of_ble_eq_true rfl) (c65 hS3 hR3.2.2 (by show yln X.2 + 1 ≤ 240; omega) (fun M4 hJ4 f4 => ?_))
      have g4 : Fi (FW lo) M3 M4 := f4.mono (Fb_m (by omega) (by omega))
      have hC4 := hC3'.up (RW_lg hw hR3 hJ4 f4.fr) hO3 g4
      rw [yun_A hgo hpl h42] at k
      refine q_ret d83_75 rfl ?_
      exact k _ hC4 (((g1.trans g2).trans g3).trans g4)
theorem d81_0 : decode (zB 81) 0 = .ok (.aload_n 2, 1) := by decide +kernel
theorem d81_1 : decode (zB 81) 1 = .ok (.invokevirtual 142, 3) := by decide +kernel
theorem d81_4 : decode (zB 81) 4 = .ok (.istore_n 3, 1) := by decide +kernel
theorem d81_5 : decode (zB 81) 5 = .ok (.iload_n 3, 1) := by decide +kernel
theorem d81_6 : decode (zB 81) 6 = .ok (.iconst (-1), 1) := by decide +kernel
theorem d81_7 : decode (zB 81) 7 = .ok (.if_icmp .eq 10, 3) := by decide +kernel
theorem d81_10 : decode (zB 81) 10 = .ok (.aload_n 0, 1) := by decide +kernel
theorem d81_11 : decode (zB 81) 11 = .ok (.iload_n 1, 1) := by decide +kernel
theorem d81_12 : decode (zB 81) 12 = .ok (.aload_n 2, 1) := by decide +kernel
theorem d81_13 : decode (zB 81) 13 = .ok (.iload_n 3, 1) := by decide +kernel
theorem d81_14 : decode (zB 81) 14 = .ok (.invokevirtual 145, 3) := by decide +kernel
theorem d81_17 : decode (zB 81) 17 = .ok (.aload_n 2, 1) := by decide +kernel
theorem d81_18 : decode (zB 81) 18 = .ok (.getfield 68, 3) := by decide +kernel
theorem d81_21 : decode (zB 81) 21 = .ok (.ifCond .ne 10, 3) := by decide +kernel
theorem d81_24 : decode (zB 81) 24 = .ok (.aload_n 0, 1) := by decide +kernel
theorem d81_25 : decode (zB 81) 25 = .ok (.iload_n 1, 1) := by decide +kernel
theorem d81_26 : decode (zB 81) 26 = .ok (.aload_n 2, 1) := by decide +kernel
theorem d81_27 : decode (zB 81) 27 = .ok (.iconst 4, 1) := by decide +kernel
theorem d81_28 : decode (zB 81) 28 = .ok (.invokevirtual 99, 3) := by decide +kernel
theorem d81_31 : decode (zB 81) 31 = .ok (.return_, 1) := by decide +kernel
theorem yba_eq {T : yT} {s : Nat} {X : yX} : yba T s X = if gm (yxs (yun T s X) s) 1 = 0 then yen (yun T s X) s 4 else yun T s X := rfl
theorem c81 {d : Nat} {M : zM} {Q : Option Value → zM → Prop} {lo w u j c : Nat} {T : Nat → yT} {nm : Nat → Nat → Int32} {X : yX} {s : Nat} (hC : CW M lo w u j T c nm X) (hs3 : s < 3) (h1 : gt (yxs X s) = 2) (hl : yln X.2 + 2 ≤ 240) (k : ∀ M', CW M' lo w u j T c nm (yba (T (gx (yxs X s))) s X) → Fi (FW lo) M M' → Q none M') : qC (d + 4) 81 [.ref w, .int (nI s), .ref (u + 3 + 8 * s)] M Q := by
  refine qC_of (by decide) (Nat.le_of_ble_eq_true rfl) ?_
  have hC0 := hC
  obtain ⟨hS, hw, hT, hO, hR⟩ := hC
  have hwo := hS.wo hw
  have hsa := hw.sg hs3
  have hs := hS.sg hsa
  have hd := hw.d
  have hRs : RS M (u + 3 + 8 * s) T (nm s) (yxs X s) := hR.2.1 s hs3
  have hRs' := hRs
  have hOs : OKS T c (yxs X s) := hO.2.2 s hs3
  have hx : gx (yxs X s) < c := hOs.2.1 (by show gt (yxs X s) ≠ 0; omega)
  have hc6 := hO.1.1
  have ho := hO.1.2 _ hx
  have hn := ho.n
  have hz : gz T (yxs X s) = tn (T (gx (yxs X s))) := by unfold gz; rw [if_neg (by omega)]
  obtain ⟨⟨q0, q1, q2⟩, ⟨q3, q4, q5⟩, ⟨q7, q8⟩, q9, qa, qb⟩ := hRs
  have e2 : zr M (u + 3 + 8 * s) 2 = some (20 + 7 * gx (yxs X s)) := q2.trans (if_neg (by show ¬ gt (yxs X s) = 0; omega))
  have hb0 := gm_lt (yxs X s) 1
  cases hgo : go (yxs X s) with
  | nil =>
    refine q_aload_n d81_0 rfl ?_
    refine q_v0 d81_1 rfl rfl hs.1 (Nat.le_of_ble_eq_true rfl) (c82 (l := []) hs (by rw [q7, hgo]) (by decide) (fun j hj => absurd hj (Nat.not_lt_zero _)) ?_)
    refine q_istore_n d81_4 (by decide) rfl ?_
    refine q_iload_n d81_5 rfl ?_
    refine q_iconst (x := (-1)) d81_6 rfl ?_
    refine ic_eq 17 d81_7 (by decide) (fun h7 => ?_) (fun h7 => (False.elim (h7 rfl)))
    refine q_aload_n d81_17 rfl ?_
    refine q_getv (c := 5) (f := 3) d81_18 ⟨rfl, by decide⟩ hs.1 q3 ?_
    refine n0_ne 31 d81_21 (by decide) (by omega) (fun h21 => ?_) (fun h21 => ?_)
    · refine q_ret d81_31 rfl ?_
      rw [yba_eq, yun_N hgo] at k
      first
      | (rw [if_pos h21] at k; exact k _ hC2 f2)
      | (rw [if_neg h21] at k; exact k _ hC0 (Fi.refl _ _))
    · refine q_aload_n d81_24 rfl ?_
      refine q_iload_n d81_25 rfl ?_
      refine q_aload_n d81_26 rfl ?_
      refine q_iconstN (z := 4) d81_27 ?_
      refine q_v3 d81_28 rfl rfl hwo.1 (Nat.le_of_ble_eq_true rfl) (c79 hC0 hs3 (by omega) (by decide) (by decide) (by omega) (fun M2 hC2 f2 => ?_))
      refine q_ret d81_31 rfl ?_
      rw [yba_eq, yun_N hgo] at k
      first
      | (rw [if_pos h21] at k; exact k _ hC2 f2)
      | (rw [if_neg h21] at k; exact k _ hC0 (Fi.refl _ _))
  | cons i t =>
    have hlen : (go (yxs X s)).length ≤ 12 := Nat.le_trans (OKS_len hOs (by omega)) (by omega)
    have hgd : gd (yxs X s) i = 1 := (hOs.2.2.2.1 i).mp (by rw [hgo]; exact List.mem_cons_self)
    have hi : i < tn (T (gx (yxs X s))) := Nat.lt_of_not_le (fun q => by have := hOs.2.2.2.2.1 i (by omega); omega)
    refine q_aload_n d81_0 rfl ?_
    refine q_v0 d81_1 rfl rfl hs.1 (Nat.le_of_ble_eq_true rfl) (c82 (l := i :: t) hs (by rw [q7, hgo]) (by rw [← hgo]; exact hlen) (fun j hj => by rw [hgo] at q8; exact q8 j hj) ?_)
    refine q_istore_n d81_4 (by decide) rfl ?_
    refine q_iload_n d81_5 rfl ?_
    refine q_iconst (x := (-1)) d81_6 rfl ?_
    refine ic_eq 17 d81_7 (by decide) (fun h7 => (False.elim (nI_m1 (by omega) h7))) (fun h7 => ?_)
    refine q_aload_n d81_10 rfl ?_
    refine q_iload_n d81_11 rfl ?_
    refine q_aload_n d81_12 rfl ?_
    refine q_iload_n d81_13 rfl ?_
    refine q_v3 d81_14 rfl rfl hwo.1 (Nat.le_of_ble_eq_true rfl) (c83 hC0 hs3 h1 hgo (by omega) (fun M1 hC1 f1 => ?_))
    have hy := yun_ok hO hs3 (show gt (yxs X s) ≠ 0 by omega)
    have hR1 : RS M1 (u + 3 + 8 * s) T (nm s) (yxs (yun (T (gx (yxs X s))) s X) s) := hC1.2.2.2.2.2.1 s hs3
    have hs1 := hC1.1.sg hsa
    have hwo1 := hC1.1.wo hw
    have hq3 := hR1.2.1.1
    have hb := gm_lt (yxs (yun (T (gx (yxs X s))) s X) s) 1
    refine q_aload_n d81_17 rfl ?_
    refine q_getv (c := 5) (f := 3) d81_18 ⟨rfl, by decide⟩ hs1.1 hq3 ?_
    refine n0_ne 31 d81_21 (by decide) (by omega) (fun h21 => ?_) (fun h21 => ?_)
    · refine q_ret d81_31 rfl ?_
      rw [yba_eq] at k
      first
      | (rw [if_pos h21] at k; exact k _ hC2 (f1.trans f2))
      | (rw [if_neg h21] at k; exact k _ hC1 f1)
    · refine q_aload_n d81_24 rfl ?_
      refine q_iload_n d81_25 rfl ?_
      refine q_aload_n d81_26 rfl ?_
      refine q_iconstN (z := 4) d81_27 ?_
      refine q_v3 d81_28 rfl rfl hwo1.1 (Nat.le_of_ble_eq_true rfl) (c79 hC1 hs3 (by omega) (by decide) (by decide) (by omega) (fun M2 hC2 f2 => ?_))
      refine q_ret d81_31 rfl ?_
      rw [yba_eq] at k
      first
      | (rw [if_pos h21] at k; exact k _ hC2 (f1.trans f2))
      | (rw [if_neg h21] at k; exact k _ hC1 f1)
