/-! ===== contracts: a try ===== -/
theorem yss_yss (X : yX) (s : Nat) (A B : yS) : yss (yss X s A) s B = yss X s B := by
  unfold yss
  have : yu (yu X.1.2 s A) s B = yu X.1.2 s B := by
    funext k; by_cases e : k = s
    · subst e; rw [yu_s, yu_s]
    · rw [yu_n e, yu_n e, yu_n e]
  show ((X.1.1, yu (yu X.1.2 s A) s B), X.2) = _
  rw [this]
theorem yss_p (X : yX) (s : Nat) (A B : yS) (P : yP) : yss (ysp (yss X s A) P) s B = yss (ysp X P) s B := yss_yss (ysp X P) s A B
theorem ytr_A {T : yT} {n : Int32} {s i : Nat} {X : yX} (hp : ypl (gp (yxs X s)) i = false) (h : yob T X.1.1 i n 1 = 0) : ytr T n s i X = yno (yss (ysp X (ych T X.1.1 i n 1)) s (yDn (gpS (yxs X s) (ysd (gp (yxs X s)) i)) i n)) (1, s, i) := by
  unfold ytr
  simp only [hp, Bool.false_eq_true, if_false]
  rw [if_pos h]
theorem ytr_B {T : yT} {n r : Int32} {s i : Nat} {X : yX} (hr : (if ypl (gp (yxs X s)) i then 1 else yob T X.1.1 i n 1) = r) (h0 : ¬ r = 0) : ytr T n s i X =
    if ypa T (gm (yxs X s) 1) = true ∧ ¬ gf (yxs X s) i + 1 < nI 3 then yen (yno (yss X s (yfS (gpS (yxs X s) (ysd (gp (yxs X s)) i)) i r (ypa T (gm (yxs X s) 1)))) (2, s, i)) s 5
    else yno (yss X s (yfS (gpS (yxs X s) (ysd (gp (yxs X s)) i)) i r (ypa T (gm (yxs X s) 1)))) (2, s, i) := by
  subst hr
  unfold ytr
  simp only []
  rw [if_neg h0]
theorem yfS_f (S : yS) (i : Nat) (r : Int32) (p : Bool) : gf (yfS S i r p) = yu (gf S) i (gf S i + 1) := by
  unfold yfS; cases p <;> rfl
theorem yun_A {T : yT} {s i : Nat} {t : List Nat} {X : yX} (hg : go (yxs X s) = i :: t) (hp : ypl (gq (yxs X s)) i = false) (h : yob T X.1.1 i (gb (yxs X s) i) (-1) = 0) : yun T s X = yno (yss (ysp X (ych T X.1.1 i (gb (yxs X s) i) (-1))) s (goS (gdS (gqS (yxs X s) (ysd (gq (yxs X s)) i)) (yu (gd (yxs X s)) i 2)) t)) (3, s, i) := by
  unfold yun
  simp only [hg, hp, Bool.false_eq_true, if_false]
  rw [if_pos h]
  rfl
theorem yun_B {T : yT} {s i : Nat} {r : Int32} {t : List Nat} {X : yX} (hg : go (yxs X s) = i :: t) (hr : (if ypl (gq (yxs X s)) i then 1 else yob T X.1.1 i (gb (yxs X s) i) (-1)) = r) (h0 : ¬ r = 0) : yun T s X = yno (yss X s (gwS (goS (gdS (gqS (yxs X s) (ysd (gq (yxs X s)) i)) (yu (gd (yxs X s)) i 3)) t) (yu (gw (yxs X s)) i r))) (4, s, i) := by
  subst hr
  unfold yun
  simp only [hg]
  rw [if_neg h0]
  rfl
theorem d72_0 : decode (zB 72) 0 = .ok (.aload_n 2, 1) := by decide +kernel
theorem d72_1 : decode (zB 72) 1 = .ok (.iload_n 3, 1) := by decide +kernel
theorem d72_2 : decode (zB 72) 2 = .ok (.iconst 1, 1) := by decide +kernel
theorem d72_3 : decode (zB 72) 3 = .ok (.invokevirtual 102, 3) := by decide +kernel
theorem d72_6 : decode (zB 72) 6 = .ok (.istore 4, 2) := by decide +kernel
theorem d72_8 : decode (zB 72) 8 = .ok (.aload_n 2, 1) := by decide +kernel
theorem d72_9 : decode (zB 72) 9 = .ok (.getfield 106, 3) := by decide +kernel
theorem d72_12 : decode (zB 72) 12 = .ok (.iload_n 3, 1) := by decide +kernel
theorem d72_13 : decode (zB 72) 13 = .ok (.invokestatic 109, 3) := by decide +kernel
theorem d72_16 : decode (zB 72) 16 = .ok (.istore 5, 2) := by decide +kernel
theorem d72_18 : decode (zB 72) 18 = .ok (.iload 5, 2) := by decide +kernel
theorem d72_20 : decode (zB 72) 20 = .ok (.ifCond .ne 20, 3) := by decide +kernel
theorem d72_23 : decode (zB 72) 23 = .ok (.aload_n 0, 1) := by decide +kernel
theorem d72_24 : decode (zB 72) 24 = .ok (.getfield 12, 3) := by decide +kernel
theorem d72_27 : decode (zB 72) 27 = .ok (.aload_n 2, 1) := by decide +kernel
theorem d72_28 : decode (zB 72) 28 = .ok (.getfield 113, 3) := by decide +kernel
theorem d72_31 : decode (zB 72) 31 = .ok (.iload_n 3, 1) := by decide +kernel
theorem d72_32 : decode (zB 72) 32 = .ok (.iload 4, 2) := by decide +kernel
theorem d72_34 : decode (zB 72) 34 = .ok (.iconst 1, 1) := by decide +kernel
theorem d72_35 : decode (zB 72) 35 = .ok (.invokevirtual 117, 3) := by decide +kernel
theorem d72_38 : decode (zB 72) 38 = .ok (.istore 5, 2) := by decide +kernel
theorem d72_40 : decode (zB 72) 40 = .ok (.iload 5, 2) := by decide +kernel
theorem d72_42 : decode (zB 72) 42 = .ok (.ifCond .ne 34, 3) := by decide +kernel
theorem d72_45 : decode (zB 72) 45 = .ok (.aload_n 0, 1) := by decide +kernel
theorem d72_46 : decode (zB 72) 46 = .ok (.getfield 12, 3) := by decide +kernel
theorem d72_49 : decode (zB 72) 49 = .ok (.aload_n 2, 1) := by decide +kernel
theorem d72_50 : decode (zB 72) 50 = .ok (.getfield 113, 3) := by decide +kernel
theorem d72_53 : decode (zB 72) 53 = .ok (.iload_n 3, 1) := by decide +kernel
theorem d72_54 : decode (zB 72) 54 = .ok (.iload 4, 2) := by decide +kernel
theorem d72_56 : decode (zB 72) 56 = .ok (.iconst 1, 1) := by decide +kernel
theorem d72_57 : decode (zB 72) 57 = .ok (.invokevirtual 121, 3) := by decide +kernel
theorem d72_60 : decode (zB 72) 60 = .ok (.aload_n 2, 1) := by decide +kernel
theorem d72_61 : decode (zB 72) 61 = .ok (.iload_n 3, 1) := by decide +kernel
theorem d72_62 : decode (zB 72) 62 = .ok (.invokevirtual 125, 3) := by decide +kernel
theorem d72_65 : decode (zB 72) 65 = .ok (.aload_n 0, 1) := by decide +kernel
theorem d72_66 : decode (zB 72) 66 = .ok (.getfield 28, 3) := by decide +kernel
theorem d72_69 : decode (zB 72) 69 = .ok (.iconst 1, 1) := by decide +kernel
theorem d72_70 : decode (zB 72) 70 = .ok (.iload_n 1, 1) := by decide +kernel
theorem d72_71 : decode (zB 72) 71 = .ok (.iload_n 3, 1) := by decide +kernel
theorem d72_72 : decode (zB 72) 72 = .ok (.invokevirtual 129, 3) := by decide +kernel
theorem d72_75 : decode (zB 72) 75 = .ok (.return_, 1) := by decide +kernel
theorem d72_76 : decode (zB 72) 76 = .ok (.aload_n 2, 1) := by decide +kernel
theorem d72_77 : decode (zB 72) 77 = .ok (.iload_n 3, 1) := by decide +kernel
theorem d72_78 : decode (zB 72) 78 = .ok (.iload 5, 2) := by decide +kernel
theorem d72_80 : decode (zB 72) 80 = .ok (.invokevirtual 135, 3) := by decide +kernel
theorem d72_83 : decode (zB 72) 83 = .ok (.aload_n 0, 1) := by decide +kernel
theorem d72_84 : decode (zB 72) 84 = .ok (.getfield 28, 3) := by decide +kernel
theorem d72_87 : decode (zB 72) 87 = .ok (.iconst 2, 1) := by decide +kernel
theorem d72_88 : decode (zB 72) 88 = .ok (.iload_n 1, 1) := by decide +kernel
theorem d72_89 : decode (zB 72) 89 = .ok (.iload_n 3, 1) := by decide +kernel
theorem d72_90 : decode (zB 72) 90 = .ok (.invokevirtual 129, 3) := by decide +kernel
theorem d72_93 : decode (zB 72) 93 = .ok (.aload_n 2, 1) := by decide +kernel
theorem d72_94 : decode (zB 72) 94 = .ok (.getfield 65, 3) := by decide +kernel
theorem d72_97 : decode (zB 72) 97 = .ok (.iconst 1, 1) := by decide +kernel
theorem d72_98 : decode (zB 72) 98 = .ok (.if_icmp .ne 18, 3) := by decide +kernel
theorem d72_101 : decode (zB 72) 101 = .ok (.aload_n 2, 1) := by decide +kernel
theorem d72_102 : decode (zB 72) 102 = .ok (.iload_n 3, 1) := by decide +kernel
theorem d72_103 : decode (zB 72) 103 = .ok (.invokevirtual 139, 3) := by decide +kernel
theorem d72_106 : decode (zB 72) 106 = .ok (.ifCond .eq 10, 3) := by decide +kernel
theorem d72_109 : decode (zB 72) 109 = .ok (.aload_n 0, 1) := by decide +kernel
theorem d72_110 : decode (zB 72) 110 = .ok (.iload_n 1, 1) := by decide +kernel
theorem d72_111 : decode (zB 72) 111 = .ok (.aload_n 2, 1) := by decide +kernel
theorem d72_112 : decode (zB 72) 112 = .ok (.iconst 5, 1) := by decide +kernel
theorem d72_113 : decode (zB 72) 113 = .ok (.invokevirtual 99, 3) := by decide +kernel
theorem d72_116 : decode (zB 72) 116 = .ok (.return_, 1) := by decide +kernel
theorem c72 {d : Nat} {M : zM} {Q : Option Value → zM → Prop} {lo w u j c : Nat} {T : Nat → yT} {nm : Nat → Nat → Int32} {X : yX} {s : Nat} {i : Nat} (hC : CW M lo w u j T c nm X) (hs3 : s < 3) (h1 : gt (yxs X s) = 1) (hi : i < tn (T (gx (yxs X s)))) (h0 : gd (yxs X s) i = 0) (hl : yln X.2 + 2 ≤ 240) (k : ∀ M', CW M' lo w u j T c nm (ytr (T (gx (yxs X s))) (nm s i) s i X) → Fi (FW lo) M M' → Q none M') : qC (d + 3) 72 [.ref w, .int (nI s), .ref (u + 3 + 8 * s), .int (nI i)] M Q := by
  refine qC_of (by decide) (Nat.le_of_ble_eq_true rfl) ?_
  have hC0 := hC
  obtain ⟨hS, hw, hT, hO, hR⟩ := hC
  have hwo := hS.wo hw
  have hsa := hw.sg hs3
  have hs := hS.sg hsa
  have hd := hw.d
  have hRs : RS M (u + 3 + 8 * s) T (nm s) (yxs X s) := hR.2.1 s hs3
  have hRs' := hRs
  have hOs : OKS T c (yxs X s) := hO.2.2 s hs3
  have hx : gx (yxs X s) < c := hOs.2.1 (by show gt (yxs X s) ≠ 0; omega)
  have hc6 := hO.1.1
  have ho := hO.1.2 _ hx
  have hn := ho.n
  have hz : gz T (yxs X s) = tn (T (gx (yxs X s))) := by unfold gz; rw [if_neg (by omega)]
  obtain ⟨⟨q0, q1, q2⟩, ⟨q3, q4, q5⟩, ⟨q7, q8⟩, q9, qa, qb⟩ := hRs
  have e2 : zr M (u + 3 + 8 * s) 2 = some (20 + 7 * gx (yxs X s)) := q2.trans (if_neg (by show ¬ gt (yxs X s) = 0; omega))
  have hlen : (go (yxs X s)).length < 12 := by
    have h2 := OKS_len (OKS_done (S := yxs X s) (n := 0) hOs (show i < gz T (yxs X s) by omega) h0) (show gz T (yxs X s) ≤ 12 by omega)
    have h3 : (go (yxs X s)).length + 1 ≤ gz T (yxs X s) := h2
    omega
  cases hpl : ypl (gp (yxs X s)) i with
  | true =>
    refine q_aload_n d72_0 rfl ?_
    refine q_iload_n d72_1 rfl ?_
    refine q_iconstN (z := 1) d72_2 ?_
    refine q_v2 d72_3 rfl rfl hs.1 (Nat.le_of_ble_eq_true rfl) (c73 hs (by omega) (q9 i (by omega)) ?_)
    refine q_istore d72_6 (by decide) rfl ?_
    refine q_aload_n d72_8 rfl ?_
    refine q_getr (c := 5) (f := 10) d72_9 ⟨rfl, rfl⟩ hs.1 (hs.2.2.1 2 (by decide)) ?_
    refine q_iload_n d72_12 rfl ?_
    refine q_s2 d72_13 (Or.inl rfl) rfl (Nat.le_of_ble_eq_true rfl) (c74t (hs.2.2.2 3 (by decide)) (by omega) (fun j hj => (qb j hj).1) hpl (fun M1 hp1 f1 => ?_))
    have g1 : Fi (FW lo) M M1 := f1.mono (fun b _ q => ⟨by omega, by omega⟩)
    have hRs1 : RS M1 (u + 3 + 8 * s) T (nm s) (gpS (yxs X s) (ysd (gp (yxs X s)) i)) := RS_gp hRs' hp1 f1
    have hC1 := hC0.up (X' := yss X s (gpS (yxs X s) (ysd (gp (yxs X s)) i))) (RW_sg hw hR hs3 hRs1 (f1.mono (fun b _ q => FS_x (by omega) (by omega))).fr) (OKW_ss hO (OKS_pl (S := yxs X s) hOs)) g1
    have hC1' := hC1
    obtain ⟨hS1, -, hT1, hO1, hR1⟩ := hC1
    have hwo1 := hS1.wo hw
    have hs1 := hS1.sg hsa
    have e21 : zr M1 (u + 3 + 8 * s) 2 = some (20 + 7 * gx (yxs X s)) := (f1.r _ _).trans e2
    refine q_istore d72_16 (by decide) rfl ?_
    refine q_iload d72_18 rfl ?_
    refine n0_ne 40 d72_20 (by decide) (by decide) (fun _ => ?_) (fun q => absurd q (by decide))
    refine q_iload d72_40 rfl ?_
    refine n0_ne 76 d72_42 (by decide) (by decide) (fun _ => ?_) (fun q => absurd q (by decide))
    refine q_aload_n d72_76 rfl ?_
    refine q_iload_n d72_77 rfl ?_
    refine q_iload d72_78 rfl ?_
    refine q_v2 d72_80 rfl rfl hs1.1 (Nat.le_of_ble_eq_true rfl) (c76 hs1 hRs1 (by omega) (show ¬ gt (yxs X s) = 0 by omega) (hS1.pr (show gx (yxs X s) < 6 by omega)) (hT1 _ hx) (show 20 + 7 * gx (yxs X s) + 6 ≤ u + 3 + 8 * s by omega) (fun M2 hR2s f2 => ?_))
    have g2 : Fi (FW lo) M1 M2 := f2.mono (Fb_m (by omega) (by omega))
    have hR2 := RW_sg hw hR1 hs3 hR2s f2.fr
    rw [yss_yss] at hR2
    have hC2 := hC1'.up (X' := yss X s (yfS (gpS (yxs X s) (ysd (gp (yxs X s)) i)) i (nI 1) (ypa (T (gx (yxs X s))) (gm (yxs X s) 1)))) hR2 (OKW_ss hO (OKS_fS (S := (gpS (yxs X s) (ysd (gp (yxs X s)) i))) hOs (show gt (yxs X s) ≠ 0 by omega))) g2
    have hC2' := hC2
    obtain ⟨hS2, -, hT2, hO2, hR2⟩ := hC2
    have hwo2 := hS2.wo hw
    have hs2 := hS2.sg hsa
    have e22 : zr M2 (u + 3 + 8 * s) 2 = some (20 + 7 * gx (yxs X s)) := (f2.r _ _).trans e21
    have hjk2 : zk M2 j = (0, 0) := by
      obtain ⟨_, _, _, h1, h2, _⟩ := hS2
      rcases hw with ⟨-, -, -, rfl⟩ | ⟨-, -, -, rfl⟩
      · exact h1.1
      · exact h2.1
    refine q_aload_n d72_83 rfl ?_
    refine q_getr (c := 6) (f := 1) d72_84 ⟨rfl, rfl⟩ hwo2.1 hwo2.2.2.1 ?_
    refine q_iconstN (z := 2) d72_87 ?_
    refine q_iload_n d72_88 rfl ?_
    refine q_iload_n d72_89 rfl ?_
    refine q_v3 d72_90 rfl rfl hjk2 (Nat.le_of_ble_eq_true rfl) (c65 hS2 hR2.2.2 (by show yln X.2 + 1 ≤ 240; omega) (fun M3 hJ3 f3 => ?_))
    have g3 : Fi (FW lo) M2 M3 := f3.mono (Fb_m (by omega) (by omega))
    have hC3 := hC2'.up (X' := yno (yss X s (yfS (gpS (yxs X s) (ysd (gp (yxs X s)) i)) i (nI 1) (ypa (T (gx (yxs X s))) (gm (yxs X s) 1)))) (2, s, i)) (RW_lg hw hR2 hJ3 f3.fr) hO2 g3
    have hs3' := hC3.1.sg hsa
    have hR3s : RS M3 (u + 3 + 8 * s) T (nm s) (yfS (gpS (yxs X s) (ysd (gp (yxs X s)) i)) i (nI 1) (ypa (T (gx (yxs X s))) (gm (yxs X s) 1))) := RS_fr hR2s f3.fr (fun b k h1 h2 q => by have := q.2; omega)
    have qg : zi M3 (u + 3 + 8 * s) 0 = nI (gt (yfS (gpS (yxs X s) (ysd (gp (yxs X s)) i)) i (nI 1) (ypa (T (gx (yxs X s))) (gm (yxs X s) 1)))) := hR3s.1.1
    have qf : zi M3 (u + 3 + 8 * s + 6) i = gf (yxs X s) i + 1 := ((hR3s.2.2.2.2.2 i (by omega)).2.2.1).trans (by rw [yfS_f, yu_s]; rfl)
    have hgt := (yfS_d (gpS (yxs X s) (ysd (gp (yxs X s)) i)) i (nI 1) (ypa (T (gx (yxs X s))) (gm (yxs X s) 1))).2.2
    have hgs : gt (gpS (yxs X s) (ysd (gp (yxs X s)) i)) = 1 := h1
    rw [hgs] at hgt
    have hg3 : gt (yxs (yno (yss X s (yfS (gpS (yxs X s) (ysd (gp (yxs X s)) i)) i (nI 1) (ypa (T (gx (yxs X s))) (gm (yxs X s) 1)))) (2, s, i)) s) ≠ 0 := by
      show gt (yu X.1.2 s (yfS (gpS (yxs X s) (ysd (gp (yxs X s)) i)) i (nI 1) (ypa (T (gx (yxs X s))) (gm (yxs X s) 1))) s) ≠ 0
      rw [yu_s, hgt]; split <;> omega
    have hb5 : gt (yfS (gpS (yxs X s) (ysd (gp (yxs X s)) i)) i (nI 1) (ypa (T (gx (yxs X s))) (gm (yxs X s) 1))) < 2147483648 := by rw [hgt]; split <;> omega
    have hl3 : yln (yno (yss X s (yfS (gpS (yxs X s) (ysd (gp (yxs X s)) i)) i (nI 1) (ypa (T (gx (yxs X s))) (gm (yxs X s) 1)))) (2, s, i)).2 + 1 ≤ 240 := by have := yln_lg X.2 (2, s, i); show yln (ylg X.2 (2, s, i)) + 1 ≤ 240; omega
    rw [ytr_B (r := (nI 1)) (by rw [hpl]; rfl) (by decide)] at k
    refine q_aload_n d72_93 rfl ?_
    refine q_getv (c := 5) (f := 0) d72_94 ⟨rfl, by decide⟩ hs3'.1 qg ?_
    refine q_iconstN (z := 1) d72_97 ?_
    refine nc_ne 116 d72_98 (by decide) (by omega) (by omega) (fun h98 => ?_) (fun h98 => ?_)
    · refine q_ret d72_116 rfl ?_
      first
      | (rw [if_pos ⟨by by_cases e : ypa (T (gx (yxs X s))) (gm (yxs X s) 1) = true; exact e; (rw [if_neg e] at hgt; omega), of_decide_eq_true h106⟩] at k; exact k _ hC4 (((g1.trans g2).trans g3).trans f4))
      | (rw [if_neg (fun q => absurd q.2 (of_decide_eq_false h106))] at k; exact k _ hC3 ((g1.trans g2).trans g3))
      | (rw [if_neg (fun q => by rw [if_pos q.1] at hgt; exact h98 hgt)] at k; exact k _ hC3 ((g1.trans g2).trans g3))
    · refine q_aload_n d72_101 rfl ?_
      refine q_iload_n d72_102 rfl ?_
      refine q_v1 d72_103 rfl rfl hs3'.1 (Nat.le_of_ble_eq_true rfl) (c78 hs3' (by omega) qf ?_)
      refine b0_eq 116 d72_106 (by decide) (fun h106 => ?_) (fun h106 => ?_)
      · refine q_ret d72_116 rfl ?_
        first
        | (rw [if_pos ⟨by by_cases e : ypa (T (gx (yxs X s))) (gm (yxs X s) 1) = true; exact e; (rw [if_neg e] at hgt; omega), of_decide_eq_true h106⟩] at k; exact k _ hC4 (((g1.trans g2).trans g3).trans f4))
        | (rw [if_neg (fun q => absurd q.2 (of_decide_eq_false h106))] at k; exact k _ hC3 ((g1.trans g2).trans g3))
        | (rw [if_neg (fun q => by rw [if_pos q.1] at hgt; exact h98 hgt)] at k; exact k _ hC3 ((g1.trans g2).trans g3))
      · refine q_aload_n d72_109 rfl ?_
        refine q_iload_n d72_110 rfl ?_
        refine q_aload_n d72_111 rfl ?_
        refine q_iconstN (z := 5) d72_112 ?_
        refine q_v3 d72_113 rfl rfl (hC3.1.wo hw).1 (Nat.le_of_ble_eq_true rfl) (c79 hC3 hs3 hg3 (by decide) (by decide) hl3 (fun M4 hC4 f4 => ?_))
        refine q_ret d72_116 rfl ?_
        first
        | (rw [if_pos ⟨by by_cases e : ypa (T (gx (yxs X s))) (gm (yxs X s) 1) = true; exact e; (rw [if_neg e] at hgt; omega), of_decide_eq_true h106⟩] at k; exact k _ hC4 (((g1.trans g2).trans g3).trans f4))
        | (rw [if_neg (fun q => absurd q.2 (of_decide_eq_false h106))] at k; exact k _ hC3 ((g1.trans g2).trans g3))
        | (rw [if_neg (fun q => by rw [if_pos q.1] at hgt; exact h98 hgt)] at k; exact k _ hC3 ((g1.trans g2).trans g3))
  | false =>
    refine q_aload_n d72_0 rfl ?_
    refine q_iload_n d72_1 rfl ?_
    refine q_iconstN (z := 1) d72_2 ?_
    refine q_v2 d72_3 rfl rfl hs.1 (Nat.le_of_ble_eq_true rfl) (c73 hs (by omega) (q9 i (by omega)) ?_)
    refine q_istore d72_6 (by decide) rfl ?_
    refine q_aload_n d72_8 rfl ?_
    refine q_getr (c := 5) (f := 10) d72_9 ⟨rfl, rfl⟩ hs.1 (hs.2.2.1 2 (by decide)) ?_
    refine q_iload_n d72_12 rfl ?_
    refine q_s2 d72_13 (Or.inl rfl) rfl (Nat.le_of_ble_eq_true rfl) (c74f (hs.2.2.2 3 (by decide)) (by omega) (fun j hj => (qb j hj).1) hpl (fun M1 hp1 f1 => ?_))
    have g1 : Fi (FW lo) M M1 := f1.mono (fun b _ q => ⟨by omega, by omega⟩)
    have hRs1 : RS M1 (u + 3 + 8 * s) T (nm s) (gpS (yxs X s) (ysd (gp (yxs X s)) i)) := RS_gp hRs' hp1 f1
    have hC1 := hC0.up (X' := yss X s (gpS (yxs X s) (ysd (gp (yxs X s)) i))) (RW_sg hw hR hs3 hRs1 (f1.mono (fun b _ q => FS_x (by omega) (by omega))).fr) (OKW_ss hO (OKS_pl (S := yxs X s) hOs)) g1
    have hC1' := hC1
    obtain ⟨hS1, -, hT1, hO1, hR1⟩ := hC1
    have hwo1 := hS1.wo hw
    have hs1 := hS1.sg hsa
    have e21 : zr M1 (u + 3 + 8 * s) 2 = some (20 + 7 * gx (yxs X s)) := (f1.r _ _).trans e2
    refine q_istore d72_16 (by decide) rfl ?_
    refine q_iload d72_18 rfl ?_
    refine n0_ne 40 d72_20 (by decide) (by decide) (fun q => absurd q (by decide)) (fun _ => ?_)
    refine q_aload_n d72_23 rfl ?_
    refine q_getr (c := 6) (f := 2) d72_24 ⟨rfl, rfl⟩ hwo1.1 hwo1.2.2.2.1 ?_
    refine q_aload_n d72_27 rfl ?_
    refine q_getr (c := 5) (f := 2) d72_28 ⟨rfl, rfl⟩ hs1.1 e21 ?_
    refine q_iload_n d72_31 rfl ?_
    refine q_iload d72_32 rfl ?_
    refine q_iconstN (z := 1) d72_34 ?_
    refine q_v4 d72_35 rfl rfl (hS1.pu hw).1 (Nat.le_of_ble_eq_true rfl) (c46 (P := X.1.1) (hS1.pu hw) hR1.1 (hS1.pr (by omega)) (hT1 _ hx) ho hi ?_)
    refine q_istore d72_38 (by decide) rfl ?_
    refine q_iload d72_40 rfl ?_
    refine i0_ne 76 d72_42 (by decide) (fun h42 => ?_) (fun h42 => ?_)
    · refine q_aload_n d72_76 rfl ?_
      refine q_iload_n d72_77 rfl ?_
      refine q_iload d72_78 rfl ?_
      refine q_v2 d72_80 rfl rfl hs1.1 (Nat.le_of_ble_eq_true rfl) (c76 hs1 hRs1 (by omega) (show ¬ gt (yxs X s) = 0 by omega) (hS1.pr (show gx (yxs X s) < 6 by omega)) (hT1 _ hx) (show 20 + 7 * gx (yxs X s) + 6 ≤ u + 3 + 8 * s by omega) (fun M2 hR2s f2 => ?_))
      have g2 : Fi (FW lo) M1 M2 := f2.mono (Fb_m (by omega) (by omega))
      have hR2 := RW_sg hw hR1 hs3 hR2s f2.fr
      rw [yss_yss] at hR2
      have hC2 := hC1'.up (X' := yss X s (yfS (gpS (yxs X s) (ysd (gp (yxs X s)) i)) i (yob (T (gx (yxs X s))) X.1.1 i (nm s i) 1) (ypa (T (gx (yxs X s))) (gm (yxs X s) 1)))) hR2 (OKW_ss hO (OKS_fS (S := (gpS (yxs X s) (ysd (gp (yxs X s)) i))) hOs (show gt (yxs X s) ≠ 0 by omega))) g2
      have hC2' := hC2
      obtain ⟨hS2, -, hT2, hO2, hR2⟩ := hC2
      have hwo2 := hS2.wo hw
      have hs2 := hS2.sg hsa
      have e22 : zr M2 (u + 3 + 8 * s) 2 = some (20 + 7 * gx (yxs X s)) := (f2.r _ _).trans e21
      have hjk2 : zk M2 j = (0, 0) := by
        obtain ⟨_, _, _, h1, h2, _⟩ := hS2
        rcases hw with ⟨-, -, -, rfl⟩ | ⟨-, -, -, rfl⟩
        · exact h1.1
        · exact h2.1
      refine q_aload_n d72_83 rfl ?_
      refine q_getr (c := 6) (f := 1) d72_84 ⟨rfl, rfl⟩ hwo2.1 hwo2.2.2.1 ?_
      refine q_iconstN (z := 2) d72_87 ?_
      refine q_iload_n d72_88 rfl ?_
      refine q_iload_n d72_89 rfl ?_
      refine q_v3 d72_90 rfl rfl hjk2 (Nat.le_of_ble_eq_true rfl) (c65 hS2 hR2.2.2 (by show yln X.2 + 1 ≤ 240; omega) (fun M3 hJ3 f3 => ?_))
      have g3 : Fi (FW lo) M2 M3 := f3.mono (Fb_m (by omega) (by omega))
      have hC3 := hC2'.up (X' := yno (yss X s (yfS (gpS (yxs X s) (ysd (gp (yxs X s)) i)) i (yob (T (gx (yxs X s))) X.1.1 i (nm s i) 1) (ypa (T (gx (yxs X s))) (gm (yxs X s) 1)))) (2, s, i)) (RW_lg hw hR2 hJ3 f3.fr) hO2 g3
      have hs3' := hC3.1.sg hsa
      have hR3s : RS M3 (u + 3 + 8 * s) T (nm s) (yfS (gpS (yxs X s) (ysd (gp (yxs X s)) i)) i (yob (T (gx (yxs X s))) X.1.1 i (nm s i) 1) (ypa (T (gx (yxs X s))) (gm (yxs X s) 1))) := RS_fr hR2s f3.fr (fun b k h1 h2 q => by have := q.2; omega)
      have qg : zi M3 (u + 3 + 8 * s) 0 = nI (gt (yfS (gpS (yxs X s) (ysd (gp (yxs X s)) i)) i (yob (T (gx (yxs X s))) X.1.1 i (nm s i) 1) (ypa (T (gx (yxs X s))) (gm (yxs X s) 1)))) := hR3s.1.1
      have qf : zi M3 (u + 3 + 8 * s + 6) i = gf (yxs X s) i + 1 := ((hR3s.2.2.2.2.2 i (by omega)).2.2.1).trans (by rw [yfS_f, yu_s]; rfl)
      have hgt := (yfS_d (gpS (yxs X s) (ysd (gp (yxs X s)) i)) i (yob (T (gx (yxs X s))) X.1.1 i (nm s i) 1) (ypa (T (gx (yxs X s))) (gm (yxs X s) 1))).2.2
      have hgs : gt (gpS (yxs X s) (ysd (gp (yxs X s)) i)) = 1 := h1
      rw [hgs] at hgt
      have hg3 : gt (yxs (yno (yss X s (yfS (gpS (yxs X s) (ysd (gp (yxs X s)) i)) i (yob (T (gx (yxs X s))) X.1.1 i (nm s i) 1) (ypa (T (gx (yxs X s))) (gm (yxs X s) 1)))) (2, s, i)) s) ≠ 0 := by
        show gt (yu X.1.2 s (yfS (gpS (yxs X s) (ysd (gp (yxs X s)) i)) i (yob (T (gx (yxs X s))) X.1.1 i (nm s i) 1) (ypa (T (gx (yxs X s))) (gm (yxs X s) 1))) s) ≠ 0
        rw [yu_s, hgt]; split <;> omega
      have hb5 : gt (yfS (gpS (yxs X s) (ysd (gp (yxs X s)) i)) i (yob (T (gx (yxs X s))) X.1.1 i (nm s i) 1) (ypa (T (gx (yxs X s))) (gm (yxs X s) 1))) < 2147483648 := by rw [hgt]; split <;> omega
      have hl3 : yln (yno (yss X s (yfS (gpS (yxs X s) (ysd (gp (yxs X s)) i)) i (yob (T (gx (yxs X s))) X.1.1 i (nm s i) 1) (ypa (T (gx (yxs X s))) (gm (yxs X s) 1)))) (2, s, i)).2 + 1 ≤ 240 := by have := yln_lg X.2 (2, s, i); show yln (ylg X.2 (2, s, i)) + 1 ≤ 240; omega
      rw [ytr_B (r := (yob (T (gx (yxs X s))) X.1.1 i (nm s i) 1)) (by rw [hpl]; rfl) h42] at k
      refine q_aload_n d72_93 rfl ?_
      refine q_getv (c := 5) (f := 0) d72_94 ⟨rfl, by decide⟩ hs3'.1 qg ?_
      refine q_iconstN (z := 1) d72_97 ?_
      refine nc_ne 116 d72_98 (by decide) (by omega) (by omega) (fun h98 => ?_) (fun h98 => ?_)
      · refine q_ret d72_116 rfl ?_
        first
        | (rw [if_pos ⟨by by_cases e : ypa (T (gx (yxs X s))) (gm (yxs X s) 1) = true; exact e; (rw [if_neg e] at hgt; omega), of_decide_eq_true h106⟩] at k; exact k _ hC4 (((g1.trans g2).trans g3).trans f4))
        | (rw [if_neg (fun q => absurd q.2 (of_decide_eq_false h106))] at k; exact k _ hC3 ((g1.trans g2).trans g3))
        | (rw [if_neg (fun q => by rw [if_pos q.1] at hgt; exact h98 hgt)] at k; exact k _ hC3 ((g1.trans g2).trans g3))
      · refine q_aload_n d72_101 rfl ?_
        refine q_iload_n d72_102 rfl ?_
        refine q_v1 d72_103 rfl rfl hs3'.1 (Nat.le_of_ble_eq_true rfl) (c78 hs3' (by omega) qf ?_)
        refine b0_eq 116 d72_106 (by decide) (fun h106 => ?_) (fun h106 => ?_)
        · refine q_ret d72_116 rfl ?_
          first
          | (rw [if_pos ⟨by by_cases e : ypa (T (gx (yxs X s))) (gm (yxs X s) 1) = true; exact e; (rw [if_neg e] at hgt; omega), of_decide_eq_true h106⟩] at k; exact k _ hC4 (((g1.trans g2).trans g3).trans f4))
          | (rw [if_neg (fun q => absurd q.2 (of_decide_eq_false h106))] at k; exact k _ hC3 ((g1.trans g2).trans g3))
          | (rw [if_neg (fun q => by rw [if_pos q.1] at hgt; exact h98 hgt)] at k; exact k _ hC3 ((g1.trans g2).trans g3))
        · refine q_aload_n d72_109 rfl ?_
          refine q_iload_n d72_110 rfl ?_
          refine q_aload_n d72_111 rfl ?_
          refine q_iconstN (z := 5) d72_112 ?_
          refine q_v3 d72_113 rfl rfl (hC3.1.wo hw).1 (Nat.le_of_ble_eq_true rfl) (c79 hC3 hs3 hg3 (by decide) (by decide) hl3 (fun M4 hC4 f4 => ?_))
          refine q_ret d72_116 rfl ?_
          first
          | (rw [if_pos ⟨by by_cases e : ypa (T (gx (yxs X s))) (gm (yxs X s) 1) = true; exact e; (rw [if_neg e] at hgt; omega), of_decide_eq_true h106⟩] at k; exact k _ hC4 (((g1.trans g2).trans g3).trans f4))
          | (rw [if_neg (fun q => absurd q.2 (of_decide_eq_false h106))] at k; exact k _ hC3 ((g1.trans g2).trans g3))
          | (rw [if_neg (fun q => by rw [if_pos q.1] at hgt; exact h98 hgt)] at k; exact k _ hC3 ((g1.trans g2).trans g3))
    · refine q_aload_n d72_45 rfl ?_
      refine q_getr (c := 6) (f := 2) d72_46 ⟨rfl, rfl⟩ hwo1.1 hwo1.2.2.2.1 ?_
      refine q_aload_n d72_49 rfl ?_
      refine q_getr (c := 5) (f := 2) d72_50 ⟨rfl, rfl⟩ hs1.1 e21 ?_
      refine q_iload_n d72_53 rfl ?_
      refine q_iload d72_54 rfl ?_
      refine q_iconstN (z := 1) d72_56 ?_
      refine q_v4 d72_57 rfl rfl (hS1.pu hw).1 (Nat.le_of_ble_eq_true rfl) (c51 (P := X.1.1) (hS1.pu hw) hR1.1 (hS1.pr (by omega)) (hT1 _ hx) ho hi (by omega) (fun M2 hP2 f2 => ?_))
      have g2 : Fi (FW lo) M1 M2 := f2.mono (Fb_m (by omega) (by omega))
      have hC2 := hC1'.up (RW_pu hw hR1 hP2 f2.fr) ⟨hO1.1, OKP_ch ho hi hO1.2.1 h42, hO1.2.2⟩ g2
      have hC2' := hC2
      obtain ⟨hS2, -, hT2, hO2, hR2⟩ := hC2
      have hwo2 := hS2.wo hw
      have hs2 := hS2.sg hsa
      have hR2s := RS_fr hRs1 f2.fr (fun b k h1 h2 q => by have := q.2; omega)
      have e22 : zr M2 (u + 3 + 8 * s) 2 = some (20 + 7 * gx (yxs X s)) := (f2.r _ _).trans e21
      refine q_aload_n d72_60 rfl ?_
      refine q_iload_n d72_61 rfl ?_
      refine q_v1 d72_62 rfl rfl hs2.1 (Nat.le_of_ble_eq_true rfl) (c75 hs2 hR2s h0 (show i < gz T (yxs X s) by omega) (show gz T (yxs X s) ≤ 12 by omega) hlen (fun M3 hR3s f3 => ?_))
      have g3 : Fi (FW lo) M2 M3 := f3.mono (Fb_m (by omega) (by omega))
      have hR3 := RW_sg hw hR2 hs3 hR3s f3.fr
      rw [yss_p] at hR3
      have hC3 := hC2'.up hR3 (OKW_ss (X := ysp X _) ⟨hO1.1, hO2.2.1, hO.2.2⟩ (OKS_done (S := (gpS (yxs X s) (ysd (gp (yxs X s)) i))) hOs (show i < gz T (yxs X s) by omega) h0)) g3
      have hC3' := hC3
      obtain ⟨hS3, -, hT3, hO3, hR3⟩ := hC3
      have hwo3 := hS3.wo hw
      have hs3 := hS3.sg hsa
      have e23 : zr M3 (u + 3 + 8 * s) 2 = some (20 + 7 * gx (yxs X s)) := (f3.r _ _).trans e22
      have hjk3 : zk M3 j = (0, 0) := by
        obtain ⟨_, _, _, h1, h2, _⟩ := hS3
        rcases hw with ⟨-, -, -, rfl⟩ | ⟨-, -, -, rfl⟩
        · exact h1.1
        · exact h2.1
      refine q_aload_n d72_65 rfl ?_
      refine q_getr (c := 6) (f := 1) d72_66 ⟨rfl, rfl⟩ hwo3.1 hwo3.2.2.1 ?_
      refine q_iconstN (z := 1) d72_69 ?_
      refine q_iload_n d72_70 rfl ?_
      refine q_iload_n d72_71 rfl ?_
      refine q_v3 d72_72 rfl rfl hjk3 (Nat.le_of_ble_eq_true rfl) (c65 hS3 hR3.2.2 (by show yln X.2 + 1 ≤ 240; omega) (fun M4 hJ4 f4 => ?_))
      have g4 : Fi (FW lo) M3 M4 := f4.mono (Fb_m (by omega) (by omega))
      have hC4 := hC3'.up (RW_lg hw hR3 hJ4 f4.fr) hO3 g4
      rw [ytr_A hpl h42] at k
      refine q_ret d72_75 rfl ?_
      exact k _ hC4 (((g1.trans g2).trans g3).trans g4)
