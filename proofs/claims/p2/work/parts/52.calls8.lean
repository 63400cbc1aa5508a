/-! ===== the calls of the class: plan ===== -/
theorem d66_0 : decode (zB 66) 0 = .ok (.iload_n 1, 1) := by decide +kernel
theorem d66_1 : decode (zB 66) 1 = .ok (.invokestatic 141, 3) := by decide +kernel
theorem d66_4 : decode (zB 66) 4 = .ok (.ifCond .eq 39, 3) := by decide +kernel
theorem d66_7 : decode (zB 66) 7 = .ok (.aload_n 0, 1) := by decide +kernel
theorem d66_8 : decode (zB 66) 8 = .ok (.getfield 37, 3) := by decide +kernel
theorem d66_11 : decode (zB 66) 11 = .ok (.getfield 144, 3) := by decide +kernel
theorem d66_14 : decode (zB 66) 14 = .ok (.iload_n 1, 1) := by decide +kernel
theorem d66_15 : decode (zB 66) 15 = .ok (.aaload, 1) := by decide +kernel
theorem d66_16 : decode (zB 66) 16 = .ok (.iload_n 2, 1) := by decide +kernel
theorem d66_17 : decode (zB 66) 17 = .ok (.invokevirtual 163, 3) := by decide +kernel
theorem d66_20 : decode (zB 66) 20 = .ok (.ifCond .eq 23, 3) := by decide +kernel
theorem d66_23 : decode (zB 66) 23 = .ok (.iload_n 3, 1) := by decide +kernel
theorem d66_24 : decode (zB 66) 24 = .ok (.iconst 0, 1) := by decide +kernel
theorem d66_25 : decode (zB 66) 25 = .ok (.iconst 1, 1) := by decide +kernel
theorem d66_26 : decode (zB 66) 26 = .ok (.invokestatic 55, 3) := by decide +kernel
theorem d66_29 : decode (zB 66) 29 = .ok (.ifCond .eq 14, 3) := by decide +kernel
theorem d66_32 : decode (zB 66) 32 = .ok (.iload 4, 2) := by decide +kernel
theorem d66_34 : decode (zB 66) 34 = .ok (.iconst 0, 1) := by decide +kernel
theorem d66_35 : decode (zB 66) 35 = .ok (.bipush 9, 2) := by decide +kernel
theorem d66_37 : decode (zB 66) 37 = .ok (.invokestatic 55, 3) := by decide +kernel
theorem d66_40 : decode (zB 66) 40 = .ok (.ifCond .ne 6, 3) := by decide +kernel
theorem d66_43 : decode (zB 66) 43 = .ok (.bipush (-2), 2) := by decide +kernel
theorem d66_45 : decode (zB 66) 45 = .ok (.ireturn, 1) := by decide +kernel
theorem d66_46 : decode (zB 66) 46 = .ok (.aload_n 0, 1) := by decide +kernel
theorem d66_47 : decode (zB 66) 47 = .ok (.getfield 37, 3) := by decide +kernel
theorem d66_50 : decode (zB 66) 50 = .ok (.getfield 144, 3) := by decide +kernel
theorem d66_53 : decode (zB 66) 53 = .ok (.iload_n 1, 1) := by decide +kernel
theorem d66_54 : decode (zB 66) 54 = .ok (.aaload, 1) := by decide +kernel
theorem d66_55 : decode (zB 66) 55 = .ok (.astore 5, 2) := by decide +kernel
theorem d66_57 : decode (zB 66) 57 = .ok (.aload 5, 2) := by decide +kernel
theorem d66_59 : decode (zB 66) 59 = .ok (.getfield 166, 3) := by decide +kernel
theorem d66_62 : decode (zB 66) 62 = .ok (.ifCond .ne 6, 3) := by decide +kernel
theorem d66_65 : decode (zB 66) 65 = .ok (.bipush (-3), 2) := by decide +kernel
theorem d66_67 : decode (zB 66) 67 = .ok (.ireturn, 1) := by decide +kernel
theorem d66_68 : decode (zB 66) 68 = .ok (.iload_n 3, 1) := by decide +kernel
theorem d66_69 : decode (zB 66) 69 = .ok (.ifCond .ne 11, 3) := by decide +kernel
theorem d66_72 : decode (zB 66) 72 = .ok (.aload 5, 2) := by decide +kernel
theorem d66_74 : decode (zB 66) 74 = .ok (.getfield 169, 3) := by decide +kernel
theorem d66_77 : decode (zB 66) 77 = .ok (.goto 8, 3) := by decide +kernel
theorem d66_80 : decode (zB 66) 80 = .ok (.aload 5, 2) := by decide +kernel
theorem d66_82 : decode (zB 66) 82 = .ok (.getfield 172, 3) := by decide +kernel
theorem d66_85 : decode (zB 66) 85 = .ok (.astore 6, 2) := by decide +kernel
theorem d66_87 : decode (zB 66) 87 = .ok (.aload 6, 2) := by decide +kernel
theorem d66_89 : decode (zB 66) 89 = .ok (.iload_n 2, 1) := by decide +kernel
theorem d66_90 : decode (zB 66) 90 = .ok (.iaload, 1) := by decide +kernel
theorem d66_91 : decode (zB 66) 91 = .ok (.istore 7, 2) := by decide +kernel
theorem d66_93 : decode (zB 66) 93 = .ok (.aload 6, 2) := by decide +kernel
theorem d66_95 : decode (zB 66) 95 = .ok (.iload_n 2, 1) := by decide +kernel
theorem d66_96 : decode (zB 66) 96 = .ok (.iload 4, 2) := by decide +kernel
theorem d66_98 : decode (zB 66) 98 = .ok (.iastore, 1) := by decide +kernel
theorem d66_99 : decode (zB 66) 99 = .ok (.iload 7, 2) := by decide +kernel
theorem d66_101 : decode (zB 66) 101 = .ok (.ireturn, 1) := by decide +kernel
theorem p66 {d : Nat} {M : zM} {Q : Option Value → zM → Prop} {D : yD} {x y o z : Int32} (hR : RC M D) (hD : OKD D) (k : ∀ M', RC M' (sPlan D x y o z).2 → Fc M M' → Q (some (.int (sPlan D x y o z).1)) M') : qC (d + 3) 66 [.ref 16, .int x, .int y, .int o, .int z] M Q := by
  refine qC_of (by decide) (Nat.le_of_ble_eq_true rfl) ?_
  have hS := hR.1.1
  have hT := hR.1.2.2.1
  have hO := hR.1.2.2.2.1
  have hRW := hR.1.2.2.2.2
  have hJ : RL M 62 (dL D) := hRW.2.2.2
  have hc6 := hO.1.1
  have h240 := hD.2.1
  have h120 := hR.2.2.1.1
  have hwr := hS.wo (Or.inl ⟨rfl, rfl, rfl, rfl⟩)
  have hwt := hS.wo (Or.inr ⟨rfl, rfl, rfl, rfl⟩)
  have hpr := hS.pu (Or.inl ⟨rfl, rfl, rfl, rfl⟩)
  have hpt := hS.pu (Or.inr ⟨rfl, rfl, rfl, rfl⟩)
  unfold sPlan at k
  rcases zix_c x (n := 3) (by omega) with ⟨s, hs, rfl, es⟩ | ⟨es, ns⟩
  · rw [oz_s es] at k
    have hRs2 := hRW.2.1 s hs
    have hsg := hS.sg (show zSa (70 + 8 * s) by unfold zSa; omega)
    have hOs : OKS (dT D) (dc D) (dS D s) := hO.2.2 s hs
    have hg5 := hOs.1
    have hRs : RS M (70 + 8 * s) (dT D) (yNm (dT D) (dW D) s) (dS D s) := hRW.2.1 s hs
    obtain ⟨⟨q0, q1, q2⟩, ⟨q3, q4, q5⟩, ⟨q7, q8⟩, q9, qa, qb⟩ := hRs
    by_cases hg : gt (dS D s) = 0
    · rw [show yms D s = 12 from if_pos hg] at k
      have e2 : zr M (70 + 8 * s) 2 = none := q2.trans (if_pos hg)
      rcases zix_c y (n := 12) (by omega) with ⟨i, hi, rfl, ei⟩ | ⟨ei, ni⟩
      · rw [oz_s ei] at k
        rcases zix_c o (n := 2) (by omega) with ⟨p, hp, rfl, ep⟩ | ⟨ep, np⟩
        · rw [oz_s ep] at k
          rcases zix_c z (n := 10) (by omega) with ⟨q, hq, rfl, eq⟩ | ⟨eq, nq⟩
          · rw [oz_s eq] at k
            rw [if_pos hg] at k
            refine q_iload_n d66_0 rfl ?_
            refine q_s1 d66_1 (Or.inl rfl) rfl (Nat.le_of_ble_eq_true rfl) (c60t (by omega) ?_)
            refine n0_eq 43 d66_4 (by decide) (by decide) (fun q => absurd q (by decide)) (fun _ => ?_)
            refine q_aload_n d66_7 rfl ?_
            refine q_getr (c := 7) (f := 4) d66_8 ⟨rfl, rfl⟩ (hS.1.1) (hS.1.2.2.2.2.2.2.1) ?_
            refine q_getr (c := 6) (f := 3) d66_11 ⟨rfl, rfl⟩ hwr.1 hwr.2.2.2.2.1 ?_
            refine q_iload_n d66_14 rfl ?_
            refine n_aald d66_15 hwr.2.2.2.2.2.1 (by decide) (by omega) (by decide) (hwr.2.2.2.2.2.2 _ (by omega)) ?_
            refine q_iload_n d66_16 rfl ?_
            refine q_v1 d66_17 rfl rfl hsg.1 (Nat.le_of_ble_eq_true rfl) (c67nt hsg e2 hi ?_)
            refine n0_eq 43 d66_20 (by decide) (by decide) (fun q => absurd q (by decide)) (fun _ => ?_)
            refine q_iload_n d66_23 rfl ?_
            refine q_iconstN (z := 0) d66_24 ?_
            refine q_iconstN (z := 1) d66_25 ?_
            refine q_s3 d66_26 (Or.inl rfl) rfl (Nat.le_of_ble_eq_true rfl) (c10t ⟨by omega, by omega⟩ (by decide) ?_)
            refine n0_eq 43 d66_29 (by decide) (by decide) (fun q => absurd q (by decide)) (fun _ => ?_)
            refine q_iload d66_32 rfl ?_
            refine q_iconstN (z := 0) d66_34 ?_
            refine q_bipush (x := nI 9) d66_35 rfl ?_
            refine q_s3 d66_37 (Or.inl rfl) rfl (Nat.le_of_ble_eq_true rfl) (c10t ⟨by omega, by omega⟩ (by decide) ?_)
            refine n0_ne 46 d66_40 (by decide) (by decide) (fun _ => ?_) (fun q => absurd q (by decide))
            refine q_aload_n d66_46 rfl ?_
            refine q_getr (c := 7) (f := 4) d66_47 ⟨rfl, rfl⟩ (hS.1.1) (hS.1.2.2.2.2.2.2.1) ?_
            refine q_getr (c := 6) (f := 3) d66_50 ⟨rfl, rfl⟩ hwr.1 hwr.2.2.2.2.1 ?_
            refine q_iload_n d66_53 rfl ?_
            refine n_aald d66_54 hwr.2.2.2.2.2.1 (by decide) (by omega) (by decide) (hwr.2.2.2.2.2.2 _ (by omega)) ?_
            refine q_astore d66_55 (by decide) rfl ?_
            refine q_aload d66_57 rfl ?_
            refine q_getv (c := 5) (f := 0) d66_59 ⟨rfl, by decide⟩ hsg.1 q0 ?_
            refine n0_ne 68 d66_62 (by decide) (by omega) (fun h62 => (False.elim (h62 hg))) (fun h62 => ?_)
            refine q_bipush (x := (-3)) d66_65 rfl ?_
            refine q_iret d66_67 rfl ?_
            exact k _ hR (Fc.refl _)
          · rw [oz_n eq] at k
            refine q_iload_n d66_0 rfl ?_
            refine q_s1 d66_1 (Or.inl rfl) rfl (Nat.le_of_ble_eq_true rfl) (c60t (by omega) ?_)
            refine n0_eq 43 d66_4 (by decide) (by decide) (fun q => absurd q (by decide)) (fun _ => ?_)
            refine q_aload_n d66_7 rfl ?_
            refine q_getr (c := 7) (f := 4) d66_8 ⟨rfl, rfl⟩ (hS.1.1) (hS.1.2.2.2.2.2.2.1) ?_
            refine q_getr (c := 6) (f := 3) d66_11 ⟨rfl, rfl⟩ hwr.1 hwr.2.2.2.2.1 ?_
            refine q_iload_n d66_14 rfl ?_
            refine n_aald d66_15 hwr.2.2.2.2.2.1 (by decide) (by omega) (by decide) (hwr.2.2.2.2.2.2 _ (by omega)) ?_
            refine q_iload_n d66_16 rfl ?_
            refine q_v1 d66_17 rfl rfl hsg.1 (Nat.le_of_ble_eq_true rfl) (c67nt hsg e2 hi ?_)
            refine n0_eq 43 d66_20 (by decide) (by decide) (fun q => absurd q (by decide)) (fun _ => ?_)
            refine q_iload_n d66_23 rfl ?_
            refine q_iconstN (z := 0) d66_24 ?_
            refine q_iconstN (z := 1) d66_25 ?_
            refine q_s3 d66_26 (Or.inl rfl) rfl (Nat.le_of_ble_eq_true rfl) (c10t ⟨by omega, by omega⟩ (by decide) ?_)
            refine n0_eq 43 d66_29 (by decide) (by decide) (fun q => absurd q (by decide)) (fun _ => ?_)
            refine q_iload d66_32 rfl ?_
            refine q_iconstN (z := 0) d66_34 ?_
            refine q_bipush (x := nI 9) d66_35 rfl ?_
            refine q_s3 d66_37 (Or.inl rfl) rfl (Nat.le_of_ble_eq_true rfl) (c10f (by decide) (by omega) (by decide) ?_)
            refine n0_ne 46 d66_40 (by decide) (by decide) (fun q => absurd q (by decide)) (fun _ => ?_)
            refine q_bipush (x := (-2)) d66_43 rfl ?_
            refine q_iret d66_45 rfl ?_
            exact k _ hR (Fc.refl _)
        · rw [oz_n ep] at k
          refine q_iload_n d66_0 rfl ?_
          refine q_s1 d66_1 (Or.inl rfl) rfl (Nat.le_of_ble_eq_true rfl) (c60t (by omega) ?_)
          refine n0_eq 43 d66_4 (by decide) (by decide) (fun q => absurd q (by decide)) (fun _ => ?_)
          refine q_aload_n d66_7 rfl ?_
          refine q_getr (c := 7) (f := 4) d66_8 ⟨rfl, rfl⟩ (hS.1.1) (hS.1.2.2.2.2.2.2.1) ?_
          refine q_getr (c := 6) (f := 3) d66_11 ⟨rfl, rfl⟩ hwr.1 hwr.2.2.2.2.1 ?_
          refine q_iload_n d66_14 rfl ?_
          refine n_aald d66_15 hwr.2.2.2.2.2.1 (by decide) (by omega) (by decide) (hwr.2.2.2.2.2.2 _ (by omega)) ?_
          refine q_iload_n d66_16 rfl ?_
          refine q_v1 d66_17 rfl rfl hsg.1 (Nat.le_of_ble_eq_true rfl) (c67nt hsg e2 hi ?_)
          refine n0_eq 43 d66_20 (by decide) (by decide) (fun q => absurd q (by decide)) (fun _ => ?_)
          refine q_iload_n d66_23 rfl ?_
          refine q_iconstN (z := 0) d66_24 ?_
          refine q_iconstN (z := 1) d66_25 ?_
          refine q_s3 d66_26 (Or.inl rfl) rfl (Nat.le_of_ble_eq_true rfl) (c10f (by decide) (by omega) (by decide) ?_)
          refine n0_eq 43 d66_29 (by decide) (by decide) (fun _ => ?_) (fun q => absurd q (by decide))
          refine q_bipush (x := (-2)) d66_43 rfl ?_
          refine q_iret d66_45 rfl ?_
          exact k _ hR (Fc.refl _)
      · rw [oz_n ei] at k
        refine q_iload_n d66_0 rfl ?_
        refine q_s1 d66_1 (Or.inl rfl) rfl (Nat.le_of_ble_eq_true rfl) (c60t (by omega) ?_)
        refine n0_eq 43 d66_4 (by decide) (by decide) (fun q => absurd q (by decide)) (fun _ => ?_)
        refine q_aload_n d66_7 rfl ?_
        refine q_getr (c := 7) (f := 4) d66_8 ⟨rfl, rfl⟩ (hS.1.1) (hS.1.2.2.2.2.2.2.1) ?_
        refine q_getr (c := 6) (f := 3) d66_11 ⟨rfl, rfl⟩ hwr.1 hwr.2.2.2.2.1 ?_
        refine q_iload_n d66_14 rfl ?_
        refine n_aald d66_15 hwr.2.2.2.2.2.1 (by decide) (by omega) (by decide) (hwr.2.2.2.2.2.2 _ (by omega)) ?_
        refine q_iload_n d66_16 rfl ?_
        refine q_v1 d66_17 rfl rfl hsg.1 (Nat.le_of_ble_eq_true rfl) (c67nf hsg e2 ei ?_)
        refine n0_eq 43 d66_20 (by decide) (by decide) (fun _ => ?_) (fun q => absurd q (by decide))
        refine q_bipush (x := (-2)) d66_43 rfl ?_
        refine q_iret d66_45 rfl ?_
        exact k _ hR (Fc.refl _)
    · rw [show yms D s = tn (dT D (gx (dS D s))) from if_neg hg] at k
      have e2 : zr M (70 + 8 * s) 2 = some (20 + 7 * gx (dS D s)) := q2.trans (if_neg hg)
      have hx : gx (dS D s) < dc D := hOs.2.1 hg
      have ho := hO.1.2 _ hx
      have hn := ho.n
      rcases zix_c y (n := tn (dT D (gx (dS D s)))) (by omega) with ⟨i, hi, rfl, ei⟩ | ⟨ei, ni⟩
      · rw [oz_s ei] at k
        rcases zix_c o (n := 2) (by omega) with ⟨p, hp, rfl, ep⟩ | ⟨ep, np⟩
        · rw [oz_s ep] at k
          rcases zix_c z (n := 10) (by omega) with ⟨q, hq, rfl, eq⟩ | ⟨eq, nq⟩
          · rw [oz_s eq] at k
            rw [if_neg hg] at k
            rcases (show p = 0 ∨ p = 1 by omega) with rfl | rfl
            · rw [if_pos rfl] at k
              refine q_iload_n d66_0 rfl ?_
              refine q_s1 d66_1 (Or.inl rfl) rfl (Nat.le_of_ble_eq_true rfl) (c60t (by omega) ?_)
              refine n0_eq 43 d66_4 (by decide) (by decide) (fun q => absurd q (by decide)) (fun _ => ?_)
              refine q_aload_n d66_7 rfl ?_
              refine q_getr (c := 7) (f := 4) d66_8 ⟨rfl, rfl⟩ (hS.1.1) (hS.1.2.2.2.2.2.2.1) ?_
              refine q_getr (c := 6) (f := 3) d66_11 ⟨rfl, rfl⟩ hwr.1 hwr.2.2.2.2.1 ?_
              refine q_iload_n d66_14 rfl ?_
              refine n_aald d66_15 hwr.2.2.2.2.2.1 (by decide) (by omega) (by decide) (hwr.2.2.2.2.2.2 _ (by omega)) ?_
              refine q_iload_n d66_16 rfl ?_
              refine q_v1 d66_17 rfl rfl hsg.1 (Nat.le_of_ble_eq_true rfl) (c67t hsg e2 (hS.pr (by omega)) (hT _ hx) hn hi ?_)
              refine n0_eq 43 d66_20 (by decide) (by decide) (fun q => absurd q (by decide)) (fun _ => ?_)
              refine q_iload_n d66_23 rfl ?_
              refine q_iconstN (z := 0) d66_24 ?_
              refine q_iconstN (z := 1) d66_25 ?_
              refine q_s3 d66_26 (Or.inl rfl) rfl (Nat.le_of_ble_eq_true rfl) (c10t ⟨by omega, by omega⟩ (by decide) ?_)
              refine n0_eq 43 d66_29 (by decide) (by decide) (fun q => absurd q (by decide)) (fun _ => ?_)
              refine q_iload d66_32 rfl ?_
              refine q_iconstN (z := 0) d66_34 ?_
              refine q_bipush (x := nI 9) d66_35 rfl ?_
              refine q_s3 d66_37 (Or.inl rfl) rfl (Nat.le_of_ble_eq_true rfl) (c10t ⟨by omega, by omega⟩ (by decide) ?_)
              refine n0_ne 46 d66_40 (by decide) (by decide) (fun _ => ?_) (fun q => absurd q (by decide))
              refine q_aload_n d66_46 rfl ?_
              refine q_getr (c := 7) (f := 4) d66_47 ⟨rfl, rfl⟩ (hS.1.1) (hS.1.2.2.2.2.2.2.1) ?_
              refine q_getr (c := 6) (f := 3) d66_50 ⟨rfl, rfl⟩ hwr.1 hwr.2.2.2.2.1 ?_
              refine q_iload_n d66_53 rfl ?_
              refine n_aald d66_54 hwr.2.2.2.2.2.1 (by decide) (by omega) (by decide) (hwr.2.2.2.2.2.2 _ (by omega)) ?_
              refine q_astore d66_55 (by decide) rfl ?_
              refine q_aload d66_57 rfl ?_
              refine q_getv (c := 5) (f := 0) d66_59 ⟨rfl, by decide⟩ hsg.1 q0 ?_
              refine n0_ne 68 d66_62 (by decide) (by omega) (fun h62 => ?_) (fun h62 => (False.elim (hg h62)))
              refine q_iload_n d66_68 rfl ?_
              refine n0_ne 80 d66_69 (by decide) (by decide) (fun q => absurd q (by decide)) (fun _ => ?_)
              refine q_aload d66_72 rfl ?_
              refine q_getr (c := 5) (f := 10) d66_74 ⟨rfl, rfl⟩ hsg.1 (hsg.2.2.1 2 (by decide)) ?_
              refine q_goto 85 d66_77 (by decide) ?_
              refine q_astore d66_85 (by decide) rfl ?_
              refine q_aload d66_87 rfl ?_
              refine q_iload_n d66_89 rfl ?_
              refine n_iald d66_90 (hsg.2.2.2 3 (by decide)) (by omega) (by decide) (qb _ (by omega)).1 ?_
              refine q_istore d66_91 (by decide) rfl ?_
              refine q_aload d66_93 rfl ?_
              refine q_iload_n d66_95 rfl ?_
              refine q_iload d66_96 rfl ?_
              refine n_iast d66_98 (hsg.2.2.2 3 (by decide)) (by omega) (by decide) ?_
              refine q_iload d66_99 rfl ?_
              refine q_iret d66_101 rfl ?_
              have f0 : Fi (fun b _ => b = 70 + 8 * s + 4) M (zwi M (70 + 8 * s + 2 + 2) i (nI q)) := (Fi.refl _ _).wi rfl
              have f6 : Fi (FW 62) M (zwi M (70 + 8 * s + 2 + 2) i (nI q)) := f0.mono (fun b q e => ⟨by omega, by omega⟩)
              have hR1 : RS (zwi M (70 + 8 * s + 2 + 2) i (nI q)) (70 + 8 * s) (dT D) (yNm (dT D) (dW D) s) (gpS (dS D s) (yu (gp (dS D s)) i (nI q))) := RS_gp hRs2 (fun j hj => by
                by_cases e : j = i
                · subst e; rw [yu_s]; exact wi_s _ _ _ _
                · rw [yu_n e]; exact (wi_n (Or.inr e)).trans (qb j hj).1) f0
              have hW := RW_sg (X := dX D) (Or.inl ⟨rfl, rfl, rfl, rfl⟩) hRW hs hR1 (f0.fr.mono (fun b q e => ⟨by omega, by omega⟩))
              have hO2 : OKW (dT D) (dc D) (yss (dX D) s (gpS (dS D s) (yu (gp (dS D s)) i (nI q)))).1 := OKW_ss (X := dX D) hO hOs
              have hN : CN (zwi M (70 + 8 * s + 2 + 2) i (nI q)) 62 66 67 62 (dT D) (dc D) (yss (dX D) s (gpS (dS D s) (yu (gp (dS D s)) i (nI q)))) := CN_of (CW.up hR.1 hW hO2 f6) (fun r _ v _ => by
                show tu (dT D (gx (yu (dW D).2 s (gpS (dS D s) (yu (gp (dS D s)) i (nI q))) r))) v = tu (dT D (gx ((dW D).2 r))) v
                by_cases e : r = s
                · subst e; rw [yu_s]; rfl
                · rw [yu_n e])
              exact k _ (hR.wo hN f6) (FW.c f6)
            · rw [if_neg (by decide)] at k
              refine q_iload_n d66_0 rfl ?_
              refine q_s1 d66_1 (Or.inl rfl) rfl (Nat.le_of_ble_eq_true rfl) (c60t (by omega) ?_)
              refine n0_eq 43 d66_4 (by decide) (by decide) (fun q => absurd q (by decide)) (fun _ => ?_)
              refine q_aload_n d66_7 rfl ?_
              refine q_getr (c := 7) (f := 4) d66_8 ⟨rfl, rfl⟩ (hS.1.1) (hS.1.2.2.2.2.2.2.1) ?_
              refine q_getr (c := 6) (f := 3) d66_11 ⟨rfl, rfl⟩ hwr.1 hwr.2.2.2.2.1 ?_
              refine q_iload_n d66_14 rfl ?_
              refine n_aald d66_15 hwr.2.2.2.2.2.1 (by decide) (by omega) (by decide) (hwr.2.2.2.2.2.2 _ (by omega)) ?_
              refine q_iload_n d66_16 rfl ?_
              refine q_v1 d66_17 rfl rfl hsg.1 (Nat.le_of_ble_eq_true rfl) (c67t hsg e2 (hS.pr (by omega)) (hT _ hx) hn hi ?_)
              refine n0_eq 43 d66_20 (by decide) (by decide) (fun q => absurd q (by decide)) (fun _ => ?_)
              refine q_iload_n d66_23 rfl ?_
              refine q_iconstN (z := 0) d66_24 ?_
              refine q_iconstN (z := 1) d66_25 ?_
              refine q_s3 d66_26 (Or.inl rfl) rfl (Nat.le_of_ble_eq_true rfl) (c10t ⟨by omega, by omega⟩ (by decide) ?_)
              refine n0_eq 43 d66_29 (by decide) (by decide) (fun q => absurd q (by decide)) (fun _ => ?_)
              refine q_iload d66_32 rfl ?_
              refine q_iconstN (z := 0) d66_34 ?_
              refine q_bipush (x := nI 9) d66_35 rfl ?_
              refine q_s3 d66_37 (Or.inl rfl) rfl (Nat.le_of_ble_eq_true rfl) (c10t ⟨by omega, by omega⟩ (by decide) ?_)
              refine n0_ne 46 d66_40 (by decide) (by decide) (fun _ => ?_) (fun q => absurd q (by decide))
              refine q_aload_n d66_46 rfl ?_
              refine q_getr (c := 7) (f := 4) d66_47 ⟨rfl, rfl⟩ (hS.1.1) (hS.1.2.2.2.2.2.2.1) ?_
              refine q_getr (c := 6) (f := 3) d66_50 ⟨rfl, rfl⟩ hwr.1 hwr.2.2.2.2.1 ?_
              refine q_iload_n d66_53 rfl ?_
              refine n_aald d66_54 hwr.2.2.2.2.2.1 (by decide) (by omega) (by decide) (hwr.2.2.2.2.2.2 _ (by omega)) ?_
              refine q_astore d66_55 (by decide) rfl ?_
              refine q_aload d66_57 rfl ?_
              refine q_getv (c := 5) (f := 0) d66_59 ⟨rfl, by decide⟩ hsg.1 q0 ?_
              refine n0_ne 68 d66_62 (by decide) (by omega) (fun h62 => ?_) (fun h62 => (False.elim (hg h62)))
              refine q_iload_n d66_68 rfl ?_
              refine n0_ne 80 d66_69 (by decide) (by decide) (fun _ => ?_) (fun q => absurd q (by decide))
              refine q_aload d66_80 rfl ?_
              refine q_getr (c := 5) (f := 11) d66_82 ⟨rfl, rfl⟩ hsg.1 (hsg.2.2.1 3 (by decide)) ?_
              refine q_astore d66_85 (by decide) rfl ?_
              refine q_aload d66_87 rfl ?_
              refine q_iload_n d66_89 rfl ?_
              refine n_iald d66_90 (hsg.2.2.2 4 (by decide)) (by omega) (by decide) (qb _ (by omega)).2.1 ?_
              refine q_istore d66_91 (by decide) rfl ?_
              refine q_aload d66_93 rfl ?_
              refine q_iload_n d66_95 rfl ?_
              refine q_iload d66_96 rfl ?_
              refine n_iast d66_98 (hsg.2.2.2 4 (by decide)) (by omega) (by decide) ?_
              refine q_iload d66_99 rfl ?_
              refine q_iret d66_101 rfl ?_
              have f0 : Fi (fun b _ => b = 70 + 8 * s + 5) M (zwi M (70 + 8 * s + 2 + 3) i (nI q)) := (Fi.refl _ _).wi rfl
              have f6 : Fi (FW 62) M (zwi M (70 + 8 * s + 2 + 3) i (nI q)) := f0.mono (fun b q e => ⟨by omega, by omega⟩)
              have hR1 : RS (zwi M (70 + 8 * s + 2 + 3) i (nI q)) (70 + 8 * s) (dT D) (yNm (dT D) (dW D) s) (gqS (dS D s) (yu (gq (dS D s)) i (nI q))) := RS_gq hRs2 (fun j hj => by
                by_cases e : j = i
                · subst e; rw [yu_s]; exact wi_s _ _ _ _
                · rw [yu_n e]; exact (wi_n (Or.inr e)).trans (qb j hj).2.1) f0
              have hW := RW_sg (X := dX D) (Or.inl ⟨rfl, rfl, rfl, rfl⟩) hRW hs hR1 (f0.fr.mono (fun b q e => ⟨by omega, by omega⟩))
              have hO2 : OKW (dT D) (dc D) (yss (dX D) s (gqS (dS D s) (yu (gq (dS D s)) i (nI q)))).1 := OKW_ss (X := dX D) hO hOs
              have hN : CN (zwi M (70 + 8 * s + 2 + 3) i (nI q)) 62 66 67 62 (dT D) (dc D) (yss (dX D) s (gqS (dS D s) (yu (gq (dS D s)) i (nI q)))) := CN_of (CW.up hR.1 hW hO2 f6) (fun r _ v _ => by
                show tu (dT D (gx (yu (dW D).2 s (gqS (dS D s) (yu (gq (dS D s)) i (nI q))) r))) v = tu (dT D (gx ((dW D).2 r))) v
                by_cases e : r = s
                · subst e; rw [yu_s]; rfl
                · rw [yu_n e])
              exact k _ (hR.wo hN f6) (FW.c f6)
          · rw [oz_n eq] at k
            refine q_iload_n d66_0 rfl ?_
            refine q_s1 d66_1 (Or.inl rfl) rfl (Nat.le_of_ble_eq_true rfl) (c60t (by omega) ?_)
            refine n0_eq 43 d66_4 (by decide) (by decide) (fun q => absurd q (by decide)) (fun _ => ?_)
            refine q_aload_n d66_7 rfl ?_
            refine q_getr (c := 7) (f := 4) d66_8 ⟨rfl, rfl⟩ (hS.1.1) (hS.1.2.2.2.2.2.2.1) ?_
            refine q_getr (c := 6) (f := 3) d66_11 ⟨rfl, rfl⟩ hwr.1 hwr.2.2.2.2.1 ?_
            refine q_iload_n d66_14 rfl ?_
            refine n_aald d66_15 hwr.2.2.2.2.2.1 (by decide) (by omega) (by decide) (hwr.2.2.2.2.2.2 _ (by omega)) ?_
            refine q_iload_n d66_16 rfl ?_
            refine q_v1 d66_17 rfl rfl hsg.1 (Nat.le_of_ble_eq_true rfl) (c67t hsg e2 (hS.pr (by omega)) (hT _ hx) hn hi ?_)
            refine n0_eq 43 d66_20 (by decide) (by decide) (fun q => absurd q (by decide)) (fun _ => ?_)
            refine q_iload_n d66_23 rfl ?_
            refine q_iconstN (z := 0) d66_24 ?_
            refine q_iconstN (z := 1) d66_25 ?_
            refine q_s3 d66_26 (Or.inl rfl) rfl (Nat.le_of_ble_eq_true rfl) (c10t ⟨by omega, by omega⟩ (by decide) ?_)
            refine n0_eq 43 d66_29 (by decide) (by decide) (fun q => absurd q (by decide)) (fun _ => ?_)
            refine q_iload d66_32 rfl ?_
            refine q_iconstN (z := 0) d66_34 ?_
            refine q_bipush (x := nI 9) d66_35 rfl ?_
            refine q_s3 d66_37 (Or.inl rfl) rfl (Nat.le_of_ble_eq_true rfl) (c10f (by decide) (by omega) (by decide) ?_)
            refine n0_ne 46 d66_40 (by decide) (by decide) (fun q => absurd q (by decide)) (fun _ => ?_)
            refine q_bipush (x := (-2)) d66_43 rfl ?_
            refine q_iret d66_45 rfl ?_
            exact k _ hR (Fc.refl _)
        · rw [oz_n ep] at k
          refine q_iload_n d66_0 rfl ?_
          refine q_s1 d66_1 (Or.inl rfl) rfl (Nat.le_of_ble_eq_true rfl) (c60t (by omega) ?_)
          refine n0_eq 43 d66_4 (by decide) (by decide) (fun q => absurd q (by decide)) (fun _ => ?_)
          refine q_aload_n d66_7 rfl ?_
          refine q_getr (c := 7) (f := 4) d66_8 ⟨rfl, rfl⟩ (hS.1.1) (hS.1.2.2.2.2.2.2.1) ?_
          refine q_getr (c := 6) (f := 3) d66_11 ⟨rfl, rfl⟩ hwr.1 hwr.2.2.2.2.1 ?_
          refine q_iload_n d66_14 rfl ?_
          refine n_aald d66_15 hwr.2.2.2.2.2.1 (by decide) (by omega) (by decide) (hwr.2.2.2.2.2.2 _ (by omega)) ?_
          refine q_iload_n d66_16 rfl ?_
          refine q_v1 d66_17 rfl rfl hsg.1 (Nat.le_of_ble_eq_true rfl) (c67t hsg e2 (hS.pr (by omega)) (hT _ hx) hn hi ?_)
          refine n0_eq 43 d66_20 (by decide) (by decide) (fun q => absurd q (by decide)) (fun _ => ?_)
          refine q_iload_n d66_23 rfl ?_
          refine q_iconstN (z := 0) d66_24 ?_
          refine q_iconstN (z := 1) d66_25 ?_
          refine q_s3 d66_26 (Or.inl rfl) rfl (Nat.le_of_ble_eq_true rfl) (c10f (by decide) (by omega) (by decide) ?_)
          refine n0_eq 43 d66_29 (by decide) (by decide) (fun _ => ?_) (fun q => absurd q (by decide))
          refine q_bipush (x := (-2)) d66_43 rfl ?_
          refine q_iret d66_45 rfl ?_
          exact k _ hR (Fc.refl _)
      · rw [oz_n ei] at k
        refine q_iload_n d66_0 rfl ?_
        refine q_s1 d66_1 (Or.inl rfl) rfl (Nat.le_of_ble_eq_true rfl) (c60t (by omega) ?_)
        refine n0_eq 43 d66_4 (by decide) (by decide) (fun q => absurd q (by decide)) (fun _ => ?_)
        refine q_aload_n d66_7 rfl ?_
        refine q_getr (c := 7) (f := 4) d66_8 ⟨rfl, rfl⟩ (hS.1.1) (hS.1.2.2.2.2.2.2.1) ?_
        refine q_getr (c := 6) (f := 3) d66_11 ⟨rfl, rfl⟩ hwr.1 hwr.2.2.2.2.1 ?_
        refine q_iload_n d66_14 rfl ?_
        refine n_aald d66_15 hwr.2.2.2.2.2.1 (by decide) (by omega) (by decide) (hwr.2.2.2.2.2.2 _ (by omega)) ?_
        refine q_iload_n d66_16 rfl ?_
        refine q_v1 d66_17 rfl rfl hsg.1 (Nat.le_of_ble_eq_true rfl) (c67f hsg e2 (hS.pr (by omega)) (hT _ hx) hn ei ?_)
        refine n0_eq 43 d66_20 (by decide) (by decide) (fun _ => ?_) (fun q => absurd q (by decide))
        refine q_bipush (x := (-2)) d66_43 rfl ?_
        refine q_iret d66_45 rfl ?_
        exact k _ hR (Fc.refl _)
  · rw [oz_n es] at k
    refine q_iload_n d66_0 rfl ?_
    refine q_s1 d66_1 (Or.inl rfl) rfl (Nat.le_of_ble_eq_true rfl) (c60f es ?_)
    refine n0_eq 43 d66_4 (by decide) (by decide) (fun _ => ?_) (fun q => absurd q (by decide))
    refine q_bipush (x := (-2)) d66_43 rfl ?_
    refine q_iret d66_45 rfl ?_
    exact k _ hR (Fc.refl _)
