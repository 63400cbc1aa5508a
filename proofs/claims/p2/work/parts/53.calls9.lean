/-! ===== the calls of the class: film ===== -/
theorem CW.it {M M' : zM} {T : Nat → yT} {c h : Nat} {nm : Nat → Nat → Int32} {X : yX} (hC : CW M 94 94 99 95 T c nm X) (f : Fi (Fb 127 136) M M') : CW M' 94 94 99 95 T c nm X :=
  ⟨f.sc hC.1 (fun a k ha q => by have := q.1; omega), hC.2.1, RTx_fr hC.2.2.1 hC.2.2.2.1.1.1 f.fr (fun b k h1 h2 q => by have := q.1; omega), hC.2.2.2.1, RPu_fr hC.2.2.2.2.1 f.fr (fun b k h1 h2 q => by have := q.1; omega), fun s hs => RS_fr (hC.2.2.2.2.2.1 s hs) f.fr (fun b k h1 h2 q => by have := q.1; omega), RJ_fr hC.2.2.2.2.2.2 f.fr (fun b k h1 h2 q => by have := q.1; omega)⟩
theorem d120_0 : decode (zB 120) 0 = .ok (.iload_n 1, 1) := by decide +kernel
theorem d120_1 : decode (zB 120) 1 = .ok (.invokestatic 245, 3) := by decide +kernel
theorem d120_4 : decode (zB 120) 4 = .ok (.ifCond .eq 20, 3) := by decide +kernel
theorem d120_7 : decode (zB 120) 7 = .ok (.iload_n 2, 1) := by decide +kernel
theorem d120_8 : decode (zB 120) 8 = .ok (.invokestatic 202, 3) := by decide +kernel
theorem d120_11 : decode (zB 120) 11 = .ok (.ifCond .eq 13, 3) := by decide +kernel
theorem d120_14 : decode (zB 120) 14 = .ok (.iload_n 3, 1) := by decide +kernel
theorem d120_15 : decode (zB 120) 15 = .ok (.iconst 0, 1) := by decide +kernel
theorem d120_16 : decode (zB 120) 16 = .ok (.bipush 20, 2) := by decide +kernel
theorem d120_18 : decode (zB 120) 18 = .ok (.invokestatic 55, 3) := by decide +kernel
theorem d120_21 : decode (zB 120) 21 = .ok (.ifCond .ne 6, 3) := by decide +kernel
theorem d120_24 : decode (zB 120) 24 = .ok (.bipush (-2), 2) := by decide +kernel
theorem d120_26 : decode (zB 120) 26 = .ok (.ireturn, 1) := by decide +kernel
theorem d120_27 : decode (zB 120) 27 = .ok (.aload_n 0, 1) := by decide +kernel
theorem d120_28 : decode (zB 120) 28 = .ok (.getfield 46, 3) := by decide +kernel
theorem d120_31 : decode (zB 120) 31 = .ok (.iload_n 1, 1) := by decide +kernel
theorem d120_32 : decode (zB 120) 32 = .ok (.aaload, 1) := by decide +kernel
theorem d120_33 : decode (zB 120) 33 = .ok (.astore 4, 2) := by decide +kernel
theorem d120_35 : decode (zB 120) 35 = .ok (.aload 4, 2) := by decide +kernel
theorem d120_37 : decode (zB 120) 37 = .ok (.iconst 1, 1) := by decide +kernel
theorem d120_38 : decode (zB 120) 38 = .ok (.iload_n 3, 1) := by decide +kernel
theorem d120_39 : decode (zB 120) 39 = .ok (.invokevirtual 272, 3) := by decide +kernel
theorem d120_42 : decode (zB 120) 42 = .ok (.aload_n 0, 1) := by decide +kernel
theorem d120_43 : decode (zB 120) 43 = .ok (.getfield 41, 3) := by decide +kernel
theorem d120_46 : decode (zB 120) 46 = .ok (.aload_n 0, 1) := by decide +kernel
theorem d120_47 : decode (zB 120) 47 = .ok (.getfield 37, 3) := by decide +kernel
theorem d120_50 : decode (zB 120) 50 = .ok (.invokevirtual 227, 3) := by decide +kernel
theorem d120_53 : decode (zB 120) 53 = .ok (.iconst 0, 1) := by decide +kernel
theorem d120_54 : decode (zB 120) 54 = .ok (.istore 5, 2) := by decide +kernel
theorem d120_56 : decode (zB 120) 56 = .ok (.iload 5, 2) := by decide +kernel
theorem d120_58 : decode (zB 120) 58 = .ok (.iload_n 3, 1) := by decide +kernel
theorem d120_59 : decode (zB 120) 59 = .ok (.if_icmp .ge 35, 3) := by decide +kernel
theorem d120_62 : decode (zB 120) 62 = .ok (.aload_n 0, 1) := by decide +kernel
theorem d120_63 : decode (zB 120) 63 = .ok (.getfield 41, 3) := by decide +kernel
theorem d120_66 : decode (zB 120) 66 = .ok (.invokevirtual 175, 3) := by decide +kernel
theorem d120_69 : decode (zB 120) 69 = .ok (.aload 4, 2) := by decide +kernel
theorem d120_71 : decode (zB 120) 71 = .ok (.iload 5, 2) := by decide +kernel
theorem d120_73 : decode (zB 120) 73 = .ok (.aload_n 0, 1) := by decide +kernel
theorem d120_74 : decode (zB 120) 74 = .ok (.getfield 41, 3) := by decide +kernel
theorem d120_77 : decode (zB 120) 77 = .ok (.getfield 94, 3) := by decide +kernel
theorem d120_80 : decode (zB 120) 80 = .ok (.getfield 205, 3) := by decide +kernel
theorem d120_83 : decode (zB 120) 83 = .ok (.iload_n 2, 1) := by decide +kernel
theorem d120_84 : decode (zB 120) 84 = .ok (.iaload, 1) := by decide +kernel
theorem d120_85 : decode (zB 120) 85 = .ok (.invokevirtual 276, 3) := by decide +kernel
theorem d120_88 : decode (zB 120) 88 = .ok (.iinc 5 1, 3) := by decide +kernel
theorem d120_91 : decode (zB 120) 91 = .ok (.goto (-35), 3) := by decide +kernel
theorem d120_94 : decode (zB 120) 94 = .ok (.iload_n 3, 1) := by decide +kernel
theorem d120_95 : decode (zB 120) 95 = .ok (.ireturn, 1) := by decide +kernel
theorem l120 {d : Nat} {Q : Option Value → zM → Prop} {D : yD} {M0 : zM} {n h a : Nat} {nm : Nat → Nat → Int32} (hh : h < 4) (ha : a < 6) (hn : n ≤ 20) (hz : (dR D h).2 = n) (k : ∀ M', RC M' D → Fc M0 M' → Q (some (.int (nI n))) M') : ∀ (r i : Nat) (M1 : zM) (X1 : yX), i ≤ n → n < i + r →  RC M1 D → CW M1 94 94 99 95 (dT D) (dc D) nm X1 → Fc M0 M1 → qW (zEv (d + 5)) 120 Q 56 [(5, .int (nI i)), (4, .ref (127 + 2 * h)), (0, .ref 16), (1, .int (nI h)), (2, .int (nI a)), (3, .int (nI n))] [] M1 := by
  intro r
  induction r with
  | zero => intros; omega
  | succ r ih =>
    intro i M1 X1 h1 h2 hR1 hC1 hF
    refine q_iload d120_56 rfl ?_
    refine q_iload_n d120_58 rfl ?_
    refine nc_ge 94 d120_59 (by decide) (by omega) (by omega) (fun h59 => ?_) (fun h59 => ?_)
    · refine q_iload_n d120_94 rfl ?_
      refine q_iret d120_95 rfl ?_
      exact k _ hR1 hF
    · refine q_aload_n d120_62 rfl ?_
      refine q_getr (c := 7) (f := 5) d120_63 ⟨rfl, rfl⟩ (hC1.1.1.1) (hC1.1.1.2.2.2.2.2.2.2.1) ?_
      refine q_v0 d120_66 rfl rfl (hC1.1.wo (Or.inr ⟨rfl, rfl, rfl, rfl⟩)).1 (Nat.le_of_ble_eq_true rfl) (c69 hC1 hC1.l0 (fun M2 hC2 f2 => ?_))
      have ht2 := hR1.th hC2.1 f2.fr
      refine q_aload d120_69 rfl ?_
      refine q_iload d120_71 rfl ?_
      refine q_aload_n d120_73 rfl ?_
      refine q_getr (c := 7) (f := 5) d120_74 ⟨rfl, rfl⟩ (hC2.1.1.1) (hC2.1.1.2.2.2.2.2.2.2.1) ?_
      refine q_getr (c := 6) (f := 2) d120_77 ⟨rfl, rfl⟩ (hC2.1.wo (Or.inr ⟨rfl, rfl, rfl, rfl⟩)).1 (hC2.1.wo (Or.inr ⟨rfl, rfl, rfl, rfl⟩)).2.2.2.1 ?_
      refine q_getr (c := 2) (f := 0) d120_80 ⟨rfl, rfl⟩ (hC2.1.pu (Or.inr ⟨rfl, rfl, rfl, rfl⟩)).1 (hC2.1.pu (Or.inr ⟨rfl, rfl, rfl, rfl⟩)).2.1 ?_
      refine q_iload_n d120_83 rfl ?_
      refine n_iald d120_84 (hC2.1.pu (Or.inr ⟨rfl, rfl, rfl, rfl⟩)).2.2 (by omega) (by decide) (hC2.2.2.2.2.1.1 _ (by omega)) ?_
      refine q_v2 d120_85 rfl rfl (hC2.1.2.2.2.2.2.2.2.2.2.2.2.1 h (by omega)).1 (Nat.le_of_ble_eq_true rfl) (c122 (n := n) (hC2.1.2.2.2.2.2.2.2.2.2.2.2.1 h (by omega)) ((ht2.1.2.2.2 h hh).2.trans (by rw [hz])) (by omega) (by omega) (fun M3 f3 => ?_))
      have hR3 := ht2.1.items hh f3
      have hC3 := hC2.it (h := h) (f3.mono (fun b q e => ⟨by omega, by omega⟩))
      refine n_iinc 1 d120_88 (by decide) rfl rfl ?_
      refine q_goto 56 d120_91 (by decide) ?_
      exact ih (i + 1) _ _ (by omega) (by omega) hR3 hC3 (hF.trans (ht2.2.trans (f3.fr.c (fun b q hb e => by omega))))
theorem p120 {d : Nat} {M : zM} {Q : Option Value → zM → Prop} {D : yD} {x y z : Int32} (hR : RC M D) (hD : OKD D) (k : ∀ M', RC M' (sFilm D x y z).2 → Fc M M' → Q (some (.int (sFilm D x y z).1)) M') : qC (d + 6) 120 [.ref 16, .int x, .int y, .int z] M Q := by
  refine qC_of (by decide) (Nat.le_of_ble_eq_true rfl) ?_
  have hS := hR.1.1
  have hT := hR.1.2.2.1
  have hO := hR.1.2.2.2.1
  have hRW := hR.1.2.2.2.2
  have hJ : RL M 62 (dL D) := hRW.2.2.2
  have hc6 := hO.1.1
  have h240 := hD.2.1
  have h120 := hR.2.2.1.1
  have hwr := hS.wo (Or.inl ⟨rfl, rfl, rfl, rfl⟩)
  have hwt := hS.wo (Or.inr ⟨rfl, rfl, rfl, rfl⟩)
  have hpr := hS.pu (Or.inl ⟨rfl, rfl, rfl, rfl⟩)
  have hpt := hS.pu (Or.inr ⟨rfl, rfl, rfl, rfl⟩)
  unfold sFilm at k
  rcases zix_c x (n := 4) (by omega) with ⟨h, hh, rfl, eh⟩ | ⟨eh, nh⟩
  · rw [oz_s eh] at k
    rcases zix_c y (n := 6) (by omega) with ⟨a, ha, rfl, ea⟩ | ⟨ea, na⟩
    · rw [oz_s ea] at k
      rcases zix_c z (n := 21) (by omega) with ⟨n, hn, rfl, en⟩ | ⟨en, nn⟩
      · rw [oz_s en] at k
        refine q_iload_n d120_0 rfl ?_
        refine q_s1 d120_1 (Or.inl rfl) rfl (Nat.le_of_ble_eq_true rfl) (c113t (by omega) ?_)
        refine n0_eq 24 d120_4 (by decide) (by decide) (fun q => absurd q (by decide)) (fun _ => ?_)
        refine q_iload_n d120_7 rfl ?_
        refine q_s1 d120_8 (Or.inl rfl) rfl (Nat.le_of_ble_eq_true rfl) (c26t (by omega) ?_)
        refine n0_eq 24 d120_11 (by decide) (by decide) (fun q => absurd q (by decide)) (fun _ => ?_)
        refine q_iload_n d120_14 rfl ?_
        refine q_iconstN (z := 0) d120_15 ?_
        refine q_bipush (x := nI 20) d120_16 rfl ?_
        refine q_s3 d120_18 (Or.inl rfl) rfl (Nat.le_of_ble_eq_true rfl) (c10t ⟨by omega, by omega⟩ (by decide) ?_)
        refine n0_ne 27 d120_21 (by decide) (by decide) (fun _ => ?_) (fun q => absurd q (by decide))
        refine q_aload_n d120_27 rfl ?_
        refine q_getr (c := 7) (f := 6) d120_28 ⟨rfl, rfl⟩ (hS.1.1) (hS.1.2.2.2.2.2.2.2.2.1) ?_
        refine q_iload_n d120_31 rfl ?_
        refine n_aald d120_32 (hS.1.2.2.2.2.2.2.2.2.2.1) (by decide) (by omega) (by decide) ((hS.1.2.2.2.2.2.2.2.2.2.2.1) _ (by omega)) ?_
        refine q_astore d120_33 (by decide) rfl ?_
        refine q_aload d120_35 rfl ?_
        refine q_iconstN (z := 1) d120_37 ?_
        refine q_iload_n d120_38 rfl ?_
        refine q_v2 d120_39 rfl rfl (hS.2.2.2.2.2.2.2.2.2.2.2.1 _ (by omega)).1 (Nat.le_of_ble_eq_true rfl) (c121 (so := nI 1) (n := n) (hS.2.2.2.2.2.2.2.2.2.2.2.1 h (by omega)) (by omega) (fun M1 h1 h2 f1 => ?_))
        have hR1 := hR.row hh f1 h1 h2
        have hS1 := hR1.1.1
        refine q_aload_n d120_42 rfl ?_
        refine q_getr (c := 7) (f := 5) d120_43 ⟨rfl, rfl⟩ (hS1.1.1) (hS1.1.2.2.2.2.2.2.2.1) ?_
        refine q_aload_n d120_46 rfl ?_
        refine q_getr (c := 7) (f := 4) d120_47 ⟨rfl, rfl⟩ (hS1.1.1) (hS1.1.2.2.2.2.2.2.1) ?_
        refine q_v1 d120_50 rfl rfl (hS1.wo (Or.inr ⟨rfl, rfl, rfl, rfl⟩)).1 (Nat.le_of_ble_eq_true rfl) (c101 (nm := dnm D) (X := dX D) hR1.1 (fun M2 hC2 f2 => ?_))
        have ht2 := hR1.th hC2.1 (f2.mono (fun b q e => ⟨by have := e.1; omega, by have := e.2; omega⟩))
        refine q_iconstN (z := 0) d120_53 ?_
        refine q_istore d120_54 (by decide) rfl ?_
        exact l120 (D := drS D (yu (dR D) h (nI 1, n))) (nm := dnm D) (X1 := ((dW D), none)) hh ha (by omega) (by show (yu (dR D) h (nI 1, n) h).2 = n; rw [yu_s]) (fun M' g1 g2 => k M' g1 g2) (n + 1) 0 M2 (by omega) (by omega) ht2.1 hC2 ((f1.fr.c (fun b q hb e => by have := e.1; have := e.2; omega)).trans ht2.2)
      · rw [oz_n en] at k
        refine q_iload_n d120_0 rfl ?_
        refine q_s1 d120_1 (Or.inl rfl) rfl (Nat.le_of_ble_eq_true rfl) (c113t (by omega) ?_)
        refine n0_eq 24 d120_4 (by decide) (by decide) (fun q => absurd q (by decide)) (fun _ => ?_)
        refine q_iload_n d120_7 rfl ?_
        refine q_s1 d120_8 (Or.inl rfl) rfl (Nat.le_of_ble_eq_true rfl) (c26t (by omega) ?_)
        refine n0_eq 24 d120_11 (by decide) (by decide) (fun q => absurd q (by decide)) (fun _ => ?_)
        refine q_iload_n d120_14 rfl ?_
        refine q_iconstN (z := 0) d120_15 ?_
        refine q_bipush (x := nI 20) d120_16 rfl ?_
        refine q_s3 d120_18 (Or.inl rfl) rfl (Nat.le_of_ble_eq_true rfl) (c10f (by decide) (by omega) (by decide) ?_)
        refine n0_ne 27 d120_21 (by decide) (by decide) (fun q => absurd q (by decide)) (fun _ => ?_)
        refine q_bipush (x := (-2)) d120_24 rfl ?_
        refine q_iret d120_26 rfl ?_
        exact k _ hR (Fc.refl _)
    · rw [oz_n ea] at k
      refine q_iload_n d120_0 rfl ?_
      refine q_s1 d120_1 (Or.inl rfl) rfl (Nat.le_of_ble_eq_true rfl) (c113t (by omega) ?_)
      refine n0_eq 24 d120_4 (by decide) (by decide) (fun q => absurd q (by decide)) (fun _ => ?_)
      refine q_iload_n d120_7 rfl ?_
      refine q_s1 d120_8 (Or.inl rfl) rfl (Nat.le_of_ble_eq_true rfl) (c26f ea ?_)
      refine n0_eq 24 d120_11 (by decide) (by decide) (fun _ => ?_) (fun q => absurd q (by decide))
      refine q_bipush (x := (-2)) d120_24 rfl ?_
      refine q_iret d120_26 rfl ?_
      exact k _ hR (Fc.refl _)
  · rw [oz_n eh] at k
    refine q_iload_n d120_0 rfl ?_
    refine q_s1 d120_1 (Or.inl rfl) rfl (Nat.le_of_ble_eq_true rfl) (c113f eh ?_)
    refine n0_eq 24 d120_4 (by decide) (by decide) (fun _ => ?_) (fun q => absurd q (by decide))
    refine q_bipush (x := (-2)) d120_24 rfl ?_
    refine q_iret d120_26 rfl ?_
    exact k _ hR (Fc.refl _)
