/-! ===== the calls of the class: runs in thought ===== -/
theorem CW.l0 {M : zM} {T : Nat → yT} {c : Nat} {nm : Nat → Nat → Int32} {X : yX} (h : CW M 94 94 99 95 T c nm X) : yln X.2 + 39 ≤ 240 := by
  have h1 : RJ M 95 X.2 := h.2.2.2.2.2.2
  cases e : X.2 with
  | none => show 0 + 39 ≤ 240; omega
  | some L => rw [e] at h1; exact absurd h1.1 (by decide)
theorem d100_0 : decode (zB 100) 0 = .ok (.iload_n 1, 1) := by decide +kernel
theorem d100_1 : decode (zB 100) 1 = .ok (.iconst 0, 1) := by decide +kernel
theorem d100_2 : decode (zB 100) 2 = .ok (.bipush 60, 2) := by decide +kernel
theorem d100_4 : decode (zB 100) 4 = .ok (.invokestatic 55, 3) := by decide +kernel
theorem d100_7 : decode (zB 100) 7 = .ok (.ifCond .eq 10, 3) := by decide +kernel
theorem d100_10 : decode (zB 100) 10 = .ok (.iload_n 2, 1) := by decide +kernel
theorem d100_11 : decode (zB 100) 11 = .ok (.invokestatic 217, 3) := by decide +kernel
theorem d100_14 : decode (zB 100) 14 = .ok (.ifCond .ne 6, 3) := by decide +kernel
theorem d100_17 : decode (zB 100) 17 = .ok (.bipush (-2), 2) := by decide +kernel
theorem d100_19 : decode (zB 100) 19 = .ok (.ireturn, 1) := by decide +kernel
theorem d100_20 : decode (zB 100) 20 = .ok (.aload_n 0, 1) := by decide +kernel
theorem d100_21 : decode (zB 100) 21 = .ok (.getfield 41, 3) := by decide +kernel
theorem d100_24 : decode (zB 100) 24 = .ok (.aload_n 0, 1) := by decide +kernel
theorem d100_25 : decode (zB 100) 25 = .ok (.getfield 37, 3) := by decide +kernel
theorem d100_28 : decode (zB 100) 28 = .ok (.invokevirtual 227, 3) := by decide +kernel
theorem d100_31 : decode (zB 100) 31 = .ok (.iconst 0, 1) := by decide +kernel
theorem d100_32 : decode (zB 100) 32 = .ok (.istore_n 3, 1) := by decide +kernel
theorem d100_33 : decode (zB 100) 33 = .ok (.iload_n 3, 1) := by decide +kernel
theorem d100_34 : decode (zB 100) 34 = .ok (.iload_n 1, 1) := by decide +kernel
theorem d100_35 : decode (zB 100) 35 = .ok (.if_icmp .ge 16, 3) := by decide +kernel
theorem d100_38 : decode (zB 100) 38 = .ok (.aload_n 0, 1) := by decide +kernel
theorem d100_39 : decode (zB 100) 39 = .ok (.getfield 41, 3) := by decide +kernel
theorem d100_42 : decode (zB 100) 42 = .ok (.invokevirtual 175, 3) := by decide +kernel
theorem d100_45 : decode (zB 100) 45 = .ok (.iinc 3 1, 3) := by decide +kernel
theorem d100_48 : decode (zB 100) 48 = .ok (.goto (-15), 3) := by decide +kernel
theorem d100_51 : decode (zB 100) 51 = .ok (.aload_n 0, 1) := by decide +kernel
theorem d100_52 : decode (zB 100) 52 = .ok (.getfield 41, 3) := by decide +kernel
theorem d100_55 : decode (zB 100) 55 = .ok (.iload_n 2, 1) := by decide +kernel
theorem d100_56 : decode (zB 100) 56 = .ok (.invokevirtual 224, 3) := by decide +kernel
theorem d100_59 : decode (zB 100) 59 = .ok (.ireturn, 1) := by decide +kernel
theorem l100 {d : Nat} {Q : Option Value → zM → Prop} {D : yD} {M0 : zM} {n m : Nat} {nm : Nat → Nat → Int32} {XF : yX} (hR : RC M0 D) (hn : n ≤ 60) (hm : ywv m = true) (h50 : m < 50) (k : ∀ M', RC M' D → Fc M0 M' → Q (some (.int (yvw XF.1 m))) M') : ∀ (r i : Nat) (M1 : zM) (X1 : yX), i ≤ n → n < i + r →  CW M1 94 94 99 95 (dT D) (dc D) nm X1 → Fr (FW 94) M0 M1 → ytn (dT D) nm (n - i) X1 = XF → qW (zEv (d + 5)) 100 Q 33 [(3, .int (nI i)), (0, .ref 16), (1, .int (nI n)), (2, .int (nI m))] [] M1 := by
  intro r
  induction r with
  | zero => intros; omega
  | succ r ih =>
    intro i M1 X1 h1 h2 hC1 hF hy
    refine q_iload_n d100_33 rfl ?_
    refine q_iload_n d100_34 rfl ?_
    refine nc_ge 51 d100_35 (by decide) (by omega) (by omega) (fun h35 => ?_) (fun h35 => ?_)
    · refine q_aload_n d100_51 rfl ?_
      refine q_getr (c := 7) (f := 5) d100_52 ⟨rfl, rfl⟩ (hC1.1.1.1) (hC1.1.1.2.2.2.2.2.2.2.1) ?_
      refine q_iload_n d100_55 rfl ?_
      refine q_v1 d100_56 rfl rfl (hC1.1.wo (Or.inr ⟨rfl, rfl, rfl, rfl⟩)).1 (Nat.le_of_ble_eq_true rfl) (c98 hC1 hm h50 ?_)
      refine q_iret d100_59 rfl ?_
      have e : X1 = XF := by rw [show n - i = 0 by omega] at hy; exact hy
      subst e
      have hth := hR.th hC1.1 hF
      exact k _ hth.1 hth.2
    · refine q_aload_n d100_38 rfl ?_
      refine q_getr (c := 7) (f := 5) d100_39 ⟨rfl, rfl⟩ (hC1.1.1.1) (hC1.1.1.2.2.2.2.2.2.2.1) ?_
      refine q_v0 d100_42 rfl rfl (hC1.1.wo (Or.inr ⟨rfl, rfl, rfl, rfl⟩)).1 (Nat.le_of_ble_eq_true rfl) (c69 hC1 hC1.l0 (fun M2 hC2 f2 => ?_))
      refine n_iinc 1 d100_45 (by decide) rfl rfl ?_
      refine q_goto 33 d100_48 (by decide) ?_
      exact ih (i + 1) _ _ (by omega) (by omega) hC2 (hF.trans f2.fr) (by rw [show n - i = (n - (i + 1)) + 1 by omega, ytn] at hy; exact hy)
theorem p100 {d : Nat} {M : zM} {Q : Option Value → zM → Prop} {D : yD} {x y : Int32} (hR : RC M D) (hD : OKD D) (k : ∀ M', RC M' D → Fc M M' → Q (some (.int (sRun D x y))) M') : qC (d + 6) 100 [.ref 16, .int x, .int y] M Q := by
  refine qC_of (by decide) (Nat.le_of_ble_eq_true rfl) ?_
  have hS := hR.1.1
  have hT := hR.1.2.2.1
  have hO := hR.1.2.2.2.1
  have hRW := hR.1.2.2.2.2
  have hJ : RL M 62 (dL D) := hRW.2.2.2
  have hc6 := hO.1.1
  have h240 := hD.2.1
  have h120 := hR.2.2.1.1
  have hwr := hS.wo (Or.inl ⟨rfl, rfl, rfl, rfl⟩)
  have hwt := hS.wo (Or.inr ⟨rfl, rfl, rfl, rfl⟩)
  have hpr := hS.pu (Or.inl ⟨rfl, rfl, rfl, rfl⟩)
  have hpt := hS.pu (Or.inr ⟨rfl, rfl, rfl, rfl⟩)
  unfold sRun at k
  rcases zix_c x (n := 61) (by omega) with ⟨n, hn, rfl, en⟩ | ⟨en, nn⟩
  · rw [oz_s en] at k
    cases hv : yvx y with
    | none =>
      rw [ov_n hv] at k
      refine q_iload_n d100_0 rfl ?_
      refine q_iconstN (z := 0) d100_1 ?_
      refine q_bipush (x := nI 60) d100_2 rfl ?_
      refine q_s3 d100_4 (Or.inl rfl) rfl (Nat.le_of_ble_eq_true rfl) (c10t ⟨by omega, by omega⟩ (by decide) ?_)
      refine n0_eq 17 d100_7 (by decide) (by decide) (fun q => absurd q (by decide)) (fun _ => ?_)
      refine q_iload_n d100_10 rfl ?_
      refine q_s1 d100_11 (Or.inl rfl) rfl (Nat.le_of_ble_eq_true rfl) (c93f hv ?_)
      refine n0_ne 20 d100_14 (by decide) (by decide) (fun q => absurd q (by decide)) (fun _ => ?_)
      refine q_bipush (x := (-2)) d100_17 rfl ?_
      refine q_iret d100_19 rfl ?_
      exact k _ hR (Fc.refl _)
    | some m =>
      rw [ov_s hv] at k
      obtain ⟨rfl, hm, h50⟩ := yvx_s hv
      refine q_iload_n d100_0 rfl ?_
      refine q_iconstN (z := 0) d100_1 ?_
      refine q_bipush (x := nI 60) d100_2 rfl ?_
      refine q_s3 d100_4 (Or.inl rfl) rfl (Nat.le_of_ble_eq_true rfl) (c10t ⟨by omega, by omega⟩ (by decide) ?_)
      refine n0_eq 17 d100_7 (by decide) (by decide) (fun q => absurd q (by decide)) (fun _ => ?_)
      refine q_iload_n d100_10 rfl ?_
      refine q_s1 d100_11 (Or.inl rfl) rfl (Nat.le_of_ble_eq_true rfl) (c93t hv ?_)
      refine n0_ne 20 d100_14 (by decide) (by decide) (fun _ => ?_) (fun q => absurd q (by decide))
      refine q_aload_n d100_20 rfl ?_
      refine q_getr (c := 7) (f := 5) d100_21 ⟨rfl, rfl⟩ (hS.1.1) (hS.1.2.2.2.2.2.2.2.1) ?_
      refine q_aload_n d100_24 rfl ?_
      refine q_getr (c := 7) (f := 4) d100_25 ⟨rfl, rfl⟩ (hS.1.1) (hS.1.2.2.2.2.2.2.1) ?_
      refine q_v1 d100_28 rfl rfl hwt.1 (Nat.le_of_ble_eq_true rfl) (c101 (nm := dnm D) (X := dX D) hR.1 (fun M1 hC1 f1 => ?_))
      refine q_iconstN (z := 0) d100_31 ?_
      refine q_istore_n d100_32 (by decide) rfl ?_
      exact l100 (XF := ytn (dT D) (dnm D) n (dW D, none)) hR (by omega) hm h50 (fun M' h1 h2 => k M' h1 h2) (n + 1) 0 M1 _ (by omega) (by omega) hC1 (f1.mono (fun b q e => ⟨by have := e.1; omega, by have := e.2; omega⟩)) rfl
  · rw [oz_n en] at k
    refine q_iload_n d100_0 rfl ?_
    refine q_iconstN (z := 0) d100_1 ?_
    refine q_bipush (x := nI 60) d100_2 rfl ?_
    refine q_s3 d100_4 (Or.inl rfl) rfl (Nat.le_of_ble_eq_true rfl) (c10f (by decide) (by omega) (by decide) ?_)
    refine n0_eq 17 d100_7 (by decide) (by decide) (fun _ => ?_) (fun q => absurd q (by decide))
    refine q_bipush (x := (-2)) d100_17 rfl ?_
    refine q_iret d100_19 rfl ?_
    exact k _ hR (Fc.refl _)
