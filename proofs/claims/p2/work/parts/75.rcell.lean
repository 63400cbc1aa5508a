/-! ===== the reference: cells, films ===== -/
theorem d214_0 : decode (zB 214) 0 = .ok (.iload_n 1, 1) := by decide +kernel
theorem d214_1 : decode (zB 214) 1 = .ok (.invokestatic 392, 3) := by decide +kernel
theorem d214_4 : decode (zB 214) 4 = .ok (.ifCond .ne 6, 3) := by decide +kernel
theorem d214_7 : decode (zB 214) 7 = .ok (.bipush (-2), 2) := by decide +kernel
theorem d214_9 : decode (zB 214) 9 = .ok (.ireturn, 1) := by decide +kernel
theorem d214_10 : decode (zB 214) 10 = .ok (.aload_n 0, 1) := by decide +kernel
theorem d214_11 : decode (zB 214) 11 = .ok (.getfield 100, 3) := by decide +kernel
theorem d214_14 : decode (zB 214) 14 = .ok (.iload_n 1, 1) := by decide +kernel
theorem d214_15 : decode (zB 214) 15 = .ok (.iaload, 1) := by decide +kernel
theorem d214_16 : decode (zB 214) 16 = .ok (.ifCond .ge 6, 3) := by decide +kernel
theorem d214_19 : decode (zB 214) 19 = .ok (.bipush (-11), 2) := by decide +kernel
theorem d214_21 : decode (zB 214) 21 = .ok (.ireturn, 1) := by decide +kernel
theorem d214_22 : decode (zB 214) 22 = .ok (.iload_n 2, 1) := by decide +kernel
theorem d214_23 : decode (zB 214) 23 = .ok (.iconst 0, 1) := by decide +kernel
theorem d214_24 : decode (zB 214) 24 = .ok (.aload_n 0, 1) := by decide +kernel
theorem d214_25 : decode (zB 214) 25 = .ok (.getfield 103, 3) := by decide +kernel
theorem d214_28 : decode (zB 214) 28 = .ok (.iload_n 1, 1) := by decide +kernel
theorem d214_29 : decode (zB 214) 29 = .ok (.iaload, 1) := by decide +kernel
theorem d214_30 : decode (zB 214) 30 = .ok (.iconst 1, 1) := by decide +kernel
theorem d214_31 : decode (zB 214) 31 = .ok (.isub, 1) := by decide +kernel
theorem d214_32 : decode (zB 214) 32 = .ok (.invokestatic 112, 3) := by decide +kernel
theorem d214_35 : decode (zB 214) 35 = .ok (.ifCond .ne 6, 3) := by decide +kernel
theorem d214_38 : decode (zB 214) 38 = .ok (.bipush (-12), 2) := by decide +kernel
theorem d214_40 : decode (zB 214) 40 = .ok (.ireturn, 1) := by decide +kernel
theorem d214_41 : decode (zB 214) 41 = .ok (.aload_n 0, 1) := by decide +kernel
theorem d214_42 : decode (zB 214) 42 = .ok (.getfield 106, 3) := by decide +kernel
theorem d214_45 : decode (zB 214) 45 = .ok (.iload_n 1, 1) := by decide +kernel
theorem d214_46 : decode (zB 214) 46 = .ok (.aaload, 1) := by decide +kernel
theorem d214_47 : decode (zB 214) 47 = .ok (.iload_n 2, 1) := by decide +kernel
theorem d214_48 : decode (zB 214) 48 = .ok (.aload_n 0, 1) := by decide +kernel
theorem d214_49 : decode (zB 214) 49 = .ok (.getfield 100, 3) := by decide +kernel
theorem d214_52 : decode (zB 214) 52 = .ok (.iload_n 1, 1) := by decide +kernel
theorem d214_53 : decode (zB 214) 53 = .ok (.iaload, 1) := by decide +kernel
theorem d214_54 : decode (zB 214) 54 = .ok (.ifCond .ne 8, 3) := by decide +kernel
theorem d214_57 : decode (zB 214) 57 = .ok (.iload_n 3, 1) := by decide +kernel
theorem d214_58 : decode (zB 214) 58 = .ok (.i2b, 1) := by decide +kernel
theorem d214_59 : decode (zB 214) 59 = .ok (.goto 4, 3) := by decide +kernel
theorem d214_62 : decode (zB 214) 62 = .ok (.iload_n 3, 1) := by decide +kernel
theorem d214_63 : decode (zB 214) 63 = .ok (.iastore, 1) := by decide +kernel
theorem d214_64 : decode (zB 214) 64 = .ok (.iconst 1, 1) := by decide +kernel
theorem d214_65 : decode (zB 214) 65 = .ok (.ireturn, 1) := by decide +kernel
theorem x214 {d : Nat} {M : zM} {Q : Option Value → zM → Prop} {D : yD} {κ : Nat} {x y z : Int32} (hR : RX M D κ) (hD : OKD D) (hκ : κ + 4000 < 2147483648) (k : ∀ M', RX M' D κ → Fi FY M M' → Q (some (.int (sCell D x y))) M') : qC (d + 3) 214 [.ref 136, .int x, .int y, .int z] M Q := by
  refine qC_of (by decide) (Nat.le_of_ble_eq_true rfl) ?_
  have hC := hR.1
  have hX := hC.1
  have hO : OKW (dT D) (dc D) (dW D) := hC.2.2.1
  have hc6 := hO.1.1
  have hL : XLo [] M (some (dL D)) := hC.2.2.2.2.2.2.1
  have hSa : ∀ s, s < 3 → XSa M s (dS D s) κ := hC.2.2.2.2.1
  have hTk := hC.k
  have hck := hC.2.2.2.2.2.1
  have h240 := hD.2.1
  unfold sCell at k
  rcases zix_c x (n := 4) (by omega) with ⟨h, hh, rfl, eh⟩ | ⟨eh, nh⟩
  · rw [oz_s eh] at k
    have hz40 := (hD.2.2.2.2 h hh).1
    by_cases hs : (dR D h).1 = -1
    · rw [if_pos hs] at k
      refine q_iload_n d214_0 rfl ?_
      refine q_s1 d214_1 (Or.inl rfl) rfl (Nat.le_of_ble_eq_true rfl) (c207t (by omega) ?_)
      refine n0_ne 10 d214_4 (by decide) (by decide) (fun _ => ?_) (fun q => absurd q (by decide))
      refine q_aload_n d214_10 rfl ?_
      refine q_getr (c := 8) (f := 45) d214_11 ⟨rfl, rfl⟩ (xk_136 hX) (xf_sorts hX) ?_
      refine q_iload_n d214_14 rfl ?_
      refine n_iald d214_15 (xk_sorts hX) (by omega) (by decide) (hR.2.2.2.2 _ (by omega)).1 ?_
      refine i0_ge 22 d214_16 (by decide) (fun h16 => (False.elim (absurd h16 (by rw [hs]; decide)))) (fun h16 => ?_)
      refine q_bipush (x := (-11)) d214_19 rfl ?_
      refine q_iret d214_21 rfl ?_
      exact k _ hR (Fi.refl _ _)
    · rw [if_neg hs] at k
      have hso : (dR D h).1 = nI 0 ∨ (dR D h).1 = nI 1 := ((hD.2.2.2.2 h hh).2).resolve_left hs
      rcases zix_c y (n := (dR D h).2) (by omega) with ⟨i, hi, rfl, ei⟩ | ⟨ei, ni⟩
      · rw [oz_s ei] at k
        refine q_iload_n d214_0 rfl ?_
        refine q_s1 d214_1 (Or.inl rfl) rfl (Nat.le_of_ble_eq_true rfl) (c207t (by omega) ?_)
        refine n0_ne 10 d214_4 (by decide) (by decide) (fun _ => ?_) (fun q => absurd q (by decide))
        refine q_aload_n d214_10 rfl ?_
        refine q_getr (c := 8) (f := 45) d214_11 ⟨rfl, rfl⟩ (xk_136 hX) (xf_sorts hX) ?_
        refine q_iload_n d214_14 rfl ?_
        refine n_iald d214_15 (xk_sorts hX) (by omega) (by decide) (hR.2.2.2.2 _ (by omega)).1 ?_
        refine i0_ge 22 d214_16 (by decide) (fun h16 => ?_) (fun h16 => (False.elim (by rcases hso with e | e <;> rw [e] at h16 <;> exact absurd h16 (by decide))))
        refine q_iload_n d214_22 rfl ?_
        refine q_iconstN (z := 0) d214_23 ?_
        refine q_aload_n d214_24 rfl ?_
        refine q_getr (c := 8) (f := 46) d214_25 ⟨rfl, rfl⟩ (xk_136 hX) (xf_lengths hX) ?_
        refine q_iload_n d214_28 rfl ?_
        refine n_iald d214_29 (xk_lengths hX) (by omega) (by decide) (hR.2.2.2.2 _ (by omega)).2 ?_
        refine q_iconstN (z := 1) d214_30 ?_
        refine q_isub d214_31 ?_
        refine q_s3 d214_32 (Or.inl rfl) rfl (Nat.le_of_ble_eq_true rfl) (c131st (by omega) (by omega) ?_)
        refine n0_ne 41 d214_35 (by decide) (by decide) (fun _ => ?_) (fun q => absurd q (by decide))
        refine q_aload_n d214_41 rfl ?_
        refine q_getr (c := 8) (f := 47) d214_42 ⟨rfl, rfl⟩ (xk_136 hX) (xf_items hX) ?_
        refine q_iload_n d214_45 rfl ?_
        refine n_aald d214_46 (xk_items hX) (by decide) (by omega) (by decide) (xr_items hX (by omega)) ?_
        refine q_iload_n d214_47 rfl ?_
        refine q_aload_n d214_48 rfl ?_
        refine q_getr (c := 8) (f := 45) d214_49 ⟨rfl, rfl⟩ (xk_136 hX) (xf_sorts hX) ?_
        refine q_iload_n d214_52 rfl ?_
        refine n_iald d214_53 (xk_sorts hX) (by omega) (by decide) (hR.2.2.2.2 _ (by omega)).1 ?_
        refine i0_ne 62 d214_54 (by decide) (fun h54 => ?_) (fun h54 => ?_)
        · refine q_iload_n d214_62 rfl ?_
          refine n_iast d214_63 (xa_items hX (by omega)) (by omega) (by decide) ?_
          refine q_iconstN (z := 1) d214_64 ?_
          refine q_iret d214_65 rfl ?_
          exact k _ (hR.items ((Fi.refl _ _).wi (by omega))) ((Fi.refl FY _).wi (by unfold FY; omega))
        · refine q_iload_n d214_57 rfl ?_
          refine q_i2b d214_58 ?_
          refine q_goto 63 d214_59 (by decide) ?_
          refine n_iast d214_63 (xa_items hX (by omega)) (by omega) (by decide) ?_
          refine q_iconstN (z := 1) d214_64 ?_
          refine q_iret d214_65 rfl ?_
          exact k _ (hR.items ((Fi.refl _ _).wi (by omega))) ((Fi.refl FY _).wi (by unfold FY; omega))
      · rw [oz_n ei] at k
        refine q_iload_n d214_0 rfl ?_
        refine q_s1 d214_1 (Or.inl rfl) rfl (Nat.le_of_ble_eq_true rfl) (c207t (by omega) ?_)
        refine n0_ne 10 d214_4 (by decide) (by decide) (fun _ => ?_) (fun q => absurd q (by decide))
        refine q_aload_n d214_10 rfl ?_
        refine q_getr (c := 8) (f := 45) d214_11 ⟨rfl, rfl⟩ (xk_136 hX) (xf_sorts hX) ?_
        refine q_iload_n d214_14 rfl ?_
        refine n_iald d214_15 (xk_sorts hX) (by omega) (by decide) (hR.2.2.2.2 _ (by omega)).1 ?_
        refine i0_ge 22 d214_16 (by decide) (fun h16 => ?_) (fun h16 => (False.elim (by rcases hso with e | e <;> rw [e] at h16 <;> exact absurd h16 (by decide))))
        refine q_iload_n d214_22 rfl ?_
        refine q_iconstN (z := 0) d214_23 ?_
        refine q_aload_n d214_24 rfl ?_
        refine q_getr (c := 8) (f := 46) d214_25 ⟨rfl, rfl⟩ (xk_136 hX) (xf_lengths hX) ?_
        refine q_iload_n d214_28 rfl ?_
        refine n_iald d214_29 (xk_lengths hX) (by omega) (by decide) (hR.2.2.2.2 _ (by omega)).2 ?_
        refine q_iconstN (z := 1) d214_30 ?_
        refine q_isub d214_31 ?_
        refine q_s3 d214_32 (Or.inl rfl) rfl (Nat.le_of_ble_eq_true rfl) (c131sf ei (by omega) ?_)
        refine n0_ne 41 d214_35 (by decide) (by decide) (fun q => absurd q (by decide)) (fun _ => ?_)
        refine q_bipush (x := (-12)) d214_38 rfl ?_
        refine q_iret d214_40 rfl ?_
        exact k _ hR (Fi.refl _ _)
  · rw [oz_n eh] at k
    refine q_iload_n d214_0 rfl ?_
    refine q_s1 d214_1 (Or.inl rfl) rfl (Nat.le_of_ble_eq_true rfl) (c207f eh ?_)
    refine n0_ne 10 d214_4 (by decide) (by decide) (fun q => absurd q (by decide)) (fun _ => ?_)
    refine q_bipush (x := (-2)) d214_7 rfl ?_
    refine q_iret d214_9 rfl ?_
    exact k _ hR (Fi.refl _ _)
theorem d210_0 : decode (zB 210) 0 = .ok (.iload_n 1, 1) := by decide +kernel
theorem d210_1 : decode (zB 210) 1 = .ok (.invokestatic 392, 3) := by decide +kernel
theorem d210_4 : decode (zB 210) 4 = .ok (.ifCond .eq 20, 3) := by decide +kernel
theorem d210_7 : decode (zB 210) 7 = .ok (.iload_n 2, 1) := by decide +kernel
theorem d210_8 : decode (zB 210) 8 = .ok (.invokestatic 357, 3) := by decide +kernel
theorem d210_11 : decode (zB 210) 11 = .ok (.ifCond .eq 13, 3) := by decide +kernel
theorem d210_14 : decode (zB 210) 14 = .ok (.iload_n 3, 1) := by decide +kernel
theorem d210_15 : decode (zB 210) 15 = .ok (.iconst 0, 1) := by decide +kernel
theorem d210_16 : decode (zB 210) 16 = .ok (.bipush 20, 2) := by decide +kernel
theorem d210_18 : decode (zB 210) 18 = .ok (.invokestatic 112, 3) := by decide +kernel
theorem d210_21 : decode (zB 210) 21 = .ok (.ifCond .ne 6, 3) := by decide +kernel
theorem d210_24 : decode (zB 210) 24 = .ok (.bipush (-2), 2) := by decide +kernel
theorem d210_26 : decode (zB 210) 26 = .ok (.ireturn, 1) := by decide +kernel
theorem d210_27 : decode (zB 210) 27 = .ok (.aload_n 0, 1) := by decide +kernel
theorem d210_28 : decode (zB 210) 28 = .ok (.getfield 100, 3) := by decide +kernel
theorem d210_31 : decode (zB 210) 31 = .ok (.iload_n 1, 1) := by decide +kernel
theorem d210_32 : decode (zB 210) 32 = .ok (.iconst 1, 1) := by decide +kernel
theorem d210_33 : decode (zB 210) 33 = .ok (.iastore, 1) := by decide +kernel
theorem d210_34 : decode (zB 210) 34 = .ok (.aload_n 0, 1) := by decide +kernel
theorem d210_35 : decode (zB 210) 35 = .ok (.getfield 103, 3) := by decide +kernel
theorem d210_38 : decode (zB 210) 38 = .ok (.iload_n 1, 1) := by decide +kernel
theorem d210_39 : decode (zB 210) 39 = .ok (.iload_n 3, 1) := by decide +kernel
theorem d210_40 : decode (zB 210) 40 = .ok (.iastore, 1) := by decide +kernel
theorem d210_41 : decode (zB 210) 41 = .ok (.aload_n 0, 1) := by decide +kernel
theorem d210_42 : decode (zB 210) 42 = .ok (.invokevirtual 372, 3) := by decide +kernel
theorem d210_45 : decode (zB 210) 45 = .ok (.iconst 0, 1) := by decide +kernel
theorem d210_46 : decode (zB 210) 46 = .ok (.istore 4, 2) := by decide +kernel
theorem d210_48 : decode (zB 210) 48 = .ok (.iload 4, 2) := by decide +kernel
theorem d210_50 : decode (zB 210) 50 = .ok (.iload_n 3, 1) := by decide +kernel
theorem d210_51 : decode (zB 210) 51 = .ok (.if_icmp .ge 28, 3) := by decide +kernel
theorem d210_54 : decode (zB 210) 54 = .ok (.aload_n 0, 1) := by decide +kernel
theorem d210_55 : decode (zB 210) 55 = .ok (.invokevirtual 354, 3) := by decide +kernel
theorem d210_58 : decode (zB 210) 58 = .ok (.aload_n 0, 1) := by decide +kernel
theorem d210_59 : decode (zB 210) 59 = .ok (.getfield 106, 3) := by decide +kernel
theorem d210_62 : decode (zB 210) 62 = .ok (.iload_n 1, 1) := by decide +kernel
theorem d210_63 : decode (zB 210) 63 = .ok (.aaload, 1) := by decide +kernel
theorem d210_64 : decode (zB 210) 64 = .ok (.iload 4, 2) := by decide +kernel
theorem d210_66 : decode (zB 210) 66 = .ok (.aload_n 0, 1) := by decide +kernel
theorem d210_67 : decode (zB 210) 67 = .ok (.getfield 33, 3) := by decide +kernel
theorem d210_70 : decode (zB 210) 70 = .ok (.iload_n 2, 1) := by decide +kernel
theorem d210_71 : decode (zB 210) 71 = .ok (.iaload, 1) := by decide +kernel
theorem d210_72 : decode (zB 210) 72 = .ok (.iastore, 1) := by decide +kernel
theorem d210_73 : decode (zB 210) 73 = .ok (.iinc 4 1, 3) := by decide +kernel
theorem d210_76 : decode (zB 210) 76 = .ok (.goto (-28), 3) := by decide +kernel
theorem d210_79 : decode (zB 210) 79 = .ok (.aload_n 0, 1) := by decide +kernel
theorem d210_80 : decode (zB 210) 80 = .ok (.invokevirtual 375, 3) := by decide +kernel
theorem d210_83 : decode (zB 210) 83 = .ok (.iload_n 3, 1) := by decide +kernel
theorem d210_84 : decode (zB 210) 84 = .ok (.ireturn, 1) := by decide +kernel
theorem l210 {d : Nat} {Q : Option Value → zM → Prop} {D : yD} {M0 M00 : zM} {n h a κ : Nat} (hR : RX M0 D κ) (hκ : κ + 4000 < 2147483648) (hh : h < 4) (ha : a < 6) (hn : n ≤ 20) (hF0 : Fi FY M00 M0) (k : ∀ M', RX M' D κ → Fi FY M00 M' → Q (some (.int (nI n))) M') : ∀ (r i : Nat) (κ1 : Nat) (M1 : zM) (X1 : yX), i ≤ n → n < i + r →  CX (dL D) M1 (dT D) (dc D) (dnm D) X1 κ1 → zi M1 136 25 = nI 1 → zi M1 136 21 = -1 → KA M0 M1 0 → Fi FZ M0 M1 → κ1 ≤ κ + 36 * i → qW (zEv (d + 6)) 210 Q 48 [(4, .int (nI i)), (0, .ref 136), (1, .int (nI h)), (2, .int (nI a)), (3, .int (nI n))] [] M1 := by
  intro r
  induction r with
  | zero => intros; omega
  | succ r ih =>
    intro i κ1 M1 X1 h1 h2 hC1 h25 h21 hK hF hk1
    refine q_iload d210_48 rfl ?_
    refine q_iload_n d210_50 rfl ?_
    refine nc_ge 79 d210_51 (by decide) (by omega) (by omega) (fun h51 => ?_) (fun h51 => ?_)
    · refine q_aload_n d210_79 rfl ?_
      refine q_v0 d210_80 rfl rfl (xk_136 hC1.1) (Nat.le_of_ble_eq_true rfl) (c199 hC1.1 hK (fun M2 hK2 q25 f2 => ?_))
      refine q_iload_n d210_83 rfl ?_
      refine q_iret d210_84 rfl ?_
      have hLo : XLo (dL D) M1 X1.2 := hC1.2.2.2.2.2.2.1
      rw [hC1.l0 h25] at hLo
      have hw := hR.wake hF h21 hLo.2 hK2 q25 f2
      exact k _ hw.1 (hF0.trans hw.2)
    · refine q_aload_n d210_54 rfl ?_
      refine q_v0 d210_55 rfl rfl (xk_136 hC1.1) (Nat.le_of_ble_eq_true rfl) (c175 hC1 (by rw [hC1.l0 h25]; show 0 + 39 ≤ 240; omega) (by omega) (fun M2 κ2 hk2 hC2 f2 => ?_))
      refine q_aload_n d210_58 rfl ?_
      refine q_getr (c := 8) (f := 47) d210_59 ⟨rfl, rfl⟩ (xk_136 hC2.1) (xf_items hC2.1) ?_
      refine q_iload_n d210_62 rfl ?_
      refine n_aald d210_63 (xk_items hC2.1) (by decide) (by omega) (by decide) (xr_items hC2.1 (by omega)) ?_
      refine q_iload d210_64 rfl ?_
      refine q_aload_n d210_66 rfl ?_
      refine q_getr (c := 8) (f := 8) d210_67 ⟨rfl, rfl⟩ (xk_136 hC2.1) (xf_balances hC2.1) ?_
      refine q_iload_n d210_70 rfl ?_
      refine n_iald d210_71 (xk_balances hC2.1) (by omega) (by decide) (hC2.2.2.2.1.1 _ (by omega)) ?_
      refine n_iast d210_72 (xa_items hC2.1 (by omega)) (by omega) (by decide) ?_
      refine n_iinc 1 d210_73 (by decide) rfl rfl ?_
      refine q_goto 48 d210_76 (by decide) ?_
      have f3 : Fi (fun b _ => 320 < b) M2 (zwi M2 (322 + h) i ((yti (dT D) (dnm D) X1).1.1.1 a)) := (Fi.refl _ _).wi (by omega)
      exact ih (i + 1) κ2 _ _ (by omega) (by omega) (hC2.far (f3.mono (fun b k q => by omega))) ((f3.1 _ _ (by omega)).trans ((f2.1 _ _ (by unfold FX; omega)).trans h25)) ((f3.1 _ _ (by omega)).trans ((f2.1 _ _ (by unfold FX; omega)).trans h21)) ((hK.fi f2 (fun b k q1 q2 => by unfold FA at q1; unfold FX at q2; omega)).fi f3 (fun b k q1 q2 => by unfold FA at q1; omega)) (hF.trans ((f2.mono (fun b k q => FX_Z q)).trans (f3.mono (fun b k q => by unfold FZ; omega)))) (by omega)
theorem x210 {d : Nat} {M : zM} {Q : Option Value → zM → Prop} {D : yD} {κ : Nat} {x y z : Int32} (hR : RX M D κ) (hD : OKD D) (hκ : κ + 4000 < 2147483648) (k : ∀ M' κ', κ' ≤ κ + 240 → RX M' (sFilm D x y z).2 κ' → Fi FY M M' → Q (some (.int (sFilm D x y z).1)) M') : qC (d + 7) 210 [.ref 136, .int x, .int y, .int z] M Q := by
  refine qC_of (by decide) (Nat.le_of_ble_eq_true rfl) ?_
  have hC := hR.1
  have hX := hC.1
  have hO : OKW (dT D) (dc D) (dW D) := hC.2.2.1
  have hc6 := hO.1.1
  have hL : XLo [] M (some (dL D)) := hC.2.2.2.2.2.2.1
  have hSa : ∀ s, s < 3 → XSa M s (dS D s) κ := hC.2.2.2.2.1
  have hTk := hC.k
  have hck := hC.2.2.2.2.2.1
  have h240 := hD.2.1
  unfold sFilm at k
  rcases zix_c x (n := 4) (by omega) with ⟨h, hh, rfl, eh⟩ | ⟨eh, nh⟩
  · rw [oz_s eh] at k
    rcases zix_c y (n := 6) (by omega) with ⟨a, ha, rfl, ea⟩ | ⟨ea, na⟩
    · rw [oz_s ea] at k
      rcases zix_c z (n := 21) (by omega) with ⟨n, hn, rfl, en⟩ | ⟨en, nn⟩
      · rw [oz_s en] at k
        refine q_iload_n d210_0 rfl ?_
        refine q_s1 d210_1 (Or.inl rfl) rfl (Nat.le_of_ble_eq_true rfl) (c207t (by omega) ?_)
        refine n0_eq 24 d210_4 (by decide) (by decide) (fun q => absurd q (by decide)) (fun _ => ?_)
        refine q_iload_n d210_7 rfl ?_
        refine q_s1 d210_8 (Or.inl rfl) rfl (Nat.le_of_ble_eq_true rfl) (c189t (by omega) ?_)
        refine n0_eq 24 d210_11 (by decide) (by decide) (fun q => absurd q (by decide)) (fun _ => ?_)
        refine q_iload_n d210_14 rfl ?_
        refine q_iconstN (z := 0) d210_15 ?_
        refine q_bipush (x := nI 20) d210_16 rfl ?_
        refine q_s3 d210_18 (Or.inl rfl) rfl (Nat.le_of_ble_eq_true rfl) (c131t ⟨by omega, by omega⟩ (by omega) ?_)
        refine n0_ne 27 d210_21 (by decide) (by decide) (fun _ => ?_) (fun q => absurd q (by decide))
        refine q_aload_n d210_27 rfl ?_
        refine q_getr (c := 8) (f := 45) d210_28 ⟨rfl, rfl⟩ (xk_136 hX) (xf_sorts hX) ?_
        refine q_iload_n d210_31 rfl ?_
        refine q_iconstN (z := 1) d210_32 ?_
        refine n_iast d210_33 (xk_sorts hX) (by omega) (by decide) ?_
        refine q_aload_n d210_34 rfl ?_
        refine q_getr (c := 8) (f := 46) d210_35 ⟨rfl, rfl⟩ (xk_136 hX) (xf_lengths hX) ?_
        refine q_iload_n d210_38 rfl ?_
        refine q_iload_n d210_39 rfl ?_
        refine n_iast d210_40 (xk_lengths hX) (by omega) (by decide) ?_
        have f1 : Fi (fun b k => (b = 319 ∧ k = h) ∨ (b = 320 ∧ k = h) ∨ 320 < b) M (zwi (zwi M 319 h (nI 1)) 320 h (nI n)) := ((Fi.refl _ _).wi (Or.inl ⟨rfl, rfl⟩)).wi (Or.inr (Or.inl ⟨rfl, rfl⟩))
        have hR1 := hR.row (h := h) (z := n) (so := nI 1) f1 ((wi_n (by omega)).trans (wi_s _ _ _ _)) (wi_s _ _ _ _)
        refine q_aload_n d210_41 rfl ?_
        refine q_v0 d210_42 rfl rfl (xk_136 hR1.1.1) (Nat.le_of_ble_eq_true rfl) (c198 hR1 (fun M2 hC2 q25 q21 hK f2 => ?_))
        refine q_iconstN (z := 0) d210_45 ?_
        refine q_istore d210_46 (by decide) rfl ?_
        exact l210 hR1 hκ hh ha (by omega) (f1.mono (fun b k q => by unfold FY; omega)) (fun M' g1 g2 => k M' κ (Nat.le_add_right _ _) g1 g2) (n + 1) 0 κ M2 _ (by omega) (by omega) hC2 q25 q21 hK f2 (by omega)
      · rw [oz_n en] at k
        refine q_iload_n d210_0 rfl ?_
        refine q_s1 d210_1 (Or.inl rfl) rfl (Nat.le_of_ble_eq_true rfl) (c207t (by omega) ?_)
        refine n0_eq 24 d210_4 (by decide) (by decide) (fun q => absurd q (by decide)) (fun _ => ?_)
        refine q_iload_n d210_7 rfl ?_
        refine q_s1 d210_8 (Or.inl rfl) rfl (Nat.le_of_ble_eq_true rfl) (c189t (by omega) ?_)
        refine n0_eq 24 d210_11 (by decide) (by decide) (fun q => absurd q (by decide)) (fun _ => ?_)
        refine q_iload_n d210_14 rfl ?_
        refine q_iconstN (z := 0) d210_15 ?_
        refine q_bipush (x := nI 20) d210_16 rfl ?_
        refine q_s3 d210_18 (Or.inl rfl) rfl (Nat.le_of_ble_eq_true rfl) (c131f (by decide) (by have := zix_none en; omega) (by decide) ?_)
        refine n0_ne 27 d210_21 (by decide) (by decide) (fun q => absurd q (by decide)) (fun _ => ?_)
        refine q_bipush (x := (-2)) d210_24 rfl ?_
        refine q_iret d210_26 rfl ?_
        exact k _ κ (Nat.le_add_right _ _) hR (Fi.refl _ _)
    · rw [oz_n ea] at k
      refine q_iload_n d210_0 rfl ?_
      refine q_s1 d210_1 (Or.inl rfl) rfl (Nat.le_of_ble_eq_true rfl) (c207t (by omega) ?_)
      refine n0_eq 24 d210_4 (by decide) (by decide) (fun q => absurd q (by decide)) (fun _ => ?_)
      refine q_iload_n d210_7 rfl ?_
      refine q_s1 d210_8 (Or.inl rfl) rfl (Nat.le_of_ble_eq_true rfl) (c189f ea ?_)
      refine n0_eq 24 d210_11 (by decide) (by decide) (fun _ => ?_) (fun q => absurd q (by decide))
      refine q_bipush (x := (-2)) d210_24 rfl ?_
      refine q_iret d210_26 rfl ?_
      exact k _ κ (Nat.le_add_right _ _) hR (Fi.refl _ _)
  · rw [oz_n eh] at k
    refine q_iload_n d210_0 rfl ?_
    refine q_s1 d210_1 (Or.inl rfl) rfl (Nat.le_of_ble_eq_true rfl) (c207f eh ?_)
    refine n0_eq 24 d210_4 (by decide) (by decide) (fun _ => ?_) (fun q => absurd q (by decide))
    refine q_bipush (x := (-2)) d210_24 rfl ?_
    refine q_iret d210_26 rfl ?_
    exact k _ κ (Nat.le_add_right _ _) hR (Fi.refl _ _)
