/-! ===== the reference: its calls ===== -/
theorem d188_0 : decode (zB 188) 0 = .ok (.iload_n 1, 1) := by decide +kernel
theorem d188_1 : decode (zB 188) 1 = .ok (.invokestatic 357, 3) := by decide +kernel
theorem d188_4 : decode (zB 188) 4 = .ok (.ifCond .eq 14, 3) := by decide +kernel
theorem d188_7 : decode (zB 188) 7 = .ok (.iload_n 2, 1) := by decide +kernel
theorem d188_8 : decode (zB 188) 8 = .ok (.iconst 0, 1) := by decide +kernel
theorem d188_9 : decode (zB 188) 9 = .ok (.sipush 9999, 3) := by decide +kernel
theorem d188_12 : decode (zB 188) 12 = .ok (.invokestatic 112, 3) := by decide +kernel
theorem d188_15 : decode (zB 188) 15 = .ok (.ifCond .ne 6, 3) := by decide +kernel
theorem d188_18 : decode (zB 188) 18 = .ok (.bipush (-2), 2) := by decide +kernel
theorem d188_20 : decode (zB 188) 20 = .ok (.ireturn, 1) := by decide +kernel
theorem d188_21 : decode (zB 188) 21 = .ok (.aload_n 0, 1) := by decide +kernel
theorem d188_22 : decode (zB 188) 22 = .ok (.getfield 301, 3) := by decide +kernel
theorem d188_25 : decode (zB 188) 25 = .ok (.sipush 240, 3) := by decide +kernel
theorem d188_28 : decode (zB 188) 28 = .ok (.if_icmp .ne 6, 3) := by decide +kernel
theorem d188_31 : decode (zB 188) 31 = .ok (.bipush (-4), 2) := by decide +kernel
theorem d188_33 : decode (zB 188) 33 = .ok (.ireturn, 1) := by decide +kernel
theorem d188_34 : decode (zB 188) 34 = .ok (.aload_n 0, 1) := by decide +kernel
theorem d188_35 : decode (zB 188) 35 = .ok (.getfield 33, 3) := by decide +kernel
theorem d188_38 : decode (zB 188) 38 = .ok (.iload_n 1, 1) := by decide +kernel
theorem d188_39 : decode (zB 188) 39 = .ok (.iaload, 1) := by decide +kernel
theorem d188_40 : decode (zB 188) 40 = .ok (.istore_n 3, 1) := by decide +kernel
theorem d188_41 : decode (zB 188) 41 = .ok (.aload_n 0, 1) := by decide +kernel
theorem d188_42 : decode (zB 188) 42 = .ok (.getfield 33, 3) := by decide +kernel
theorem d188_45 : decode (zB 188) 45 = .ok (.iload_n 1, 1) := by decide +kernel
theorem d188_46 : decode (zB 188) 46 = .ok (.iload_n 2, 1) := by decide +kernel
theorem d188_47 : decode (zB 188) 47 = .ok (.iastore, 1) := by decide +kernel
theorem d188_48 : decode (zB 188) 48 = .ok (.aload_n 0, 1) := by decide +kernel
theorem d188_49 : decode (zB 188) 49 = .ok (.bipush 6, 2) := by decide +kernel
theorem d188_51 : decode (zB 188) 51 = .ok (.iload_n 1, 1) := by decide +kernel
theorem d188_52 : decode (zB 188) 52 = .ok (.iload_n 2, 1) := by decide +kernel
theorem d188_53 : decode (zB 188) 53 = .ok (.invokevirtual 307, 3) := by decide +kernel
theorem d188_56 : decode (zB 188) 56 = .ok (.iload_n 3, 1) := by decide +kernel
theorem d188_57 : decode (zB 188) 57 = .ok (.ireturn, 1) := by decide +kernel
theorem x188 {d : Nat} {M : zM} {Q : Option Value → zM → Prop} {D : yD} {κ : Nat} {x y : Int32} (hR : RX M D κ) (hD : OKD D) (hκ : κ + 4000 < 2147483648) (k : ∀ M' κ', κ' ≤ κ + 240 → RX M' (sSet D x y).2 κ' → Fi FY M M' → Q (some (.int (sSet D x y).1)) M') : qC (d + 3) 188 [.ref 136, .int x, .int y] M Q := by
  refine qC_of (by decide) (Nat.le_of_ble_eq_true rfl) ?_
  have hC := hR.1
  have hX := hC.1
  have hO : OKW (dT D) (dc D) (dW D) := hC.2.2.1
  have hc6 := hO.1.1
  have hL : XLo [] M (some (dL D)) := hC.2.2.2.2.2.2.1
  have hSa : ∀ s, s < 3 → XSa M s (dS D s) κ := hC.2.2.2.2.1
  have hTk := hC.k
  have hck := hC.2.2.2.2.2.1
  have h240 := hD.2.1
  unfold sSet at k
  rcases zix_c x (n := 6) (by omega) with ⟨a, ha, rfl, ea⟩ | ⟨ea, na⟩
  · rw [oz_s ea] at k
    rcases zix_c y (n := 10000) (by omega) with ⟨v, hv, rfl, ev⟩ | ⟨ev, nv⟩
    · rw [oz_s ev] at k
      by_cases hf : 240 ≤ (dL D).length
      · rw [if_pos hf] at k
        refine q_iload_n d188_0 rfl ?_
        refine q_s1 d188_1 (Or.inl rfl) rfl (Nat.le_of_ble_eq_true rfl) (c189t (by omega) ?_)
        refine n0_eq 18 d188_4 (by decide) (by decide) (fun q => absurd q (by decide)) (fun _ => ?_)
        refine q_iload_n d188_7 rfl ?_
        refine q_iconstN (z := 0) d188_8 ?_
        refine q_sipush (x := nI 9999) d188_9 rfl ?_
        refine q_s3 d188_12 (Or.inl rfl) rfl (Nat.le_of_ble_eq_true rfl) (c131t ⟨by omega, by omega⟩ (by omega) ?_)
        refine n0_ne 21 d188_15 (by decide) (by decide) (fun _ => ?_) (fun q => absurd q (by decide))
        refine q_aload_n d188_21 rfl ?_
        refine q_getv (c := 8) (f := 24) d188_22 ⟨rfl, by decide⟩ (xk_136 hX) hL.2.1 ?_
        refine q_sipush (x := nI 240) d188_25 rfl ?_
        refine nc_ne 34 d188_28 (by decide) (by omega) (by omega) (fun h28 => (False.elim (by omega))) (fun h28 => ?_)
        refine q_bipush (x := (-4)) d188_31 rfl ?_
        refine q_iret d188_33 rfl ?_
        exact k _ κ (Nat.le_add_right _ _) hR (Fi.refl _ _)
      · rw [if_neg hf] at k
        refine q_iload_n d188_0 rfl ?_
        refine q_s1 d188_1 (Or.inl rfl) rfl (Nat.le_of_ble_eq_true rfl) (c189t (by omega) ?_)
        refine n0_eq 18 d188_4 (by decide) (by decide) (fun q => absurd q (by decide)) (fun _ => ?_)
        refine q_iload_n d188_7 rfl ?_
        refine q_iconstN (z := 0) d188_8 ?_
        refine q_sipush (x := nI 9999) d188_9 rfl ?_
        refine q_s3 d188_12 (Or.inl rfl) rfl (Nat.le_of_ble_eq_true rfl) (c131t ⟨by omega, by omega⟩ (by omega) ?_)
        refine n0_ne 21 d188_15 (by decide) (by decide) (fun _ => ?_) (fun q => absurd q (by decide))
        refine q_aload_n d188_21 rfl ?_
        refine q_getv (c := 8) (f := 24) d188_22 ⟨rfl, by decide⟩ (xk_136 hX) hL.2.1 ?_
        refine q_sipush (x := nI 240) d188_25 rfl ?_
        refine nc_ne 34 d188_28 (by decide) (by omega) (by omega) (fun h28 => ?_) (fun h28 => (False.elim (by omega)))
        refine q_aload_n d188_34 rfl ?_
        refine q_getr (c := 8) (f := 8) d188_35 ⟨rfl, rfl⟩ (xk_136 hX) (xf_balances hX) ?_
        refine q_iload_n d188_38 rfl ?_
        refine n_iald d188_39 (xk_balances hX) (by omega) (by decide) (hC.2.2.2.1.1 _ (by omega)) ?_
        refine q_istore_n d188_40 (by decide) rfl ?_
        refine q_aload_n d188_41 rfl ?_
        refine q_getr (c := 8) (f := 8) d188_42 ⟨rfl, rfl⟩ (xk_136 hX) (xf_balances hX) ?_
        refine q_iload_n d188_45 rfl ?_
        refine q_iload_n d188_46 rfl ?_
        refine n_iast d188_47 (xk_balances hX) (by omega) (by decide) ?_
        have f1 : Fi (fun b _ => b = 174) M (zwi M 174 a (nI v)) := (Fi.refl _ _).wi rfl
        have hX1 := SX_fi hX f1
        have hL1 := hL.fi f1 (fun b k q => by unfold GL at q; omega)
        have hP1 : XPu (zwi M 174 a (nI v)) (yu (dW D).1.1 a (nI v), (dW D).1.2) := ⟨fun j hj => wi_or rfl (hC.2.2.2.1.1 j hj), (wi_n (by omega)).trans hC.2.2.2.1.2.1, (wi_n (by omega)).trans hC.2.2.2.1.2.2⟩
        refine q_aload_n d188_48 rfl ?_
        refine q_bipush (x := nI 6) d188_49 rfl ?_
        refine q_iload_n d188_51 rfl ?_
        refine q_iload_n d188_52 rfl ?_
        refine q_v3 d188_53 rfl rfl (xk_136 hX) (Nat.le_of_ble_eq_true rfl) (c171 hX1 hL1 (by show (dL D).length + 1 ≤ 240; omega) (fun M2 hL2 f2 => ?_))
        refine q_iload_n d188_56 rfl ?_
        refine q_iret d188_57 rfl ?_
        have hO2 : OKW (dT D) (dc D) ((yu (dW D).1.1 a (nI v), (dW D).1.2), (dW D).2) := ⟨hO.1, OKP_u hO.2.1 ⟨nI_pos' (by omega), nI_le (by omega) (by omega)⟩, hO.2.2⟩
        have fz : Fi FWd M M2 := (f1.mono (fun b k q => by unfold FWd; omega)).trans (f2.mono (fun b k q => by unfold GL at q; unfold FWd; omega))
        exact k _ κ (Nat.le_add_right _ _) (hR.up fz hO2 (XPu_fi hP1 f2 (fun b k q1 q2 => by unfold GP at q1; unfold GL at q2; omega)) (fun s hs => ((hSa s hs).fi f1 (fun b k q1 q2 => by unfold GS at q1; omega)).fi f2 (fun b k q1 q2 => by unfold GS at q1; unfold GL at q2; omega)) ((f2.1 _ _ (by unfold GL; omega)).trans ((f1.1 _ _ (by omega)).trans hck)) hL2) (fz.mono (fun b k q => FWd_Y q))
    · rw [oz_n ev] at k
      refine q_iload_n d188_0 rfl ?_
      refine q_s1 d188_1 (Or.inl rfl) rfl (Nat.le_of_ble_eq_true rfl) (c189t (by omega) ?_)
      refine n0_eq 18 d188_4 (by decide) (by decide) (fun q => absurd q (by decide)) (fun _ => ?_)
      refine q_iload_n d188_7 rfl ?_
      refine q_iconstN (z := 0) d188_8 ?_
      refine q_sipush (x := nI 9999) d188_9 rfl ?_
      refine q_s3 d188_12 (Or.inl rfl) rfl (Nat.le_of_ble_eq_true rfl) (c131f (by decide) (by have := zix_none ev; omega) (by decide) ?_)
      refine n0_ne 21 d188_15 (by decide) (by decide) (fun q => absurd q (by decide)) (fun _ => ?_)
      refine q_bipush (x := (-2)) d188_18 rfl ?_
      refine q_iret d188_20 rfl ?_
      exact k _ κ (Nat.le_add_right _ _) hR (Fi.refl _ _)
  · rw [oz_n ea] at k
    refine q_iload_n d188_0 rfl ?_
    refine q_s1 d188_1 (Or.inl rfl) rfl (Nat.le_of_ble_eq_true rfl) (c189f ea ?_)
    refine n0_eq 18 d188_4 (by decide) (by decide) (fun _ => ?_) (fun q => absurd q (by decide))
    refine q_bipush (x := (-2)) d188_18 rfl ?_
    refine q_iret d188_20 rfl ?_
    exact k _ κ (Nat.le_add_right _ _) hR (Fi.refl _ _)
theorem d168_0 : decode (zB 168) 0 = .ok (.iload_n 1, 1) := by decide +kernel
theorem d168_1 : decode (zB 168) 1 = .ok (.invokestatic 345, 3) := by decide +kernel
theorem d168_4 : decode (zB 168) 4 = .ok (.ifCond .eq 11, 3) := by decide +kernel
theorem d168_7 : decode (zB 168) 7 = .ok (.aload_n 0, 1) := by decide +kernel
theorem d168_8 : decode (zB 168) 8 = .ok (.iload_n 2, 1) := by decide +kernel
theorem d168_9 : decode (zB 168) 9 = .ok (.invokevirtual 243, 3) := by decide +kernel
theorem d168_12 : decode (zB 168) 12 = .ok (.ifCond .ne 6, 3) := by decide +kernel
theorem d168_15 : decode (zB 168) 15 = .ok (.bipush (-2), 2) := by decide +kernel
theorem d168_17 : decode (zB 168) 17 = .ok (.ireturn, 1) := by decide +kernel
theorem d168_18 : decode (zB 168) 18 = .ok (.aload_n 0, 1) := by decide +kernel
theorem d168_19 : decode (zB 168) 19 = .ok (.getfield 36, 3) := by decide +kernel
theorem d168_22 : decode (zB 168) 22 = .ok (.iload_n 1, 1) := by decide +kernel
theorem d168_23 : decode (zB 168) 23 = .ok (.iaload, 1) := by decide +kernel
theorem d168_24 : decode (zB 168) 24 = .ok (.iconst 1, 1) := by decide +kernel
theorem d168_25 : decode (zB 168) 25 = .ok (.if_icmp .eq 13, 3) := by decide +kernel
theorem d168_28 : decode (zB 168) 28 = .ok (.aload_n 0, 1) := by decide +kernel
theorem d168_29 : decode (zB 168) 29 = .ok (.getfield 36, 3) := by decide +kernel
theorem d168_32 : decode (zB 168) 32 = .ok (.iload_n 1, 1) := by decide +kernel
theorem d168_33 : decode (zB 168) 33 = .ok (.iaload, 1) := by decide +kernel
theorem d168_34 : decode (zB 168) 34 = .ok (.iconst 2, 1) := by decide +kernel
theorem d168_35 : decode (zB 168) 35 = .ok (.if_icmp .ne 6, 3) := by decide +kernel
theorem d168_38 : decode (zB 168) 38 = .ok (.bipush (-3), 2) := by decide +kernel
theorem d168_40 : decode (zB 168) 40 = .ok (.ireturn, 1) := by decide +kernel
theorem d168_41 : decode (zB 168) 41 = .ok (.aload_n 0, 1) := by decide +kernel
theorem d168_42 : decode (zB 168) 42 = .ok (.getfield 301, 3) := by decide +kernel
theorem d168_45 : decode (zB 168) 45 = .ok (.sipush 240, 3) := by decide +kernel
theorem d168_48 : decode (zB 168) 48 = .ok (.if_icmp .ne 6, 3) := by decide +kernel
theorem d168_51 : decode (zB 168) 51 = .ok (.bipush (-4), 2) := by decide +kernel
theorem d168_53 : decode (zB 168) 53 = .ok (.ireturn, 1) := by decide +kernel
theorem d168_54 : decode (zB 168) 54 = .ok (.aload_n 0, 1) := by decide +kernel
theorem d168_55 : decode (zB 168) 55 = .ok (.iload_n 1, 1) := by decide +kernel
theorem d168_56 : decode (zB 168) 56 = .ok (.iload_n 2, 1) := by decide +kernel
theorem d168_57 : decode (zB 168) 57 = .ok (.invokevirtual 348, 3) := by decide +kernel
theorem d168_60 : decode (zB 168) 60 = .ok (.aload_n 0, 1) := by decide +kernel
theorem d168_61 : decode (zB 168) 61 = .ok (.iconst 0, 1) := by decide +kernel
theorem d168_62 : decode (zB 168) 62 = .ok (.iload_n 1, 1) := by decide +kernel
theorem d168_63 : decode (zB 168) 63 = .ok (.iload_n 2, 1) := by decide +kernel
theorem d168_64 : decode (zB 168) 64 = .ok (.invokevirtual 307, 3) := by decide +kernel
theorem d168_67 : decode (zB 168) 67 = .ok (.aload_n 0, 1) := by decide +kernel
theorem d168_68 : decode (zB 168) 68 = .ok (.getfield 9, 3) := by decide +kernel
theorem d168_71 : decode (zB 168) 71 = .ok (.iload_n 2, 1) := by decide +kernel
theorem d168_72 : decode (zB 168) 72 = .ok (.iaload, 1) := by decide +kernel
theorem d168_73 : decode (zB 168) 73 = .ok (.ireturn, 1) := by decide +kernel
theorem x168 {d : Nat} {M : zM} {Q : Option Value → zM → Prop} {D : yD} {κ : Nat} {x y : Int32} (hR : RX M D κ) (hD : OKD D) (hκ : κ + 4000 < 2147483648) (k : ∀ M' κ', κ' ≤ κ + 240 → RX M' (sBegin D x y).2 κ' → Fi FY M M' → Q (some (.int (sBegin D x y).1)) M') : qC (d + 3) 168 [.ref 136, .int x, .int y] M Q := by
  refine qC_of (by decide) (Nat.le_of_ble_eq_true rfl) ?_
  have hC := hR.1
  have hX := hC.1
  have hO : OKW (dT D) (dc D) (dW D) := hC.2.2.1
  have hc6 := hO.1.1
  have hL : XLo [] M (some (dL D)) := hC.2.2.2.2.2.2.1
  have hSa : ∀ s, s < 3 → XSa M s (dS D s) κ := hC.2.2.2.2.1
  have hTk := hC.k
  have hck := hC.2.2.2.2.2.1
  have h240 := hD.2.1
  unfold sBegin at k
  rcases zix_c x (n := 3) (by omega) with ⟨s, hs, rfl, es⟩ | ⟨es, ns⟩
  · rw [oz_s es] at k
    have hOs : OKS (dT D) (dc D) (dS D s) := hO.2.2 s hs
    have hg5 := hOs.1
    have hsa := hSa s hs
    rcases zix_c y (n := dc D) (by omega) with ⟨t, ht, rfl, et⟩ | ⟨et, nt⟩
    · rw [oz_s et] at k
      by_cases h1 : gt (dS D s) = 1
      · rw [if_pos (Or.inl h1)] at k
        refine q_iload_n d168_0 rfl ?_
        refine q_s1 d168_1 (Or.inl rfl) rfl (Nat.le_of_ble_eq_true rfl) (c169t (by omega) ?_)
        refine n0_eq 15 d168_4 (by decide) (by decide) (fun q => absurd q (by decide)) (fun _ => ?_)
        refine q_aload_n d168_7 rfl ?_
        refine q_iload_n d168_8 rfl ?_
        refine q_v1 d168_9 rfl rfl (xk_136 hX) (Nat.le_of_ble_eq_true rfl) (c145t hR (by omega) ?_)
        refine n0_ne 18 d168_12 (by decide) (by decide) (fun _ => ?_) (fun q => absurd q (by decide))
        refine q_aload_n d168_18 rfl ?_
        refine q_getr (c := 8) (f := 11) d168_19 ⟨rfl, rfl⟩ (xk_136 hX) (xf_states hX) ?_
        refine q_iload_n d168_22 rfl ?_
        refine n_iald d168_23 (xk_states hX) (by omega) (by decide) (hSa _ (by omega)).1.1 ?_
        refine q_iconstN (z := 1) d168_24 ?_
        refine nc_eq 38 d168_25 (by decide) (by omega) (by omega) (fun h25 => ?_) (fun h25 => (False.elim (h25 h1)))
        refine q_bipush (x := (-3)) d168_38 rfl ?_
        refine q_iret d168_40 rfl ?_
        exact k _ κ (Nat.le_add_right _ _) hR (Fi.refl _ _)
      · by_cases h2 : gt (dS D s) = 2
        · rw [if_pos (Or.inr h2)] at k
          refine q_iload_n d168_0 rfl ?_
          refine q_s1 d168_1 (Or.inl rfl) rfl (Nat.le_of_ble_eq_true rfl) (c169t (by omega) ?_)
          refine n0_eq 15 d168_4 (by decide) (by decide) (fun q => absurd q (by decide)) (fun _ => ?_)
          refine q_aload_n d168_7 rfl ?_
          refine q_iload_n d168_8 rfl ?_
          refine q_v1 d168_9 rfl rfl (xk_136 hX) (Nat.le_of_ble_eq_true rfl) (c145t hR (by omega) ?_)
          refine n0_ne 18 d168_12 (by decide) (by decide) (fun _ => ?_) (fun q => absurd q (by decide))
          refine q_aload_n d168_18 rfl ?_
          refine q_getr (c := 8) (f := 11) d168_19 ⟨rfl, rfl⟩ (xk_136 hX) (xf_states hX) ?_
          refine q_iload_n d168_22 rfl ?_
          refine n_iald d168_23 (xk_states hX) (by omega) (by decide) (hSa _ (by omega)).1.1 ?_
          refine q_iconstN (z := 1) d168_24 ?_
          refine nc_eq 38 d168_25 (by decide) (by omega) (by omega) (fun h25 => (False.elim (h1 h25))) (fun h25 => ?_)
          refine q_aload_n d168_28 rfl ?_
          refine q_getr (c := 8) (f := 11) d168_29 ⟨rfl, rfl⟩ (xk_136 hX) (xf_states hX) ?_
          refine q_iload_n d168_32 rfl ?_
          refine n_iald d168_33 (xk_states hX) (by omega) (by decide) (hSa _ (by omega)).1.1 ?_
          refine q_iconstN (z := 2) d168_34 ?_
          refine nc_ne 41 d168_35 (by decide) (by omega) (by omega) (fun h35 => (False.elim (h35 h2))) (fun h35 => ?_)
          refine q_bipush (x := (-3)) d168_38 rfl ?_
          refine q_iret d168_40 rfl ?_
          exact k _ κ (Nat.le_add_right _ _) hR (Fi.refl _ _)
        · rw [if_neg (by omega)] at k
          by_cases hf : 240 ≤ (dL D).length
          · rw [if_pos hf] at k
            refine q_iload_n d168_0 rfl ?_
            refine q_s1 d168_1 (Or.inl rfl) rfl (Nat.le_of_ble_eq_true rfl) (c169t (by omega) ?_)
            refine n0_eq 15 d168_4 (by decide) (by decide) (fun q => absurd q (by decide)) (fun _ => ?_)
            refine q_aload_n d168_7 rfl ?_
            refine q_iload_n d168_8 rfl ?_
            refine q_v1 d168_9 rfl rfl (xk_136 hX) (Nat.le_of_ble_eq_true rfl) (c145t hR (by omega) ?_)
            refine n0_ne 18 d168_12 (by decide) (by decide) (fun _ => ?_) (fun q => absurd q (by decide))
            refine q_aload_n d168_18 rfl ?_
            refine q_getr (c := 8) (f := 11) d168_19 ⟨rfl, rfl⟩ (xk_136 hX) (xf_states hX) ?_
            refine q_iload_n d168_22 rfl ?_
            refine n_iald d168_23 (xk_states hX) (by omega) (by decide) (hSa _ (by omega)).1.1 ?_
            refine q_iconstN (z := 1) d168_24 ?_
            refine nc_eq 38 d168_25 (by decide) (by omega) (by omega) (fun h25 => (False.elim (h1 h25))) (fun h25 => ?_)
            refine q_aload_n d168_28 rfl ?_
            refine q_getr (c := 8) (f := 11) d168_29 ⟨rfl, rfl⟩ (xk_136 hX) (xf_states hX) ?_
            refine q_iload_n d168_32 rfl ?_
            refine n_iald d168_33 (xk_states hX) (by omega) (by decide) (hSa _ (by omega)).1.1 ?_
            refine q_iconstN (z := 2) d168_34 ?_
            refine nc_ne 41 d168_35 (by decide) (by omega) (by omega) (fun h35 => ?_) (fun h35 => (False.elim (h2 h35)))
            refine q_aload_n d168_41 rfl ?_
            refine q_getv (c := 8) (f := 24) d168_42 ⟨rfl, by decide⟩ (xk_136 hX) hL.2.1 ?_
            refine q_sipush (x := nI 240) d168_45 rfl ?_
            refine nc_ne 54 d168_48 (by decide) (by omega) (by omega) (fun h48 => (False.elim (by omega))) (fun h48 => ?_)
            refine q_bipush (x := (-4)) d168_51 rfl ?_
            refine q_iret d168_53 rfl ?_
            exact k _ κ (Nat.le_add_right _ _) hR (Fi.refl _ _)
          · rw [if_neg hf] at k
            refine q_iload_n d168_0 rfl ?_
            refine q_s1 d168_1 (Or.inl rfl) rfl (Nat.le_of_ble_eq_true rfl) (c169t (by omega) ?_)
            refine n0_eq 15 d168_4 (by decide) (by decide) (fun q => absurd q (by decide)) (fun _ => ?_)
            refine q_aload_n d168_7 rfl ?_
            refine q_iload_n d168_8 rfl ?_
            refine q_v1 d168_9 rfl rfl (xk_136 hX) (Nat.le_of_ble_eq_true rfl) (c145t hR (by omega) ?_)
            refine n0_ne 18 d168_12 (by decide) (by decide) (fun _ => ?_) (fun q => absurd q (by decide))
            refine q_aload_n d168_18 rfl ?_
            refine q_getr (c := 8) (f := 11) d168_19 ⟨rfl, rfl⟩ (xk_136 hX) (xf_states hX) ?_
            refine q_iload_n d168_22 rfl ?_
            refine n_iald d168_23 (xk_states hX) (by omega) (by decide) (hSa _ (by omega)).1.1 ?_
            refine q_iconstN (z := 1) d168_24 ?_
            refine nc_eq 38 d168_25 (by decide) (by omega) (by omega) (fun h25 => (False.elim (h1 h25))) (fun h25 => ?_)
            refine q_aload_n d168_28 rfl ?_
            refine q_getr (c := 8) (f := 11) d168_29 ⟨rfl, rfl⟩ (xk_136 hX) (xf_states hX) ?_
            refine q_iload_n d168_32 rfl ?_
            refine n_iald d168_33 (xk_states hX) (by omega) (by decide) (hSa _ (by omega)).1.1 ?_
            refine q_iconstN (z := 2) d168_34 ?_
            refine nc_ne 41 d168_35 (by decide) (by omega) (by omega) (fun h35 => ?_) (fun h35 => (False.elim (h2 h35)))
            refine q_aload_n d168_41 rfl ?_
            refine q_getv (c := 8) (f := 24) d168_42 ⟨rfl, by decide⟩ (xk_136 hX) hL.2.1 ?_
            refine q_sipush (x := nI 240) d168_45 rfl ?_
            refine nc_ne 54 d168_48 (by decide) (by omega) (by omega) (fun h48 => ?_) (fun h48 => (False.elim (by omega)))
            refine q_aload_n d168_54 rfl ?_
            refine q_iload_n d168_55 rfl ?_
            refine q_iload_n d168_56 rfl ?_
            refine q_v2 d168_57 rfl rfl (xk_136 hX) (Nat.le_of_ble_eq_true rfl) (c170 hX hs (fun M1 q1 q2 f1 => ?_))
            have hX1 := SX_fi hX f1
            have hS1 : XSa M1 s (ySt t) κ := begins_Sa (t := t) (g := 1) q1.1 q1.2 q2
            have hL1 := hL.fi f1 (fun b k q => by unfold GL at q; unfold GS; omega)
            refine q_aload_n d168_60 rfl ?_
            refine q_iconstN (z := 0) d168_61 ?_
            refine q_iload_n d168_62 rfl ?_
            refine q_iload_n d168_63 rfl ?_
            refine q_v3 d168_64 rfl rfl (xk_136 hX1) (Nat.le_of_ble_eq_true rfl) (c171 hX1 hL1 (by show (dL D).length + 1 ≤ 240; omega) (fun M2 hL2 f2 => ?_))
            have hX2 := SX_fi hX1 f2
            have hsm : zi M2 137 t = nI (tn (dT D t)) := (f2.1 _ _ (by unfold GL; omega)).trans ((f1.1 _ _ (by unfold GS; omega)).trans (hTk.1 t ht).1)
            refine q_aload_n d168_67 rfl ?_
            refine q_getr (c := 8) (f := 1) d168_68 ⟨rfl, rfl⟩ (xk_136 hX2) (xf_stepMany hX2) ?_
            refine q_iload_n d168_71 rfl ?_
            refine n_iald d168_72 (xk_stepMany hX2) (by omega) (by decide) hsm ?_
            refine q_iret d168_73 rfl ?_
            have fz : Fi FWd M M2 := (f1.mono (fun b k q => by unfold GS at q; unfold FWd; omega)).trans (f2.mono (fun b k q => by unfold GL at q; unfold FWd; omega))
            have hO2 : OKW (dT D) (dc D) ((dW D).1, yu (dW D).2 s (ySt t)) := OKW_ss (X := dX D) hO (OKS_St ht)
            exact k _ κ (Nat.le_add_right _ _) (hR.up fz hO2 (XPu_fi (XPu_fi hC.2.2.2.1 f1 (fun b k q1 q2 => by unfold GP at q1; unfold GS at q2; omega)) f2 (fun b k q1 q2 => by unfold GP at q1; unfold GL at q2; omega)) (fun r hr => by
              show XSa M2 r (yu (dW D).2 s (ySt t) r) κ
              by_cases e : r = s
              · subst e; rw [yu_s]; exact hS1.fi f2 (fun b k q1 q2 => by unfold GS at q1; unfold GL at q2; omega)
              · rw [yu_n e]; exact ((hSa r hr).fi f1 (fun b k q1 q2 => by unfold GS at q1 q2; omega)).fi f2 (fun b k q1 q2 => by unfold GS at q1; unfold GL at q2; omega)) ((f2.1 _ _ (by unfold GL; omega)).trans ((f1.1 _ _ (by unfold GS; omega)).trans hck)) hL2) (fz.mono (fun b k q => FWd_Y q))
    · rw [oz_n et] at k
      refine q_iload_n d168_0 rfl ?_
      refine q_s1 d168_1 (Or.inl rfl) rfl (Nat.le_of_ble_eq_true rfl) (c169t (by omega) ?_)
      refine n0_eq 15 d168_4 (by decide) (by decide) (fun q => absurd q (by decide)) (fun _ => ?_)
      refine q_aload_n d168_7 rfl ?_
      refine q_iload_n d168_8 rfl ?_
      refine q_v1 d168_9 rfl rfl (xk_136 hX) (Nat.le_of_ble_eq_true rfl) (c145f hR et ?_)
      refine n0_ne 18 d168_12 (by decide) (by decide) (fun q => absurd q (by decide)) (fun _ => ?_)
      refine q_bipush (x := (-2)) d168_15 rfl ?_
      refine q_iret d168_17 rfl ?_
      exact k _ κ (Nat.le_add_right _ _) hR (Fi.refl _ _)
  · rw [oz_n es] at k
    refine q_iload_n d168_0 rfl ?_
    refine q_s1 d168_1 (Or.inl rfl) rfl (Nat.le_of_ble_eq_true rfl) (c169f es ?_)
    refine n0_eq 15 d168_4 (by decide) (by decide) (fun _ => ?_) (fun q => absurd q (by decide))
    refine q_bipush (x := (-2)) d168_15 rfl ?_
    refine q_iret d168_17 rfl ?_
    exact k _ κ (Nat.le_add_right _ _) hR (Fi.refl _ _)
-- tick
theorem d174_0 : decode (zB 174) 0 = .ok (.aload_n 0, 1) := by decide +kernel
theorem d174_1 : decode (zB 174) 1 = .ok (.getfield 301, 3) := by decide +kernel
theorem d174_4 : decode (zB 174) 4 = .ok (.sipush 190, 3) := by decide +kernel
theorem d174_7 : decode (zB 174) 7 = .ok (.if_icmp .le 6, 3) := by decide +kernel
theorem d174_10 : decode (zB 174) 10 = .ok (.bipush (-4), 2) := by decide +kernel
theorem d174_12 : decode (zB 174) 12 = .ok (.ireturn, 1) := by decide +kernel
theorem d174_13 : decode (zB 174) 13 = .ok (.aload_n 0, 1) := by decide +kernel
theorem d174_14 : decode (zB 174) 14 = .ok (.getfield 301, 3) := by decide +kernel
theorem d174_17 : decode (zB 174) 17 = .ok (.istore_n 1, 1) := by decide +kernel
theorem d174_18 : decode (zB 174) 18 = .ok (.aload_n 0, 1) := by decide +kernel
theorem d174_19 : decode (zB 174) 19 = .ok (.invokevirtual 354, 3) := by decide +kernel
theorem d174_22 : decode (zB 174) 22 = .ok (.aload_n 0, 1) := by decide +kernel
theorem d174_23 : decode (zB 174) 23 = .ok (.getfield 301, 3) := by decide +kernel
theorem d174_26 : decode (zB 174) 26 = .ok (.iload_n 1, 1) := by decide +kernel
theorem d174_27 : decode (zB 174) 27 = .ok (.isub, 1) := by decide +kernel
theorem d174_28 : decode (zB 174) 28 = .ok (.ireturn, 1) := by decide +kernel
theorem x174 {d : Nat} {M : zM} {Q : Option Value → zM → Prop} {D : yD} {κ : Nat} (hR : RX M D κ) (hD : OKD D) (hκ : κ + 4000 < 2147483648) (k : ∀ M' κ', κ' ≤ κ + 240 → RX M' (sTick D).2 κ' → Fi FY M M' → Q (some (.int (sTick D).1)) M') : qC (d + 7) 174 [.ref 136] M Q := by
  refine qC_of (by decide) (Nat.le_of_ble_eq_true rfl) ?_
  have hC := hR.1
  have hX := hC.1
  have hO : OKW (dT D) (dc D) (dW D) := hC.2.2.1
  have hc6 := hO.1.1
  have hL : XLo [] M (some (dL D)) := hC.2.2.2.2.2.2.1
  have hSa : ∀ s, s < 3 → XSa M s (dS D s) κ := hC.2.2.2.2.1
  have hTk := hC.k
  have hck := hC.2.2.2.2.2.1
  have h240 := hD.2.1
  unfold sTick at k
  by_cases hf : 190 < (dL D).length
  · rw [if_pos hf] at k
    refine q_aload_n d174_0 rfl ?_
    refine q_getv (c := 8) (f := 24) d174_1 ⟨rfl, by decide⟩ (xk_136 hX) hL.2.1 ?_
    refine q_sipush (x := nI 190) d174_4 rfl ?_
    refine nc_le 13 d174_7 (by decide) (by omega) (by omega) (fun h7 => (False.elim (by omega))) (fun h7 => ?_)
    refine q_bipush (x := (-4)) d174_10 rfl ?_
    refine q_iret d174_12 rfl ?_
    exact k _ κ (Nat.le_add_right _ _) hR (Fi.refl _ _)
  · rw [if_neg hf] at k
    refine q_aload_n d174_0 rfl ?_
    refine q_getv (c := 8) (f := 24) d174_1 ⟨rfl, by decide⟩ (xk_136 hX) hL.2.1 ?_
    refine q_sipush (x := nI 190) d174_4 rfl ?_
    refine nc_le 13 d174_7 (by decide) (by omega) (by omega) (fun h7 => ?_) (fun h7 => (False.elim (by omega)))
    refine q_aload_n d174_13 rfl ?_
    refine q_getv (c := 8) (f := 24) d174_14 ⟨rfl, by decide⟩ (xk_136 hX) hL.2.1 ?_
    refine q_istore_n d174_17 (by decide) rfl ?_
    refine q_aload_n d174_18 rfl ?_
    refine q_v0 d174_19 rfl rfl (xk_136 hX) (Nat.le_of_ble_eq_true rfl) (c175 hC (by show (dL D).length + 39 ≤ 240; omega) (by omega) (fun M2 κ2 hk2 hC2 f2 => ?_))
    obtain ⟨W', A, e, hO2, hg, hlen⟩ := yti_D (D := D) hO
    rw [e] at hC2 k
    have fz : Fi FWd M M2 := f2.mono (fun b k q => FX_W q)
    have hlen2 : (dL D ++ A).length = (dL D).length + A.length := List.length_append
    have hl2 : zi M2 136 24 = nI (dL D ++ A).length := hC2.2.2.2.2.2.2.1.2.1
    refine q_aload_n d174_22 rfl ?_
    refine q_getv (c := 8) (f := 24) d174_23 ⟨rfl, by decide⟩ (xk_136 hC2.1) hl2 ?_
    refine q_iload_n d174_26 rfl ?_
    refine n_isub d174_27 (by omega) ?_
    refine q_iret d174_28 rfl ?_
    exact k _ κ2 (by omega) (hR.up fz hO2 hC2.2.2.2.1 hC2.2.2.2.2.1 hC2.2.2.2.2.2.1 hC2.2.2.2.2.2.2.1) (fz.mono (fun b k q => FWd_Y q))
