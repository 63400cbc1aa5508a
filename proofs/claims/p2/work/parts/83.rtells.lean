/-! ===== the reference: tells ===== -/
/-- the desk, with a step's number that may be another -/
def RQ (M : zM) (D : yD) (κ : Nat) (o : Option (Nat × Nat × Int32)) : Prop := (SX M ∧ XTx M (dT D) (dc D) ∧ OKW (dT D) (dc D) (dW D) ∧ XPu M (dW D).1 ∧ (∀ s, s < 3 → XSa M s ((dW D).2 s) κ) ∧ zi M 136 20 = nI κ ∧ XLo [] M (some (dL D))) ∧ XO M o ∧ zi M 136 0 = nI (dc D) ∧ (dn D ≤ 120 ∧ zi M 136 30 = nI (dn D) ∧ ∀ k, k < dn D → zi M 208 k = nI (db D k)) ∧ ∀ i, i < 4 → zi M 319 i = (dR D i).1 ∧ zi M 320 i = nI (dR D i).2
theorem RX.q {M : zM} {D : yD} {κ : Nat} (h : RX M D κ) : RQ M D κ none := ⟨⟨h.1.1, h.1.2.1, h.1.2.2.1, h.1.2.2.2.1, h.1.2.2.2.2.1, h.1.2.2.2.2.2.1, h.1.2.2.2.2.2.2.1⟩, h.2.1, h.2.2.1, h.2.2.2.1, h.2.2.2.2⟩
theorem RQ.x {M : zM} {D : yD} {κ : Nat} (h : RQ M D κ none) : RX M D κ := ⟨⟨h.1.1, h.1.2.1, h.1.2.2.1, h.1.2.2.2.1, h.1.2.2.2.2.1, h.1.2.2.2.2.2.1, h.1.2.2.2.2.2.2, ⟨none, h.2.1, fun s hs h0 k hk => rfl⟩⟩, h.2.1, h.2.2.1, h.2.2.2.1, h.2.2.2.2⟩
theorem XO.fi {M M' : zM} {o : Option (Nat × Nat × Int32)} (h : XO M o) (e : ∀ k, k = 21 ∨ k = 22 ∨ k = 23 → zi M' 136 k = zi M 136 k) : XO M' o := by
  cases o with
  | none => exact (e _ (Or.inl rfl)).trans h
  | some q => exact ⟨(e _ (Or.inl rfl)).trans h.1, (e _ (Or.inr (Or.inl rfl))).trans h.2.1, (e _ (Or.inr (Or.inr rfl))).trans h.2.2.1, h.2.2.2⟩
/-- another number -/
theorem RQ.to {M M' : zM} {D : yD} {κ : Nat} {o p : Option (Nat × Nat × Int32)} (h : RQ M D κ o) (f : Fi (fun b k => b = 136 ∧ (k = 21 ∨ k = 22 ∨ k = 23)) M M') (hp : XO M' p) : RQ M' D κ p := by
  obtain ⟨⟨h1, h2, h3, h4, h5, h6, h7⟩, h8, h9, ⟨h10, h11, h12⟩, h13⟩ := h
  exact ⟨⟨SX_fi h1 f, XTx_fi h2 h3.1.1 f (fun b k b1 b2 q => by omega), h3, XPu_fi h4 f (fun b k q1 q2 => by unfold GP at q1; omega), fun s hs => (h5 s hs).fi f (fun b k q1 q2 => by unfold GS at q1; omega), (f.1 _ _ (by omega)).trans h6, h7.fi f (fun b k q => by unfold GL at q; omega)⟩, hp, (f.1 _ _ (by omega)).trans h9, ⟨h10, (f.1 _ _ (by omega)).trans h11, fun k hk => (f.1 _ _ (by omega)).trans (h12 k hk)⟩, fun i hi => ⟨(f.1 _ _ (by omega)).trans (h13 i hi).1, (f.1 _ _ (by omega)).trans (h13 i hi).2⟩⟩
theorem RQ.back {M M' : zM} {D : yD} {κ : Nat} {o : Option (Nat × Nat × Int32)} (h : RQ M D κ o) (f : Fi FZ M M') (hK : KB M M') (h21 : XO M' o) (hL : XLo [] M' (some (dL D))) : RQ M' D κ o := by
  obtain ⟨h1, h2, h3, ⟨h4, h5, h6⟩, h7⟩ := h
  have hO := h1.2.2.1
  refine ⟨⟨SX_fi h1.1 f, XTx_fi h1.2.1 hO.1.1 f (fun b k b1 b2 q => by unfold FZ at q; omega), hO, ⟨fun k hk => (hK.1.1 k hk).trans (h1.2.2.2.1.1 k hk), hK.1.2.1.trans h1.2.2.2.1.2.1, hK.1.2.2.1.trans h1.2.2.2.1.2.2⟩, fun s hs => (h1.2.2.2.2.1 s hs).kb hs (OKS_m12 hO.1.2 (hO.2.2 s hs)) hK, hK.1.2.2.2.1.trans h1.2.2.2.2.2.1, hL⟩, h21, (f.1 _ _ (by unfold FZ; omega)).trans h3, ⟨h4, (f.1 _ _ (by unfold FZ; omega)).trans h5, fun k hk => (f.1 _ _ (by unfold FZ; omega)).trans (h6 k hk)⟩, fun i hi => ⟨(f.1 _ _ (by unfold FZ; omega)).trans (h7 i hi).1, (f.1 _ _ (by unfold FZ; omega)).trans (h7 i hi).2⟩⟩
/-- the numbers that steps go by -/
def yqn (D : yD) (o : Option (Nat × Nat × Int32)) : Nat → Nat → Int32 := fun s k => xnv o (dT D) (gx (dS D s)) s k
theorem RQ.wake {M M2 M3 : zM} {D : yD} {κ : Nat} {o : Option (Nat × Nat × Int32)} (h : RQ M D κ o) (f : Fi FZ M M2) (h21 : XO M2 o) (hL : XLg M2 (dL D)) (hK : KB M M3) (h25 : zi M3 136 25 = nI 0) (f3 : Fi (fun b k => FB b k ∨ (b = 136 ∧ k = 25)) M2 M3) : RQ M3 D κ o ∧ Fi FY M M3 := by
  have fz : Fi FZ M M3 := f.trans (f3.mono (fun b k q => by unfold FB at q; unfold FZ; omega))
  exact ⟨h.back fz hK (h21.fi (fun k hk => f3.1 _ _ (by unfold FB; omega))) ⟨h25, (f3.1 _ _ (by unfold FB; omega)).trans hL.1, fun q hq => ⟨(f3.1 _ _ (by unfold FB; omega)).trans (hL.2 q hq).1, (f3.1 _ _ (by unfold FB; omega)).trans (hL.2 q hq).2.1, (f3.1 _ _ (by unfold FB; omega)).trans (hL.2 q hq).2.2⟩⟩, fz.mono (fun b k q => FZ_Y q)⟩
theorem c198q {d : Nat} {M : zM} {Q : Option Value → zM → Prop} {D : yD} {κ : Nat} {o : Option (Nat × Nat × Int32)} (hR : RQ M D κ o) (k : ∀ M', CX (dL D) M' (dT D) (dc D) (yqn D o) (dW D, none) κ → zi M' 136 25 = nI 1 → XO M' o → KA M M' 0 → Fi FZ M M' → Q none M') : qC (d + 3) 198 [.ref 136] M Q := by
  refine qC_of (by decide) (Nat.le_of_ble_eq_true rfl) ?_
  have hC := hR.1
  have hX := hC.1
  have hO : OKW (dT D) (dc D) (dW D) := hC.2.2.1
  have hc6 := hO.1.1
  have hL : XLo [] M (some (dL D)) := hC.2.2.2.2.2.2
  have hSa : ∀ s, s < 3 → XSa M s (dS D s) κ := hC.2.2.2.2.1
  have hck := hC.2.2.2.2.2.1
  refine q_aload_n d198_0 rfl ?_
  refine q_iconstN (z := 0) d198_1 ?_
  refine q_v1 d198_2 rfl rfl (xk_136 hX) (Nat.le_of_ble_eq_true rfl) (c155 (l := 0) hX (by decide) (fun M1 hK f1 => ?_))
  have hX1 := SX_fi hX f1
  refine q_aload_n d198_5 rfl ?_
  refine q_iconstN (z := 1) d198_6 ?_
  refine q_putz (c := 8) (f := 25) d198_7 ⟨rfl, rfl, by decide⟩ (xk_136 hX1) (Or.inr rfl) ?_
  refine q_ret d198_10 rfl ?_
  have f2 : Fi (fun b k => FA 0 b k ∨ (b = 136 ∧ k = 25)) M (zwi M1 136 25 (nI 1)) := (f1.mono (fun b k q => Or.inl q)).wi (Or.inr ⟨rfl, rfl⟩)
  have hLg : XLg (zwi M1 136 25 (nI 1)) (dL D) := ⟨(f2.1 _ _ (by unfold FA; omega)).trans hL.2.1, fun q hq => ⟨(f2.1 _ _ (by unfold FA; omega)).trans (hL.2.2 q hq).1, (f2.1 _ _ (by unfold FA; omega)).trans (hL.2.2 q hq).2.1, (f2.1 _ _ (by unfold FA; omega)).trans (hL.2.2 q hq).2.2⟩⟩
  have b21 : XO (zwi M1 136 25 (nI 1)) o := hR.2.1.fi (fun k hk => f2.1 _ _ (by unfold FA; omega))
  exact k _ ⟨SX_fi hX f2, XTx_fi hC.2.1 hc6 f2 (fun b k b1 b2 q => by unfold FA at q; omega), hO, XPu_fi hC.2.2.2.1 f2 (fun b k q1 q2 => by unfold GP at q1; unfold FA at q2; omega), fun s hs => (hSa s hs).fi f2 (fun b k q1 q2 => by unfold GS at q1; unfold FA at q2; omega), (f2.1 _ _ (by unfold FA; omega)).trans hck, ⟨wi_s _ _ _ _, hLg⟩, ⟨o, b21, fun s hs h0 k hk => rfl⟩⟩ (wi_s _ _ _ _) b21 (hK.fi ((Fi.refl (fun b k => b = 136 ∧ k = 25) M1).wi ⟨rfl, rfl⟩) (fun b k q1 q2 => by unfold FA at q1; omega)) (f2.mono (fun b k q => by unfold FA at q; unfold FZ; omega))
theorem d208_0 : decode (zB 208) 0 = .ok (.iconst (-1), 1) := by decide +kernel
theorem d208_1 : decode (zB 208) 1 = .ok (.istore_n 3, 1) := by decide +kernel
theorem d208_2 : decode (zB 208) 2 = .ok (.aload_n 0, 1) := by decide +kernel
theorem d208_3 : decode (zB 208) 3 = .ok (.invokevirtual 372, 3) := by decide +kernel
theorem d208_6 : decode (zB 208) 6 = .ok (.iconst 0, 1) := by decide +kernel
theorem d208_7 : decode (zB 208) 7 = .ok (.istore 4, 2) := by decide +kernel
theorem d208_9 : decode (zB 208) 9 = .ok (.iload 4, 2) := by decide +kernel
theorem d208_11 : decode (zB 208) 11 = .ok (.aload_n 0, 1) := by decide +kernel
theorem d208_12 : decode (zB 208) 12 = .ok (.getfield 103, 3) := by decide +kernel
theorem d208_15 : decode (zB 208) 15 = .ok (.iload_n 1, 1) := by decide +kernel
theorem d208_16 : decode (zB 208) 16 = .ok (.iaload, 1) := by decide +kernel
theorem d208_17 : decode (zB 208) 17 = .ok (.if_icmp .ge 39, 3) := by decide +kernel
theorem d208_20 : decode (zB 208) 20 = .ok (.iload_n 3, 1) := by decide +kernel
theorem d208_21 : decode (zB 208) 21 = .ok (.iconst (-1), 1) := by decide +kernel
theorem d208_22 : decode (zB 208) 22 = .ok (.if_icmp .ne 34, 3) := by decide +kernel
theorem d208_25 : decode (zB 208) 25 = .ok (.aload_n 0, 1) := by decide +kernel
theorem d208_26 : decode (zB 208) 26 = .ok (.invokevirtual 354, 3) := by decide +kernel
theorem d208_29 : decode (zB 208) 29 = .ok (.aload_n 0, 1) := by decide +kernel
theorem d208_30 : decode (zB 208) 30 = .ok (.getfield 33, 3) := by decide +kernel
theorem d208_33 : decode (zB 208) 33 = .ok (.iload_n 2, 1) := by decide +kernel
theorem d208_34 : decode (zB 208) 34 = .ok (.iaload, 1) := by decide +kernel
theorem d208_35 : decode (zB 208) 35 = .ok (.aload_n 0, 1) := by decide +kernel
theorem d208_36 : decode (zB 208) 36 = .ok (.getfield 106, 3) := by decide +kernel
theorem d208_39 : decode (zB 208) 39 = .ok (.iload_n 1, 1) := by decide +kernel
theorem d208_40 : decode (zB 208) 40 = .ok (.aaload, 1) := by decide +kernel
theorem d208_41 : decode (zB 208) 41 = .ok (.iload 4, 2) := by decide +kernel
theorem d208_43 : decode (zB 208) 43 = .ok (.iaload, 1) := by decide +kernel
theorem d208_44 : decode (zB 208) 44 = .ok (.if_icmp .eq 6, 3) := by decide +kernel
theorem d208_47 : decode (zB 208) 47 = .ok (.iload 4, 2) := by decide +kernel
theorem d208_49 : decode (zB 208) 49 = .ok (.istore_n 3, 1) := by decide +kernel
theorem d208_50 : decode (zB 208) 50 = .ok (.iinc 4 1, 3) := by decide +kernel
theorem d208_53 : decode (zB 208) 53 = .ok (.goto (-44), 3) := by decide +kernel
theorem d208_56 : decode (zB 208) 56 = .ok (.aload_n 0, 1) := by decide +kernel
theorem d208_57 : decode (zB 208) 57 = .ok (.invokevirtual 375, 3) := by decide +kernel
theorem d208_60 : decode (zB 208) 60 = .ok (.iload_n 3, 1) := by decide +kernel
theorem d208_61 : decode (zB 208) 61 = .ok (.ireturn, 1) := by decide +kernel
theorem l208 {d : Nat} {Q : Option Value → zM → Prop} {D : yD} {M0 : zM} {h a κ : Nat} {o : Option (Nat × Nat × Int32)} (hR : RQ M0 D κ o) (hκ : κ + 4000 < 2147483648) (hh : h < 4) (ha : a < 6) (hz : (dR D h).2 ≤ 20) (k : ∀ v M', RQ M' D κ o → Fi FY M0 M' → Q (some (.int v)) M') : ∀ (r i : Nat) (κ1 : Nat) (M1 : zM) (X1 : yX) (fd : Int32), i ≤ (dR D h).2 → (dR D h).2 < i + r →  CX (dL D) M1 (dT D) (dc D) (yqn D o) X1 κ1 → zi M1 136 25 = nI 1 → XO M1 o → KA M0 M1 0 → Fi FZ M0 M1 → κ1 ≤ κ + 36 * i → qW (zEv (d + 6)) 208 Q 9 [(4, .int (nI i)), (3, .int fd), (0, .ref 136), (1, .int (nI h)), (2, .int (nI a))] [] M1 := by
  intro r
  induction r with
  | zero => intros; omega
  | succ r ih =>
    intro i κ1 M1 X1 fd h1 h2 hC1 h25 h21 hK hF hk1
    refine q_iload d208_9 rfl ?_
    refine q_aload_n d208_11 rfl ?_
    refine q_getr (c := 8) (f := 46) d208_12 ⟨rfl, rfl⟩ (xk_136 hC1.1) (xf_lengths hC1.1) ?_
    refine q_iload_n d208_15 rfl ?_
    refine n_iald d208_16 (xk_lengths hC1.1) (by omega) (by decide) ((hF.1 _ _ (by unfold FZ; omega)).trans (hR.2.2.2.2 _ (by omega)).2) ?_
    refine nc_ge 56 d208_17 (by decide) (by omega) (by omega) (fun h17 => ?_) (fun h17 => ?_)
    · refine q_aload_n d208_56 rfl ?_
      refine q_v0 d208_57 rfl rfl (xk_136 hC1.1) (Nat.le_of_ble_eq_true rfl) (c199 hC1.1 hK (fun M2 hK2 q25 f2 => ?_))
      refine q_iload_n d208_60 rfl ?_
      refine q_iret d208_61 rfl ?_
      have hLo : XLo (dL D) M1 X1.2 := hC1.2.2.2.2.2.2.1
      rw [hC1.l0 h25] at hLo
      have hw := hR.wake hF h21 hLo.2 hK2 q25 f2
      exact k _ _ hw.1 hw.2
    · refine q_iload_n d208_20 rfl ?_
      refine q_iconst (x := (-1)) d208_21 rfl ?_
      refine ic_ne 56 d208_22 (by decide) (fun h22 => ?_) (fun h22 => ?_)
      · refine q_aload_n d208_56 rfl ?_
        refine q_v0 d208_57 rfl rfl (xk_136 hC1.1) (Nat.le_of_ble_eq_true rfl) (c199 hC1.1 hK (fun M2 hK2 q25 f2 => ?_))
        refine q_iload_n d208_60 rfl ?_
        refine q_iret d208_61 rfl ?_
        have hLo : XLo (dL D) M1 X1.2 := hC1.2.2.2.2.2.2.1
        rw [hC1.l0 h25] at hLo
        have hw := hR.wake hF h21 hLo.2 hK2 q25 f2
        exact k _ _ hw.1 hw.2
      · refine q_aload_n d208_25 rfl ?_
        refine q_v0 d208_26 rfl rfl (xk_136 hC1.1) (Nat.le_of_ble_eq_true rfl) (c175 hC1 (by rw [hC1.l0 h25]; show 0 + 39 ≤ 240; omega) (by omega) (fun M2 κ2 hk2 hC2 f2 => ?_))
        refine q_aload_n d208_29 rfl ?_
        refine q_getr (c := 8) (f := 8) d208_30 ⟨rfl, rfl⟩ (xk_136 hC2.1) (xf_balances hC2.1) ?_
        refine q_iload_n d208_33 rfl ?_
        refine n_iald d208_34 (xk_balances hC2.1) (by omega) (by decide) rfl ?_
        refine q_aload_n d208_35 rfl ?_
        refine q_getr (c := 8) (f := 47) d208_36 ⟨rfl, rfl⟩ (xk_136 hC2.1) (xf_items hC2.1) ?_
        refine q_iload_n d208_39 rfl ?_
        refine n_aald d208_40 (xk_items hC2.1) (by decide) (by omega) (by decide) (xr_items hC2.1 (by omega)) ?_
        refine q_iload d208_41 rfl ?_
        refine n_iald d208_43 (xa_items hC2.1 (by omega)) (by omega) (by decide) rfl ?_
        refine ic_eq 50 d208_44 (by decide) (fun h44 => ?_) (fun h44 => ?_)
        · refine n_iinc 1 d208_50 (by decide) rfl rfl ?_
          refine q_goto 9 d208_53 (by decide) ?_
          exact ih (i + 1) κ2 _ _ _ (by omega) (by omega) hC2 ((f2.1 _ _ (by unfold FX; omega)).trans h25) (h21.fi (fun k hk => f2.1 _ _ (by unfold FX; omega))) (hK.fi f2 (fun b k q1 q2 => by unfold FA at q1; unfold FX at q2; omega)) (hF.trans (f2.mono (fun b k q => FX_Z q))) (by omega)
        · refine q_iload d208_47 rfl ?_
          refine q_istore_n d208_49 (by decide) rfl ?_
          refine n_iinc 1 d208_50 (by decide) rfl rfl ?_
          refine q_goto 9 d208_53 (by decide) ?_
          exact ih (i + 1) κ2 _ _ _ (by omega) (by omega) hC2 ((f2.1 _ _ (by unfold FX; omega)).trans h25) (h21.fi (fun k hk => f2.1 _ _ (by unfold FX; omega))) (hK.fi f2 (fun b k q1 q2 => by unfold FA at q1; unfold FX at q2; omega)) (hF.trans (f2.mono (fun b k q => FX_Z q))) (by omega)
theorem c208 {d : Nat} {Q : Option Value → zM → Prop} {D : yD} {M0 : zM} {h a κ : Nat} {o : Option (Nat × Nat × Int32)} (hR : RQ M0 D κ o) (hκ : κ + 4000 < 2147483648) (hh : h < 4) (ha : a < 6) (hz : (dR D h).2 ≤ 20) (k : ∀ v M', RQ M' D κ o → Fi FY M0 M' → Q (some (.int v)) M') : qC (d + 7) 208 [.ref 136, .int (nI h), .int (nI a)] M0 Q := by
  refine qC_of (by decide) (Nat.le_of_ble_eq_true rfl) ?_
  refine q_iconst (x := (-1)) d208_0 rfl ?_
  refine q_istore_n d208_1 (by decide) rfl ?_
  refine q_aload_n d208_2 rfl ?_
  refine q_v0 d208_3 rfl rfl (xk_136 hR.1.1) (Nat.le_of_ble_eq_true rfl) (c198q hR (fun M1 hC1 q25 q21 hK f1 => ?_))
  refine q_iconstN (z := 0) d208_6 ?_
  refine q_istore d208_7 (by decide) rfl ?_
  exact l208 hR hκ hh ha hz k ((dR D h).2 + 1) 0 κ M1 _ _ (Nat.zero_le _) (by omega) hC1 q25 q21 hK f1 (by omega)
theorem d209_0 : decode (zB 209) 0 = .ok (.iconst 0, 1) := by decide +kernel
theorem d209_1 : decode (zB 209) 1 = .ok (.istore 4, 2) := by decide +kernel
theorem d209_3 : decode (zB 209) 3 = .ok (.iconst (-1), 1) := by decide +kernel
theorem d209_4 : decode (zB 209) 4 = .ok (.istore 5, 2) := by decide +kernel
theorem d209_6 : decode (zB 209) 6 = .ok (.iconst 0, 1) := by decide +kernel
theorem d209_7 : decode (zB 209) 7 = .ok (.istore 6, 2) := by decide +kernel
theorem d209_9 : decode (zB 209) 9 = .ok (.iload 6, 2) := by decide +kernel
theorem d209_11 : decode (zB 209) 11 = .ok (.bipush 20, 2) := by decide +kernel
theorem d209_13 : decode (zB 209) 13 = .ok (.if_icmp .ge 45, 3) := by decide +kernel
theorem d209_16 : decode (zB 209) 16 = .ok (.aload_n 0, 1) := by decide +kernel
theorem d209_17 : decode (zB 209) 17 = .ok (.iload 6, 2) := by decide +kernel
theorem d209_19 : decode (zB 209) 19 = .ok (.putfield 314, 3) := by decide +kernel
theorem d209_22 : decode (zB 209) 22 = .ok (.aload_n 0, 1) := by decide +kernel
theorem d209_23 : decode (zB 209) 23 = .ok (.iload_n 1, 1) := by decide +kernel
theorem d209_24 : decode (zB 209) 24 = .ok (.iload_n 2, 1) := by decide +kernel
theorem d209_25 : decode (zB 209) 25 = .ok (.invokevirtual 389, 3) := by decide +kernel
theorem d209_28 : decode (zB 209) 28 = .ok (.iconst (-1), 1) := by decide +kernel
theorem d209_29 : decode (zB 209) 29 = .ok (.if_icmp .eq 6, 3) := by decide +kernel
theorem d209_32 : decode (zB 209) 32 = .ok (.goto 20, 3) := by decide +kernel
theorem d209_35 : decode (zB 209) 35 = .ok (.iload 4, 2) := by decide +kernel
theorem d209_37 : decode (zB 209) 37 = .ok (.ifCond .ne 8, 3) := by decide +kernel
theorem d209_40 : decode (zB 209) 40 = .ok (.iload 6, 2) := by decide +kernel
theorem d209_42 : decode (zB 209) 42 = .ok (.goto 5, 3) := by decide +kernel
theorem d209_45 : decode (zB 209) 45 = .ok (.iload 5, 2) := by decide +kernel
theorem d209_47 : decode (zB 209) 47 = .ok (.istore 5, 2) := by decide +kernel
theorem d209_49 : decode (zB 209) 49 = .ok (.iinc 4 1, 3) := by decide +kernel
theorem d209_52 : decode (zB 209) 52 = .ok (.iinc 6 1, 3) := by decide +kernel
theorem d209_55 : decode (zB 209) 55 = .ok (.goto (-46), 3) := by decide +kernel
theorem d209_58 : decode (zB 209) 58 = .ok (.aload_n 0, 1) := by decide +kernel
theorem d209_59 : decode (zB 209) 59 = .ok (.iconst (-1), 1) := by decide +kernel
theorem d209_60 : decode (zB 209) 60 = .ok (.putfield 63, 3) := by decide +kernel
theorem d209_63 : decode (zB 209) 63 = .ok (.iload_n 3, 1) := by decide +kernel
theorem d209_64 : decode (zB 209) 64 = .ok (.ifCond .eq 8, 3) := by decide +kernel
theorem d209_67 : decode (zB 209) 67 = .ok (.iload 5, 2) := by decide +kernel
theorem d209_69 : decode (zB 209) 69 = .ok (.goto 5, 3) := by decide +kernel
theorem d209_72 : decode (zB 209) 72 = .ok (.iload 4, 2) := by decide +kernel
theorem d209_74 : decode (zB 209) 74 = .ok (.ireturn, 1) := by decide +kernel
theorem l209 {d : Nat} {Q : Option Value → zM → Prop} {D : yD} {M0 : zM} {h a s p κ : Nat} {lt : Int32} (hκ : κ + 4000 < 2147483648) (hh : h < 4) (ha : a < 6) (hs : s < 3) (hp : p < 12) (hz : (dR D h).2 ≤ 20) (k : ∀ v M', RX M' D κ → Fi FY M0 M' → Q (some (.int v)) M') : ∀ (r i : Nat) (M1 : zM) (w : Int32) (mn : Nat) (fs : Int32), i ≤ 20 → 20 < i + r →  mn ≤ i → RQ M1 D κ (some (s, p, w)) → Fi FY M0 M1 → qW (zEv (d + 7)) 209 Q 9 [(0, .ref 136), (1, .int (nI h)), (2, .int (nI a)), (3, .int lt), (4, .int (nI mn)), (5, .int fs), (6, .int (nI i))] [] M1 := by
  intro r
  induction r with
  | zero => intros; omega
  | succ r ih =>
    intro i M1 w mn fs h1 h2 hmn hR hF
    refine q_iload d209_9 rfl ?_
    refine q_bipush (x := nI 20) d209_11 rfl ?_
    refine nc_ge 58 d209_13 (by decide) (by omega) (by omega) (fun h13 => ?_) (fun h13 => ?_)
    · refine q_aload_n d209_58 rfl ?_
      refine q_iconst (x := (-1)) d209_59 rfl ?_
      refine q_puti (c := 8) (f := 21) d209_60 ⟨rfl, rfl, by decide⟩ (xk_136 hR.1.1) ?_
      refine q_iload_n d209_63 rfl ?_
      refine i0_eq 72 d209_64 (by decide) (fun h64 => ?_) (fun h64 => ?_)
      · refine q_iload d209_72 rfl ?_
        refine q_iret d209_74 rfl ?_
        have fe : Fi (fun b k => b = 136 ∧ (k = 21 ∨ k = 22 ∨ k = 23)) M1 (zwi M1 136 21 (-1)) := (Fi.refl _ _).wi ⟨rfl, Or.inl rfl⟩
        exact k _ _ (hR.to (p := none) fe (wi_s _ _ _ _)).x (hF.trans (fe.mono (fun b k q => by unfold FY; omega)))
      · refine q_iload d209_67 rfl ?_
        refine q_goto 74 d209_69 (by decide) ?_
        refine q_iret d209_74 rfl ?_
        have fe : Fi (fun b k => b = 136 ∧ (k = 21 ∨ k = 22 ∨ k = 23)) M1 (zwi M1 136 21 (-1)) := (Fi.refl _ _).wi ⟨rfl, Or.inl rfl⟩
        exact k _ _ (hR.to (p := none) fe (wi_s _ _ _ _)).x (hF.trans (fe.mono (fun b k q => by unfold FY; omega)))
    · refine q_aload_n d209_16 rfl ?_
      refine q_iload d209_17 rfl ?_
      refine q_puti (c := 8) (f := 23) d209_19 ⟨rfl, rfl, by decide⟩ (xk_136 hR.1.1) ?_
      have fq : Fi (fun b k => b = 136 ∧ (k = 21 ∨ k = 22 ∨ k = 23)) M1 (zwi M1 136 23 (nI i)) := (Fi.refl _ _).wi ⟨rfl, Or.inr (Or.inr rfl)⟩
      have hR1 : RQ (zwi M1 136 23 (nI i)) D κ (some (s, p, nI i)) := hR.to fq ⟨(wi_n (by omega)).trans hR.2.1.1, (wi_n (by omega)).trans hR.2.1.2.1, wi_s _ _ _ _, hs, hp⟩
      refine q_aload_n d209_22 rfl ?_
      refine q_iload_n d209_23 rfl ?_
      refine q_iload_n d209_24 rfl ?_
      refine q_v2 d209_25 rfl rfl (xk_136 hR1.1.1) (Nat.le_of_ble_eq_true rfl) (c208 hR1 hκ hh ha hz (fun v2 M2 hR2 f2 => ?_))
      refine q_iconst (x := (-1)) d209_28 rfl ?_
      refine ic_eq 35 d209_29 (by decide) (fun h29 => ?_) (fun h29 => ?_)
      · refine q_iload d209_35 rfl ?_
        refine n0_ne 45 d209_37 (by decide) (by omega) (fun h37 => ?_) (fun h37 => ?_)
        · refine q_iload d209_45 rfl ?_
          refine q_istore d209_47 (by decide) rfl ?_
          refine n_iinc 1 d209_49 (by decide) rfl rfl ?_
          refine n_iinc 1 d209_52 (by decide) rfl rfl ?_
          refine q_goto 9 d209_55 (by decide) ?_
          refine qW_srt rfl rfl ?_
          exact ih (i + 1) M2 (nI i) (mn + 1) fs (by omega) (by omega) (by omega) hR2 (hF.trans ((fq.mono (fun b k q => by unfold FY; omega)).trans f2))
        · refine q_iload d209_40 rfl ?_
          refine q_goto 47 d209_42 (by decide) ?_
          refine q_istore d209_47 (by decide) rfl ?_
          refine n_iinc 1 d209_49 (by decide) rfl rfl ?_
          refine n_iinc 1 d209_52 (by decide) rfl rfl ?_
          refine q_goto 9 d209_55 (by decide) ?_
          refine qW_srt rfl rfl ?_
          exact ih (i + 1) M2 (nI i) (mn + 1) (nI i) (by omega) (by omega) (by omega) hR2 (hF.trans ((fq.mono (fun b k q => by unfold FY; omega)).trans f2))
      · refine q_goto 52 d209_32 (by decide) ?_
        refine n_iinc 1 d209_52 (by decide) rfl rfl ?_
        refine q_goto 9 d209_55 (by decide) ?_
        refine qW_srt rfl rfl ?_
        exact ih (i + 1) M2 (nI i) mn fs (by omega) (by omega) (by omega) hR2 (hF.trans ((fq.mono (fun b k q => by unfold FY; omega)).trans f2))
theorem c209 {d : Nat} {Q : Option Value → zM → Prop} {D : yD} {M0 : zM} {h a s p κ : Nat} {lt : Int32} {w : Int32} (hR : RQ M0 D κ (some (s, p, w))) (hκ : κ + 4000 < 2147483648) (hh : h < 4) (ha : a < 6) (hs : s < 3) (hp : p < 12) (hz : (dR D h).2 ≤ 20) (k : ∀ v M', RX M' D κ → Fi FY M0 M' → Q (some (.int v)) M') : qC (d + 8) 209 [.ref 136, .int (nI h), .int (nI a), .int lt] M0 Q := by
  refine qC_of (by decide) (Nat.le_of_ble_eq_true rfl) ?_
  refine q_iconstN (z := 0) d209_0 ?_
  refine q_istore d209_1 (by decide) rfl ?_
  refine q_iconst (x := (-1)) d209_3 rfl ?_
  refine q_istore d209_4 (by decide) rfl ?_
  refine q_iconstN (z := 0) d209_6 ?_
  refine q_istore d209_7 (by decide) rfl ?_
  refine qW_srt rfl rfl ?_
  exact l209 hκ hh ha hs hp hz k 21 0 M0 w 0 _ (by omega) (by omega) (Nat.le_refl _) hR (Fi.refl _ _)
theorem d206_0 : decode (zB 206) 0 = .ok (.iload 4, 2) := by decide +kernel
theorem d206_2 : decode (zB 206) 2 = .ok (.bipush 100, 2) := by decide +kernel
theorem d206_4 : decode (zB 206) 4 = .ok (.bipush 111, 2) := by decide +kernel
theorem d206_6 : decode (zB 206) 6 = .ok (.invokestatic 112, 3) := by decide +kernel
theorem d206_9 : decode (zB 206) 9 = .ok (.ifCond .ne 17, 3) := by decide +kernel
theorem d206_12 : decode (zB 206) 12 = .ok (.iload 4, 2) := by decide +kernel
theorem d206_14 : decode (zB 206) 14 = .ok (.sipush 200, 3) := by decide +kernel
theorem d206_17 : decode (zB 206) 17 = .ok (.sipush 211, 3) := by decide +kernel
theorem d206_20 : decode (zB 206) 20 = .ok (.invokestatic 112, 3) := by decide +kernel
theorem d206_23 : decode (zB 206) 23 = .ok (.ifCond .eq 7, 3) := by decide +kernel
theorem d206_26 : decode (zB 206) 26 = .ok (.iconst 1, 1) := by decide +kernel
theorem d206_27 : decode (zB 206) 27 = .ok (.goto 4, 3) := by decide +kernel
theorem d206_30 : decode (zB 206) 30 = .ok (.iconst 0, 1) := by decide +kernel
theorem d206_31 : decode (zB 206) 31 = .ok (.istore 5, 2) := by decide +kernel
theorem d206_33 : decode (zB 206) 33 = .ok (.iload_n 1, 1) := by decide +kernel
theorem d206_34 : decode (zB 206) 34 = .ok (.invokestatic 392, 3) := by decide +kernel
theorem d206_37 : decode (zB 206) 37 = .ok (.ifCond .eq 32, 3) := by decide +kernel
theorem d206_40 : decode (zB 206) 40 = .ok (.iload_n 2, 1) := by decide +kernel
theorem d206_41 : decode (zB 206) 41 = .ok (.invokestatic 357, 3) := by decide +kernel
theorem d206_44 : decode (zB 206) 44 = .ok (.ifCond .eq 25, 3) := by decide +kernel
theorem d206_47 : decode (zB 206) 47 = .ok (.iload_n 3, 1) := by decide +kernel
theorem d206_48 : decode (zB 206) 48 = .ok (.invokestatic 345, 3) := by decide +kernel
theorem d206_51 : decode (zB 206) 51 = .ok (.ifCond .eq 18, 3) := by decide +kernel
theorem d206_54 : decode (zB 206) 54 = .ok (.iload 4, 2) := by decide +kernel
theorem d206_56 : decode (zB 206) 56 = .ok (.iconst 0, 1) := by decide +kernel
theorem d206_57 : decode (zB 206) 57 = .ok (.iconst 1, 1) := by decide +kernel
theorem d206_58 : decode (zB 206) 58 = .ok (.invokestatic 112, 3) := by decide +kernel
theorem d206_61 : decode (zB 206) 61 = .ok (.ifCond .ne 11, 3) := by decide +kernel
theorem d206_64 : decode (zB 206) 64 = .ok (.iload 5, 2) := by decide +kernel
theorem d206_66 : decode (zB 206) 66 = .ok (.ifCond .ne 6, 3) := by decide +kernel
theorem d206_69 : decode (zB 206) 69 = .ok (.bipush (-2), 2) := by decide +kernel
theorem d206_71 : decode (zB 206) 71 = .ok (.ireturn, 1) := by decide +kernel
theorem d206_72 : decode (zB 206) 72 = .ok (.iload 4, 2) := by decide +kernel
theorem d206_74 : decode (zB 206) 74 = .ok (.bipush 100, 2) := by decide +kernel
theorem d206_76 : decode (zB 206) 76 = .ok (.irem, 1) := by decide +kernel
theorem d206_77 : decode (zB 206) 77 = .ok (.istore 6, 2) := by decide +kernel
theorem d206_79 : decode (zB 206) 79 = .ok (.iload 5, 2) := by decide +kernel
theorem d206_81 : decode (zB 206) 81 = .ok (.ifCond .eq 15, 3) := by decide +kernel
theorem d206_84 : decode (zB 206) 84 = .ok (.aload_n 0, 1) := by decide +kernel
theorem d206_85 : decode (zB 206) 85 = .ok (.getfield 36, 3) := by decide +kernel
theorem d206_88 : decode (zB 206) 88 = .ok (.iload_n 3, 1) := by decide +kernel
theorem d206_89 : decode (zB 206) 89 = .ok (.iaload, 1) := by decide +kernel
theorem d206_90 : decode (zB 206) 90 = .ok (.ifCond .ne 6, 3) := by decide +kernel
theorem d206_93 : decode (zB 206) 93 = .ok (.bipush (-3), 2) := by decide +kernel
theorem d206_95 : decode (zB 206) 95 = .ok (.ireturn, 1) := by decide +kernel
theorem d206_96 : decode (zB 206) 96 = .ok (.iload 5, 2) := by decide +kernel
theorem d206_98 : decode (zB 206) 98 = .ok (.ifCond .eq 40, 3) := by decide +kernel
theorem d206_101 : decode (zB 206) 101 = .ok (.iload 6, 2) := by decide +kernel
theorem d206_103 : decode (zB 206) 103 = .ok (.aload_n 0, 1) := by decide +kernel
theorem d206_104 : decode (zB 206) 104 = .ok (.getfield 9, 3) := by decide +kernel
theorem d206_107 : decode (zB 206) 107 = .ok (.aload_n 0, 1) := by decide +kernel
theorem d206_108 : decode (zB 206) 108 = .ok (.getfield 39, 3) := by decide +kernel
theorem d206_111 : decode (zB 206) 111 = .ok (.iload_n 3, 1) := by decide +kernel
theorem d206_112 : decode (zB 206) 112 = .ok (.iaload, 1) := by decide +kernel
theorem d206_113 : decode (zB 206) 113 = .ok (.iaload, 1) := by decide +kernel
theorem d206_114 : decode (zB 206) 114 = .ok (.if_icmp .ge 21, 3) := by decide +kernel
theorem d206_117 : decode (zB 206) 117 = .ok (.aload_n 0, 1) := by decide +kernel
theorem d206_118 : decode (zB 206) 118 = .ok (.getfield 27, 3) := by decide +kernel
theorem d206_121 : decode (zB 206) 121 = .ok (.aload_n 0, 1) := by decide +kernel
theorem d206_122 : decode (zB 206) 122 = .ok (.getfield 39, 3) := by decide +kernel
theorem d206_125 : decode (zB 206) 125 = .ok (.iload_n 3, 1) := by decide +kernel
theorem d206_126 : decode (zB 206) 126 = .ok (.iaload, 1) := by decide +kernel
theorem d206_127 : decode (zB 206) 127 = .ok (.aaload, 1) := by decide +kernel
theorem d206_128 : decode (zB 206) 128 = .ok (.iload 6, 2) := by decide +kernel
theorem d206_130 : decode (zB 206) 130 = .ok (.iaload, 1) := by decide +kernel
theorem d206_131 : decode (zB 206) 131 = .ok (.iconst (-1), 1) := by decide +kernel
theorem d206_132 : decode (zB 206) 132 = .ok (.if_icmp .ne 6, 3) := by decide +kernel
theorem d206_135 : decode (zB 206) 135 = .ok (.bipush (-2), 2) := by decide +kernel
theorem d206_137 : decode (zB 206) 137 = .ok (.ireturn, 1) := by decide +kernel
theorem d206_138 : decode (zB 206) 138 = .ok (.aload_n 0, 1) := by decide +kernel
theorem d206_139 : decode (zB 206) 139 = .ok (.getfield 100, 3) := by decide +kernel
theorem d206_142 : decode (zB 206) 142 = .ok (.iload_n 1, 1) := by decide +kernel
theorem d206_143 : decode (zB 206) 143 = .ok (.iaload, 1) := by decide +kernel
theorem d206_144 : decode (zB 206) 144 = .ok (.ifCond .ge 6, 3) := by decide +kernel
theorem d206_147 : decode (zB 206) 147 = .ok (.bipush (-11), 2) := by decide +kernel
theorem d206_149 : decode (zB 206) 149 = .ok (.ireturn, 1) := by decide +kernel
theorem d206_150 : decode (zB 206) 150 = .ok (.aload_n 0, 1) := by decide +kernel
theorem d206_151 : decode (zB 206) 151 = .ok (.getfield 103, 3) := by decide +kernel
theorem d206_154 : decode (zB 206) 154 = .ok (.iload_n 1, 1) := by decide +kernel
theorem d206_155 : decode (zB 206) 155 = .ok (.iaload, 1) := by decide +kernel
theorem d206_156 : decode (zB 206) 156 = .ok (.bipush 20, 2) := by decide +kernel
theorem d206_158 : decode (zB 206) 158 = .ok (.if_icmp .le 6, 3) := by decide +kernel
theorem d206_161 : decode (zB 206) 161 = .ok (.bipush (-2), 2) := by decide +kernel
theorem d206_163 : decode (zB 206) 163 = .ok (.ireturn, 1) := by decide +kernel
theorem d206_164 : decode (zB 206) 164 = .ok (.iload 4, 2) := by decide +kernel
theorem d206_166 : decode (zB 206) 166 = .ok (.ifCond .ne 10, 3) := by decide +kernel
theorem d206_169 : decode (zB 206) 169 = .ok (.aload_n 0, 1) := by decide +kernel
theorem d206_170 : decode (zB 206) 170 = .ok (.iload_n 1, 1) := by decide +kernel
theorem d206_171 : decode (zB 206) 171 = .ok (.iload_n 2, 1) := by decide +kernel
theorem d206_172 : decode (zB 206) 172 = .ok (.invokevirtual 389, 3) := by decide +kernel
theorem d206_175 : decode (zB 206) 175 = .ok (.ireturn, 1) := by decide +kernel
theorem d206_176 : decode (zB 206) 176 = .ok (.iload 5, 2) := by decide +kernel
theorem d206_178 : decode (zB 206) 178 = .ok (.ifCond .eq 34, 3) := by decide +kernel
theorem d206_181 : decode (zB 206) 181 = .ok (.aload_n 0, 1) := by decide +kernel
theorem d206_182 : decode (zB 206) 182 = .ok (.iload_n 3, 1) := by decide +kernel
theorem d206_183 : decode (zB 206) 183 = .ok (.putfield 63, 3) := by decide +kernel
theorem d206_186 : decode (zB 206) 186 = .ok (.aload_n 0, 1) := by decide +kernel
theorem d206_187 : decode (zB 206) 187 = .ok (.iload 6, 2) := by decide +kernel
theorem d206_189 : decode (zB 206) 189 = .ok (.putfield 311, 3) := by decide +kernel
theorem d206_192 : decode (zB 206) 192 = .ok (.aload_n 0, 1) := by decide +kernel
theorem d206_193 : decode (zB 206) 193 = .ok (.iload_n 1, 1) := by decide +kernel
theorem d206_194 : decode (zB 206) 194 = .ok (.iload_n 2, 1) := by decide +kernel
theorem d206_195 : decode (zB 206) 195 = .ok (.iload 4, 2) := by decide +kernel
theorem d206_197 : decode (zB 206) 197 = .ok (.sipush 200, 3) := by decide +kernel
theorem d206_200 : decode (zB 206) 200 = .ok (.if_icmp .lt 7, 3) := by decide +kernel
theorem d206_203 : decode (zB 206) 203 = .ok (.iconst 1, 1) := by decide +kernel
theorem d206_204 : decode (zB 206) 204 = .ok (.goto 4, 3) := by decide +kernel
theorem d206_207 : decode (zB 206) 207 = .ok (.iconst 0, 1) := by decide +kernel
theorem d206_208 : decode (zB 206) 208 = .ok (.invokevirtual 395, 3) := by decide +kernel
theorem d206_211 : decode (zB 206) 211 = .ok (.ireturn, 1) := by decide +kernel
theorem d206_212 : decode (zB 206) 212 = .ok (.iconst 0, 1) := by decide +kernel
theorem d206_213 : decode (zB 206) 213 = .ok (.istore 7, 2) := by decide +kernel
theorem d206_215 : decode (zB 206) 215 = .ok (.iconst 0, 1) := by decide +kernel
theorem d206_216 : decode (zB 206) 216 = .ok (.istore 8, 2) := by decide +kernel
theorem d206_218 : decode (zB 206) 218 = .ok (.iload 8, 2) := by decide +kernel
theorem d206_220 : decode (zB 206) 220 = .ok (.bipush 6, 2) := by decide +kernel
theorem d206_222 : decode (zB 206) 222 = .ok (.if_icmp .ge 29, 3) := by decide +kernel
theorem d206_225 : decode (zB 206) 225 = .ok (.aload_n 0, 1) := by decide +kernel
theorem d206_226 : decode (zB 206) 226 = .ok (.iload_n 1, 1) := by decide +kernel
theorem d206_227 : decode (zB 206) 227 = .ok (.iload 8, 2) := by decide +kernel
theorem d206_229 : decode (zB 206) 229 = .ok (.invokevirtual 389, 3) := by decide +kernel
theorem d206_232 : decode (zB 206) 232 = .ok (.iconst (-1), 1) := by decide +kernel
theorem d206_233 : decode (zB 206) 233 = .ok (.if_icmp .ne 12, 3) := by decide +kernel
theorem d206_236 : decode (zB 206) 236 = .ok (.iload 7, 2) := by decide +kernel
theorem d206_238 : decode (zB 206) 238 = .ok (.iconst 1, 1) := by decide +kernel
theorem d206_239 : decode (zB 206) 239 = .ok (.iload 8, 2) := by decide +kernel
theorem d206_241 : decode (zB 206) 241 = .ok (.ishl, 1) := by decide +kernel
theorem d206_242 : decode (zB 206) 242 = .ok (.ior, 1) := by decide +kernel
theorem d206_243 : decode (zB 206) 243 = .ok (.istore 7, 2) := by decide +kernel
theorem d206_245 : decode (zB 206) 245 = .ok (.iinc 8 1, 3) := by decide +kernel
theorem d206_248 : decode (zB 206) 248 = .ok (.goto (-30), 3) := by decide +kernel
theorem d206_251 : decode (zB 206) 251 = .ok (.iload 7, 2) := by decide +kernel
theorem d206_253 : decode (zB 206) 253 = .ok (.ireturn, 1) := by decide +kernel
theorem l206 {d : Nat} {Q : Option Value → zM → Prop} {D : yD} {M0 : zM} {h κ : Nat} {v2 v3 v4 v5 v6 : Int32} (hκ : κ + 4000 < 2147483648) (hh : h < 4) (hz : (dR D h).2 ≤ 20) (k : ∀ v M', RX M' D κ → Fi FY M0 M' → Q (some (.int v)) M') : ∀ (r i : Nat) (M1 : zM) (z : Nat), i ≤ 6 → 6 < i + r →  RX M1 D κ → Fi FY M0 M1 → qW (zEv (d + 8)) 206 Q 218 [(8, .int (nI i)), (7, .int (nI z)), (6, .int v6), (5, .int v5), (0, .ref 136), (1, .int (nI h)), (2, .int v2), (3, .int v3), (4, .int v4)] [] M1 := by
  intro r
  induction r with
  | zero => intros; omega
  | succ r ih =>
    intro i M1 z h1 h2 hR hF
    refine q_iload d206_218 rfl ?_
    refine q_bipush (x := nI 6) d206_220 rfl ?_
    refine nc_ge 251 d206_222 (by decide) (by omega) (by omega) (fun h222 => ?_) (fun h222 => ?_)
    · refine q_iload d206_251 rfl ?_
      refine q_iret d206_253 rfl ?_
      exact k _ _ hR hF
    · refine q_aload_n d206_225 rfl ?_
      refine q_iload_n d206_226 rfl ?_
      refine q_iload d206_227 rfl ?_
      refine q_v2 d206_229 rfl rfl (xk_136 hR.1.1) (Nat.le_of_ble_eq_true rfl) (c208 hR.q hκ hh (by omega) hz (fun v9 M2 hR2 f2 => ?_))
      refine q_iconst (x := (-1)) d206_232 rfl ?_
      refine ic_ne 245 d206_233 (by decide) (fun h233 => ?_) (fun h233 => ?_)
      · refine n_iinc 1 d206_245 (by decide) rfl rfl ?_
        refine q_goto 218 d206_248 (by decide) ?_
        exact ih (i + 1) M2 _ (by omega) (by omega) hR2.x (hF.trans f2)
      · refine q_iload d206_236 rfl ?_
        refine q_iconstN (z := 1) d206_238 ?_
        refine q_iload d206_239 rfl ?_
        refine n_ishl1 d206_241 (by omega) ?_
        refine n_ior d206_242 ?_
        refine q_istore d206_243 (by decide) rfl ?_
        refine n_iinc 1 d206_245 (by decide) rfl rfl ?_
        refine q_goto 218 d206_248 (by decide) ?_
        exact ih (i + 1) M2 _ (by omega) (by omega) hR2.x (hF.trans f2)
theorem x206 {d : Nat} {M : zM} {Q : Option Value → zM → Prop} {D : yD} {κ : Nat} {x y z w : Int32} (hR : RX M D κ) (hD : OKD D) (hκ : κ + 4000 < 2147483648) (k : ∀ v M', RX M' D κ → Fi FY M M' → Q (some (.int v)) M') : qC (d + 9) 206 [.ref 136, .int x, .int y, .int z, .int w] M Q := by
  refine qC_of (by decide) (Nat.le_of_ble_eq_true rfl) ?_
  have hC := hR.1
  have hX := hC.1
  have hO : OKW (dT D) (dc D) (dW D) := hC.2.2.1
  have hc6 := hO.1.1
  have hL : XLo [] M (some (dL D)) := hC.2.2.2.2.2.2.1
  have hSa : ∀ s, s < 3 → XSa M s (dS D s) κ := hC.2.2.2.2.1
  have hTk := hC.k
  have hck := hC.2.2.2.2.2.1
  rcases zix_c x (n := 4) (by omega) with ⟨h, hh, rfl, eh⟩ | ⟨eh, nh⟩
  · have _u := eh
    rcases zix_c y (n := 6) (by omega) with ⟨a, ha, rfl, ea⟩ | ⟨ea, na⟩
    · have _u := ea
      rcases zix_c z (n := 3) (by omega) with ⟨s, hs, rfl, es⟩ | ⟨es, ns⟩
      · have _u := es
        have hOs : OKS (dT D) (dc D) (dS D s) := hO.2.2 s hs
        have hg5 := hOs.1
        have hsa := hSa s hs
        rcases zix_c w (n := 212) (by omega) with ⟨m, hm, rfl, ew⟩ | ⟨ew, nw⟩
        · by_cases q1 : 100 ≤ m ∧ m ≤ 111
          · refine q_iload d206_0 rfl ?_
            refine q_bipush (x := nI 100) d206_2 rfl ?_
            refine q_bipush (x := nI 111) d206_4 rfl ?_
            refine q_s3 d206_6 (Or.inl rfl) rfl (Nat.le_of_ble_eq_true rfl) (c131t ⟨by omega, by omega⟩ (by omega) ?_)
            refine n0_ne 26 d206_9 (by decide) (by decide) (fun _ => ?_) (fun q => absurd q (by decide))
            refine q_iconstN (z := 1) d206_26 ?_
            refine q_goto 31 d206_27 (by decide) ?_
            refine q_istore d206_31 (by decide) rfl ?_
            refine q_iload_n d206_33 rfl ?_
            refine q_s1 d206_34 (Or.inl rfl) rfl (Nat.le_of_ble_eq_true rfl) (c207t (by omega) ?_)
            refine n0_eq 69 d206_37 (by decide) (by decide) (fun q => absurd q (by decide)) (fun _ => ?_)
            refine q_iload_n d206_40 rfl ?_
            refine q_s1 d206_41 (Or.inl rfl) rfl (Nat.le_of_ble_eq_true rfl) (c189t (by omega) ?_)
            refine n0_eq 69 d206_44 (by decide) (by decide) (fun q => absurd q (by decide)) (fun _ => ?_)
            refine q_iload_n d206_47 rfl ?_
            refine q_s1 d206_48 (Or.inl rfl) rfl (Nat.le_of_ble_eq_true rfl) (c169t (by omega) ?_)
            refine n0_eq 69 d206_51 (by decide) (by decide) (fun q => absurd q (by decide)) (fun _ => ?_)
            refine q_iload d206_54 rfl ?_
            refine q_iconstN (z := 0) d206_56 ?_
            refine q_iconstN (z := 1) d206_57 ?_
            refine q_s3 d206_58 (Or.inl rfl) rfl (Nat.le_of_ble_eq_true rfl) (c131n (by omega) (by omega) (by omega) (by omega) ?_)
            refine n0_ne 72 d206_61 (by decide) (by decide) (fun q => absurd q (by decide)) (fun _ => ?_)
            refine q_iload d206_64 rfl ?_
            refine n0_ne 72 d206_66 (by decide) (by decide) (fun _ => ?_) (fun q => absurd q (by decide))
            refine q_iload d206_72 rfl ?_
            refine q_bipush (x := nI 100) d206_74 rfl ?_
            refine n_irem d206_76 (by omega) (by omega) (by omega) ?_
            refine q_istore d206_77 (by decide) rfl ?_
            refine q_iload d206_79 rfl ?_
            refine n0_eq 96 d206_81 (by decide) (by decide) (fun q => absurd q (by decide)) (fun _ => ?_)
            refine q_aload_n d206_84 rfl ?_
            refine q_getr (c := 8) (f := 11) d206_85 ⟨rfl, rfl⟩ (xk_136 hX) (xf_states hX) ?_
            refine q_iload_n d206_88 rfl ?_
            refine n_iald d206_89 (xk_states hX) (by omega) (by decide) (hSa _ (by omega)).1.1 ?_
            refine n0_ne 96 d206_90 (by decide) (by omega) (fun h90 => ?_) (fun h90 => ?_)
            · have h0 : gt (dS D s) ≠ 0 := h90
              have hx : gx (dS D s) < dc D := hOs.2.1 h0
              have hn := (hO.1.2 _ hx).n
              have hx1 : zi M 176 s = nI (gx (dS D s)) := hsa.1.2.trans (if_neg h0)
              refine q_iload d206_96 rfl ?_
              refine n0_eq 138 d206_98 (by decide) (by decide) (fun q => absurd q (by decide)) (fun _ => ?_)
              refine q_iload d206_101 rfl ?_
              refine q_aload_n d206_103 rfl ?_
              refine q_getr (c := 8) (f := 1) d206_104 ⟨rfl, rfl⟩ (xk_136 hX) (xf_stepMany hX) ?_
              refine q_aload_n d206_107 rfl ?_
              refine q_getr (c := 8) (f := 12) d206_108 ⟨rfl, rfl⟩ (xk_136 hX) (xf_textOf hX) ?_
              refine q_iload_n d206_111 rfl ?_
              refine n_iald d206_112 (xk_textOf hX) (by omega) (by decide) hx1 ?_
              refine n_iald d206_113 (xk_stepMany hX) (by omega) (by decide) (hTk.1 _ (by omega)).1 ?_
              refine nc_ge 135 d206_114 (by decide) (by omega) (by omega) (fun h114 => ?_) (fun h114 => ?_)
              · refine q_bipush (x := (-2)) d206_135 rfl ?_
                refine q_iret d206_137 rfl ?_
                exact k _ _ hR (Fi.refl _ _)
              · have hst : m % 100 < tn (dT D (gx (dS D s))) := by omega
                refine q_aload_n d206_117 rfl ?_
                refine q_getr (c := 8) (f := 6) d206_118 ⟨rfl, rfl⟩ (xk_136 hX) (xf_numbers hX) ?_
                refine q_aload_n d206_121 rfl ?_
                refine q_getr (c := 8) (f := 12) d206_122 ⟨rfl, rfl⟩ (xk_136 hX) (xf_textOf hX) ?_
                refine q_iload_n d206_125 rfl ?_
                refine n_iald d206_126 (xk_textOf hX) (by omega) (by decide) hx1 ?_
                refine n_aald d206_127 (xk_numbers hX) (by decide) (by omega) (by decide) (xr_numbers hX (by omega)) ?_
                refine q_iload d206_128 rfl ?_
                refine n_iald d206_130 (xa_numbers hX (by omega)) (by omega) (by decide) ((hTk.1 _ hx).2.2 _ hst).2.2.2.1 ?_
                refine q_iconst (x := (-1)) d206_131 rfl ?_
                refine ic_ne 138 d206_132 (by decide) (fun h132 => ?_) (fun h132 => ?_)
                · refine q_aload_n d206_138 rfl ?_
                  refine q_getr (c := 8) (f := 45) d206_139 ⟨rfl, rfl⟩ (xk_136 hX) (xf_sorts hX) ?_
                  refine q_iload_n d206_142 rfl ?_
                  refine n_iald d206_143 (xk_sorts hX) (by omega) (by decide) (hR.2.2.2.2 _ (by omega)).1 ?_
                  refine i0_ge 150 d206_144 (by decide) (fun h144 => ?_) (fun h144 => ?_)
                  · have hz40 := (hD.2.2.2.2 h hh).1
                    refine q_aload_n d206_150 rfl ?_
                    refine q_getr (c := 8) (f := 46) d206_151 ⟨rfl, rfl⟩ (xk_136 hX) (xf_lengths hX) ?_
                    refine q_iload_n d206_154 rfl ?_
                    refine n_iald d206_155 (xk_lengths hX) (by omega) (by decide) (hR.2.2.2.2 _ (by omega)).2 ?_
                    refine q_bipush (x := nI 20) d206_156 rfl ?_
                    refine nc_le 164 d206_158 (by decide) (by omega) (by omega) (fun h158 => ?_) (fun h158 => ?_)
                    · refine q_iload d206_164 rfl ?_
                      refine n0_ne 176 d206_166 (by decide) (by omega) (fun h166 => ?_) (fun h166 => (False.elim (by omega)))
                      refine q_iload d206_176 rfl ?_
                      refine n0_eq 212 d206_178 (by decide) (by decide) (fun q => absurd q (by decide)) (fun _ => ?_)
                      refine q_aload_n d206_181 rfl ?_
                      refine q_iload_n d206_182 rfl ?_
                      refine q_puti (c := 8) (f := 21) d206_183 ⟨rfl, rfl, by decide⟩ (xk_136 hX) ?_
                      refine q_aload_n d206_186 rfl ?_
                      refine q_iload d206_187 rfl ?_
                      refine q_puti (c := 8) (f := 22) d206_189 ⟨rfl, rfl, by decide⟩ (xk_136 hX) ?_
                      have fo : Fi (fun b k => b = 136 ∧ (k = 21 ∨ k = 22 ∨ k = 23)) M (zwi (zwi M 136 21 (nI s)) 136 22 (nI (m % 100))) := ((Fi.refl _ _).wi ⟨rfl, Or.inl rfl⟩).wi ⟨rfl, Or.inr (Or.inl rfl)⟩
                      have ho : RQ (zwi (zwi M 136 21 (nI s)) 136 22 (nI (m % 100))) D κ (some (s, m % 100, zi M 136 23)) := hR.q.to fo ⟨(wi_n (by omega)).trans (wi_s _ _ _ _), wi_s _ _ _ _, (wi_n (by omega)).trans (wi_n (by omega)), hs, (show m % 100 < 12 from by omega)⟩
                      refine q_aload_n d206_192 rfl ?_
                      refine q_iload_n d206_193 rfl ?_
                      refine q_iload_n d206_194 rfl ?_
                      refine q_iload d206_195 rfl ?_
                      refine q_sipush (x := nI 200) d206_197 rfl ?_
                      refine nc_lt 207 d206_200 (by decide) (by omega) (by omega) (fun h200 => ?_) (fun h200 => (False.elim (by omega)))
                      refine q_iconstN (z := 0) d206_207 ?_
                      refine q_v3 d206_208 rfl rfl (xk_136 ho.1.1) (Nat.le_of_ble_eq_true rfl) (c209 ho hκ hh ha hs (by omega) (by omega) (fun v9 M2 hR2 f2 => ?_))
                      refine q_iret d206_211 rfl ?_
                      exact k _ _ hR2 ((fo.mono (fun b k q => by unfold FY; omega)).trans f2)
                    · refine q_bipush (x := (-2)) d206_161 rfl ?_
                      refine q_iret d206_163 rfl ?_
                      exact k _ _ hR (Fi.refl _ _)
                  · refine q_bipush (x := (-11)) d206_147 rfl ?_
                    refine q_iret d206_149 rfl ?_
                    exact k _ _ hR (Fi.refl _ _)
                · refine q_bipush (x := (-2)) d206_135 rfl ?_
                  refine q_iret d206_137 rfl ?_
                  exact k _ _ hR (Fi.refl _ _)
            · refine q_bipush (x := (-3)) d206_93 rfl ?_
              refine q_iret d206_95 rfl ?_
              exact k _ _ hR (Fi.refl _ _)
          · by_cases q2 : 200 ≤ m ∧ m ≤ 211
            · refine q_iload d206_0 rfl ?_
              refine q_bipush (x := nI 100) d206_2 rfl ?_
              refine q_bipush (x := nI 111) d206_4 rfl ?_
              refine q_s3 d206_6 (Or.inl rfl) rfl (Nat.le_of_ble_eq_true rfl) (c131n (by omega) (by omega) (by omega) (by omega) ?_)
              refine n0_ne 26 d206_9 (by decide) (by decide) (fun q => absurd q (by decide)) (fun _ => ?_)
              refine q_iload d206_12 rfl ?_
              refine q_sipush (x := nI 200) d206_14 rfl ?_
              refine q_sipush (x := nI 211) d206_17 rfl ?_
              refine q_s3 d206_20 (Or.inl rfl) rfl (Nat.le_of_ble_eq_true rfl) (c131t ⟨by omega, by omega⟩ (by omega) ?_)
              refine n0_eq 30 d206_23 (by decide) (by decide) (fun q => absurd q (by decide)) (fun _ => ?_)
              refine q_iconstN (z := 1) d206_26 ?_
              refine q_goto 31 d206_27 (by decide) ?_
              refine q_istore d206_31 (by decide) rfl ?_
              refine q_iload_n d206_33 rfl ?_
              refine q_s1 d206_34 (Or.inl rfl) rfl (Nat.le_of_ble_eq_true rfl) (c207t (by omega) ?_)
              refine n0_eq 69 d206_37 (by decide) (by decide) (fun q => absurd q (by decide)) (fun _ => ?_)
              refine q_iload_n d206_40 rfl ?_
              refine q_s1 d206_41 (Or.inl rfl) rfl (Nat.le_of_ble_eq_true rfl) (c189t (by omega) ?_)
              refine n0_eq 69 d206_44 (by decide) (by decide) (fun q => absurd q (by decide)) (fun _ => ?_)
              refine q_iload_n d206_47 rfl ?_
              refine q_s1 d206_48 (Or.inl rfl) rfl (Nat.le_of_ble_eq_true rfl) (c169t (by omega) ?_)
              refine n0_eq 69 d206_51 (by decide) (by decide) (fun q => absurd q (by decide)) (fun _ => ?_)
              refine q_iload d206_54 rfl ?_
              refine q_iconstN (z := 0) d206_56 ?_
              refine q_iconstN (z := 1) d206_57 ?_
              refine q_s3 d206_58 (Or.inl rfl) rfl (Nat.le_of_ble_eq_true rfl) (c131n (by omega) (by omega) (by omega) (by omega) ?_)
              refine n0_ne 72 d206_61 (by decide) (by decide) (fun q => absurd q (by decide)) (fun _ => ?_)
              refine q_iload d206_64 rfl ?_
              refine n0_ne 72 d206_66 (by decide) (by decide) (fun _ => ?_) (fun q => absurd q (by decide))
              refine q_iload d206_72 rfl ?_
              refine q_bipush (x := nI 100) d206_74 rfl ?_
              refine n_irem d206_76 (by omega) (by omega) (by omega) ?_
              refine q_istore d206_77 (by decide) rfl ?_
              refine q_iload d206_79 rfl ?_
              refine n0_eq 96 d206_81 (by decide) (by decide) (fun q => absurd q (by decide)) (fun _ => ?_)
              refine q_aload_n d206_84 rfl ?_
              refine q_getr (c := 8) (f := 11) d206_85 ⟨rfl, rfl⟩ (xk_136 hX) (xf_states hX) ?_
              refine q_iload_n d206_88 rfl ?_
              refine n_iald d206_89 (xk_states hX) (by omega) (by decide) (hSa _ (by omega)).1.1 ?_
              refine n0_ne 96 d206_90 (by decide) (by omega) (fun h90 => ?_) (fun h90 => ?_)
              · have h0 : gt (dS D s) ≠ 0 := h90
                have hx : gx (dS D s) < dc D := hOs.2.1 h0
                have hn := (hO.1.2 _ hx).n
                have hx1 : zi M 176 s = nI (gx (dS D s)) := hsa.1.2.trans (if_neg h0)
                refine q_iload d206_96 rfl ?_
                refine n0_eq 138 d206_98 (by decide) (by decide) (fun q => absurd q (by decide)) (fun _ => ?_)
                refine q_iload d206_101 rfl ?_
                refine q_aload_n d206_103 rfl ?_
                refine q_getr (c := 8) (f := 1) d206_104 ⟨rfl, rfl⟩ (xk_136 hX) (xf_stepMany hX) ?_
                refine q_aload_n d206_107 rfl ?_
                refine q_getr (c := 8) (f := 12) d206_108 ⟨rfl, rfl⟩ (xk_136 hX) (xf_textOf hX) ?_
                refine q_iload_n d206_111 rfl ?_
                refine n_iald d206_112 (xk_textOf hX) (by omega) (by decide) hx1 ?_
                refine n_iald d206_113 (xk_stepMany hX) (by omega) (by decide) (hTk.1 _ (by omega)).1 ?_
                refine nc_ge 135 d206_114 (by decide) (by omega) (by omega) (fun h114 => ?_) (fun h114 => ?_)
                · refine q_bipush (x := (-2)) d206_135 rfl ?_
                  refine q_iret d206_137 rfl ?_
                  exact k _ _ hR (Fi.refl _ _)
                · have hst : m % 100 < tn (dT D (gx (dS D s))) := by omega
                  refine q_aload_n d206_117 rfl ?_
                  refine q_getr (c := 8) (f := 6) d206_118 ⟨rfl, rfl⟩ (xk_136 hX) (xf_numbers hX) ?_
                  refine q_aload_n d206_121 rfl ?_
                  refine q_getr (c := 8) (f := 12) d206_122 ⟨rfl, rfl⟩ (xk_136 hX) (xf_textOf hX) ?_
                  refine q_iload_n d206_125 rfl ?_
                  refine n_iald d206_126 (xk_textOf hX) (by omega) (by decide) hx1 ?_
                  refine n_aald d206_127 (xk_numbers hX) (by decide) (by omega) (by decide) (xr_numbers hX (by omega)) ?_
                  refine q_iload d206_128 rfl ?_
                  refine n_iald d206_130 (xa_numbers hX (by omega)) (by omega) (by decide) ((hTk.1 _ hx).2.2 _ hst).2.2.2.1 ?_
                  refine q_iconst (x := (-1)) d206_131 rfl ?_
                  refine ic_ne 138 d206_132 (by decide) (fun h132 => ?_) (fun h132 => ?_)
                  · refine q_aload_n d206_138 rfl ?_
                    refine q_getr (c := 8) (f := 45) d206_139 ⟨rfl, rfl⟩ (xk_136 hX) (xf_sorts hX) ?_
                    refine q_iload_n d206_142 rfl ?_
                    refine n_iald d206_143 (xk_sorts hX) (by omega) (by decide) (hR.2.2.2.2 _ (by omega)).1 ?_
                    refine i0_ge 150 d206_144 (by decide) (fun h144 => ?_) (fun h144 => ?_)
                    · have hz40 := (hD.2.2.2.2 h hh).1
                      refine q_aload_n d206_150 rfl ?_
                      refine q_getr (c := 8) (f := 46) d206_151 ⟨rfl, rfl⟩ (xk_136 hX) (xf_lengths hX) ?_
                      refine q_iload_n d206_154 rfl ?_
                      refine n_iald d206_155 (xk_lengths hX) (by omega) (by decide) (hR.2.2.2.2 _ (by omega)).2 ?_
                      refine q_bipush (x := nI 20) d206_156 rfl ?_
                      refine nc_le 164 d206_158 (by decide) (by omega) (by omega) (fun h158 => ?_) (fun h158 => ?_)
                      · refine q_iload d206_164 rfl ?_
                        refine n0_ne 176 d206_166 (by decide) (by omega) (fun h166 => ?_) (fun h166 => (False.elim (by omega)))
                        refine q_iload d206_176 rfl ?_
                        refine n0_eq 212 d206_178 (by decide) (by decide) (fun q => absurd q (by decide)) (fun _ => ?_)
                        refine q_aload_n d206_181 rfl ?_
                        refine q_iload_n d206_182 rfl ?_
                        refine q_puti (c := 8) (f := 21) d206_183 ⟨rfl, rfl, by decide⟩ (xk_136 hX) ?_
                        refine q_aload_n d206_186 rfl ?_
                        refine q_iload d206_187 rfl ?_
                        refine q_puti (c := 8) (f := 22) d206_189 ⟨rfl, rfl, by decide⟩ (xk_136 hX) ?_
                        have fo : Fi (fun b k => b = 136 ∧ (k = 21 ∨ k = 22 ∨ k = 23)) M (zwi (zwi M 136 21 (nI s)) 136 22 (nI (m % 100))) := ((Fi.refl _ _).wi ⟨rfl, Or.inl rfl⟩).wi ⟨rfl, Or.inr (Or.inl rfl)⟩
                        have ho : RQ (zwi (zwi M 136 21 (nI s)) 136 22 (nI (m % 100))) D κ (some (s, m % 100, zi M 136 23)) := hR.q.to fo ⟨(wi_n (by omega)).trans (wi_s _ _ _ _), wi_s _ _ _ _, (wi_n (by omega)).trans (wi_n (by omega)), hs, (show m % 100 < 12 from by omega)⟩
                        refine q_aload_n d206_192 rfl ?_
                        refine q_iload_n d206_193 rfl ?_
                        refine q_iload_n d206_194 rfl ?_
                        refine q_iload d206_195 rfl ?_
                        refine q_sipush (x := nI 200) d206_197 rfl ?_
                        refine nc_lt 207 d206_200 (by decide) (by omega) (by omega) (fun h200 => (False.elim (by omega))) (fun h200 => ?_)
                        refine q_iconstN (z := 1) d206_203 ?_
                        refine q_goto 208 d206_204 (by decide) ?_
                        refine q_v3 d206_208 rfl rfl (xk_136 ho.1.1) (Nat.le_of_ble_eq_true rfl) (c209 ho hκ hh ha hs (by omega) (by omega) (fun v9 M2 hR2 f2 => ?_))
                        refine q_iret d206_211 rfl ?_
                        exact k _ _ hR2 ((fo.mono (fun b k q => by unfold FY; omega)).trans f2)
                      · refine q_bipush (x := (-2)) d206_161 rfl ?_
                        refine q_iret d206_163 rfl ?_
                        exact k _ _ hR (Fi.refl _ _)
                    · refine q_bipush (x := (-11)) d206_147 rfl ?_
                      refine q_iret d206_149 rfl ?_
                      exact k _ _ hR (Fi.refl _ _)
                  · refine q_bipush (x := (-2)) d206_135 rfl ?_
                    refine q_iret d206_137 rfl ?_
                    exact k _ _ hR (Fi.refl _ _)
              · refine q_bipush (x := (-3)) d206_93 rfl ?_
                refine q_iret d206_95 rfl ?_
                exact k _ _ hR (Fi.refl _ _)
            · by_cases q3 : m ≤ 1
              · refine q_iload d206_0 rfl ?_
                refine q_bipush (x := nI 100) d206_2 rfl ?_
                refine q_bipush (x := nI 111) d206_4 rfl ?_
                refine q_s3 d206_6 (Or.inl rfl) rfl (Nat.le_of_ble_eq_true rfl) (c131n (by omega) (by omega) (by omega) (by omega) ?_)
                refine n0_ne 26 d206_9 (by decide) (by decide) (fun q => absurd q (by decide)) (fun _ => ?_)
                refine q_iload d206_12 rfl ?_
                refine q_sipush (x := nI 200) d206_14 rfl ?_
                refine q_sipush (x := nI 211) d206_17 rfl ?_
                refine q_s3 d206_20 (Or.inl rfl) rfl (Nat.le_of_ble_eq_true rfl) (c131n (by omega) (by omega) (by omega) (by omega) ?_)
                refine n0_eq 30 d206_23 (by decide) (by decide) (fun _ => ?_) (fun q => absurd q (by decide))
                refine q_iconstN (z := 0) d206_30 ?_
                refine q_istore d206_31 (by decide) rfl ?_
                refine q_iload_n d206_33 rfl ?_
                refine q_s1 d206_34 (Or.inl rfl) rfl (Nat.le_of_ble_eq_true rfl) (c207t (by omega) ?_)
                refine n0_eq 69 d206_37 (by decide) (by decide) (fun q => absurd q (by decide)) (fun _ => ?_)
                refine q_iload_n d206_40 rfl ?_
                refine q_s1 d206_41 (Or.inl rfl) rfl (Nat.le_of_ble_eq_true rfl) (c189t (by omega) ?_)
                refine n0_eq 69 d206_44 (by decide) (by decide) (fun q => absurd q (by decide)) (fun _ => ?_)
                refine q_iload_n d206_47 rfl ?_
                refine q_s1 d206_48 (Or.inl rfl) rfl (Nat.le_of_ble_eq_true rfl) (c169t (by omega) ?_)
                refine n0_eq 69 d206_51 (by decide) (by decide) (fun q => absurd q (by decide)) (fun _ => ?_)
                refine q_iload d206_54 rfl ?_
                refine q_iconstN (z := 0) d206_56 ?_
                refine q_iconstN (z := 1) d206_57 ?_
                refine q_s3 d206_58 (Or.inl rfl) rfl (Nat.le_of_ble_eq_true rfl) (c131t ⟨by omega, by omega⟩ (by omega) ?_)
                refine n0_ne 72 d206_61 (by decide) (by decide) (fun _ => ?_) (fun q => absurd q (by decide))
                refine q_iload d206_72 rfl ?_
                refine q_bipush (x := nI 100) d206_74 rfl ?_
                refine n_irem d206_76 (by omega) (by omega) (by omega) ?_
                refine q_istore d206_77 (by decide) rfl ?_
                refine q_iload d206_79 rfl ?_
                refine n0_eq 96 d206_81 (by decide) (by decide) (fun _ => ?_) (fun q => absurd q (by decide))
                refine q_iload d206_96 rfl ?_
                refine n0_eq 138 d206_98 (by decide) (by decide) (fun _ => ?_) (fun q => absurd q (by decide))
                refine q_aload_n d206_138 rfl ?_
                refine q_getr (c := 8) (f := 45) d206_139 ⟨rfl, rfl⟩ (xk_136 hX) (xf_sorts hX) ?_
                refine q_iload_n d206_142 rfl ?_
                refine n_iald d206_143 (xk_sorts hX) (by omega) (by decide) (hR.2.2.2.2 _ (by omega)).1 ?_
                refine i0_ge 150 d206_144 (by decide) (fun h144 => ?_) (fun h144 => ?_)
                · have hz40 := (hD.2.2.2.2 h hh).1
                  refine q_aload_n d206_150 rfl ?_
                  refine q_getr (c := 8) (f := 46) d206_151 ⟨rfl, rfl⟩ (xk_136 hX) (xf_lengths hX) ?_
                  refine q_iload_n d206_154 rfl ?_
                  refine n_iald d206_155 (xk_lengths hX) (by omega) (by decide) (hR.2.2.2.2 _ (by omega)).2 ?_
                  refine q_bipush (x := nI 20) d206_156 rfl ?_
                  refine nc_le 164 d206_158 (by decide) (by omega) (by omega) (fun h158 => ?_) (fun h158 => ?_)
                  · refine q_iload d206_164 rfl ?_
                    refine n0_ne 176 d206_166 (by decide) (by omega) (fun h166 => ?_) (fun h166 => ?_)
                    · refine q_iload d206_176 rfl ?_
                      refine n0_eq 212 d206_178 (by decide) (by decide) (fun _ => ?_) (fun q => absurd q (by decide))
                      refine q_iconstN (z := 0) d206_212 ?_
                      refine q_istore d206_213 (by decide) rfl ?_
                      refine q_iconstN (z := 0) d206_215 ?_
                      refine q_istore d206_216 (by decide) rfl ?_
                      exact l206 hκ hh (by omega) k 7 0 M _ (by omega) (by omega) hR (Fi.refl _ _)
                    · refine q_aload_n d206_169 rfl ?_
                      refine q_iload_n d206_170 rfl ?_
                      refine q_iload_n d206_171 rfl ?_
                      refine q_v2 d206_172 rfl rfl (xk_136 hX) (Nat.le_of_ble_eq_true rfl) (c208 hR.q hκ hh ha (by omega) (fun v9 M2 hR2 f2 => ?_))
                      refine q_iret d206_175 rfl ?_
                      exact k _ _ hR2.x f2
                  · refine q_bipush (x := (-2)) d206_161 rfl ?_
                    refine q_iret d206_163 rfl ?_
                    exact k _ _ hR (Fi.refl _ _)
                · refine q_bipush (x := (-11)) d206_147 rfl ?_
                  refine q_iret d206_149 rfl ?_
                  exact k _ _ hR (Fi.refl _ _)
              · refine q_iload d206_0 rfl ?_
                refine q_bipush (x := nI 100) d206_2 rfl ?_
                refine q_bipush (x := nI 111) d206_4 rfl ?_
                refine q_s3 d206_6 (Or.inl rfl) rfl (Nat.le_of_ble_eq_true rfl) (c131n (by omega) (by omega) (by omega) (by omega) ?_)
                refine n0_ne 26 d206_9 (by decide) (by decide) (fun q => absurd q (by decide)) (fun _ => ?_)
                refine q_iload d206_12 rfl ?_
                refine q_sipush (x := nI 200) d206_14 rfl ?_
                refine q_sipush (x := nI 211) d206_17 rfl ?_
                refine q_s3 d206_20 (Or.inl rfl) rfl (Nat.le_of_ble_eq_true rfl) (c131n (by omega) (by omega) (by omega) (by omega) ?_)
                refine n0_eq 30 d206_23 (by decide) (by decide) (fun _ => ?_) (fun q => absurd q (by decide))
                refine q_iconstN (z := 0) d206_30 ?_
                refine q_istore d206_31 (by decide) rfl ?_
                refine q_iload_n d206_33 rfl ?_
                refine q_s1 d206_34 (Or.inl rfl) rfl (Nat.le_of_ble_eq_true rfl) (c207t (by omega) ?_)
                refine n0_eq 69 d206_37 (by decide) (by decide) (fun q => absurd q (by decide)) (fun _ => ?_)
                refine q_iload_n d206_40 rfl ?_
                refine q_s1 d206_41 (Or.inl rfl) rfl (Nat.le_of_ble_eq_true rfl) (c189t (by omega) ?_)
                refine n0_eq 69 d206_44 (by decide) (by decide) (fun q => absurd q (by decide)) (fun _ => ?_)
                refine q_iload_n d206_47 rfl ?_
                refine q_s1 d206_48 (Or.inl rfl) rfl (Nat.le_of_ble_eq_true rfl) (c169t (by omega) ?_)
                refine n0_eq 69 d206_51 (by decide) (by decide) (fun q => absurd q (by decide)) (fun _ => ?_)
                refine q_iload d206_54 rfl ?_
                refine q_iconstN (z := 0) d206_56 ?_
                refine q_iconstN (z := 1) d206_57 ?_
                refine q_s3 d206_58 (Or.inl rfl) rfl (Nat.le_of_ble_eq_true rfl) (c131n (by omega) (by omega) (by omega) (by omega) ?_)
                refine n0_ne 72 d206_61 (by decide) (by decide) (fun q => absurd q (by decide)) (fun _ => ?_)
                refine q_iload d206_64 rfl ?_
                refine n0_ne 72 d206_66 (by decide) (by decide) (fun q => absurd q (by decide)) (fun _ => ?_)
                refine q_bipush (x := (-2)) d206_69 rfl ?_
                refine q_iret d206_71 rfl ?_
                exact k _ _ hR (Fi.refl _ _)
        · refine q_iload d206_0 rfl ?_
          refine q_bipush (x := nI 100) d206_2 rfl ?_
          refine q_bipush (x := nI 111) d206_4 rfl ?_
          refine q_s3 d206_6 (Or.inl rfl) rfl (Nat.le_of_ble_eq_true rfl) (c131f (by decide) (by have := zix_none ew; omega) (by decide) ?_)
          refine n0_ne 26 d206_9 (by decide) (by decide) (fun q => absurd q (by decide)) (fun _ => ?_)
          refine q_iload d206_12 rfl ?_
          refine q_sipush (x := nI 200) d206_14 rfl ?_
          refine q_sipush (x := nI 211) d206_17 rfl ?_
          refine q_s3 d206_20 (Or.inl rfl) rfl (Nat.le_of_ble_eq_true rfl) (c131f (by decide) (by have := zix_none ew; omega) (by decide) ?_)
          refine n0_eq 30 d206_23 (by decide) (by decide) (fun _ => ?_) (fun q => absurd q (by decide))
          refine q_iconstN (z := 0) d206_30 ?_
          refine q_istore d206_31 (by decide) rfl ?_
          refine q_iload_n d206_33 rfl ?_
          refine q_s1 d206_34 (Or.inl rfl) rfl (Nat.le_of_ble_eq_true rfl) (c207t (by omega) ?_)
          refine n0_eq 69 d206_37 (by decide) (by decide) (fun q => absurd q (by decide)) (fun _ => ?_)
          refine q_iload_n d206_40 rfl ?_
          refine q_s1 d206_41 (Or.inl rfl) rfl (Nat.le_of_ble_eq_true rfl) (c189t (by omega) ?_)
          refine n0_eq 69 d206_44 (by decide) (by decide) (fun q => absurd q (by decide)) (fun _ => ?_)
          refine q_iload_n d206_47 rfl ?_
          refine q_s1 d206_48 (Or.inl rfl) rfl (Nat.le_of_ble_eq_true rfl) (c169t (by omega) ?_)
          refine n0_eq 69 d206_51 (by decide) (by decide) (fun q => absurd q (by decide)) (fun _ => ?_)
          refine q_iload d206_54 rfl ?_
          refine q_iconstN (z := 0) d206_56 ?_
          refine q_iconstN (z := 1) d206_57 ?_
          refine q_s3 d206_58 (Or.inl rfl) rfl (Nat.le_of_ble_eq_true rfl) (c131f (by decide) (by have := zix_none ew; omega) (by decide) ?_)
          refine n0_ne 72 d206_61 (by decide) (by decide) (fun q => absurd q (by decide)) (fun _ => ?_)
          refine q_iload d206_64 rfl ?_
          refine n0_ne 72 d206_66 (by decide) (by decide) (fun q => absurd q (by decide)) (fun _ => ?_)
          refine q_bipush (x := (-2)) d206_69 rfl ?_
          refine q_iret d206_71 rfl ?_
          exact k _ _ hR (Fi.refl _ _)
      · have _u := es
        rcases zix_c w (n := 212) (by omega) with ⟨m, hm, rfl, ew⟩ | ⟨ew, nw⟩
        · by_cases q1 : 100 ≤ m ∧ m ≤ 111
          · refine q_iload d206_0 rfl ?_
            refine q_bipush (x := nI 100) d206_2 rfl ?_
            refine q_bipush (x := nI 111) d206_4 rfl ?_
            refine q_s3 d206_6 (Or.inl rfl) rfl (Nat.le_of_ble_eq_true rfl) (c131t ⟨by omega, by omega⟩ (by omega) ?_)
            refine n0_ne 26 d206_9 (by decide) (by decide) (fun _ => ?_) (fun q => absurd q (by decide))
            refine q_iconstN (z := 1) d206_26 ?_
            refine q_goto 31 d206_27 (by decide) ?_
            refine q_istore d206_31 (by decide) rfl ?_
            refine q_iload_n d206_33 rfl ?_
            refine q_s1 d206_34 (Or.inl rfl) rfl (Nat.le_of_ble_eq_true rfl) (c207t (by omega) ?_)
            refine n0_eq 69 d206_37 (by decide) (by decide) (fun q => absurd q (by decide)) (fun _ => ?_)
            refine q_iload_n d206_40 rfl ?_
            refine q_s1 d206_41 (Or.inl rfl) rfl (Nat.le_of_ble_eq_true rfl) (c189t (by omega) ?_)
            refine n0_eq 69 d206_44 (by decide) (by decide) (fun q => absurd q (by decide)) (fun _ => ?_)
            refine q_iload_n d206_47 rfl ?_
            refine q_s1 d206_48 (Or.inl rfl) rfl (Nat.le_of_ble_eq_true rfl) (c169f es ?_)
            refine n0_eq 69 d206_51 (by decide) (by decide) (fun _ => ?_) (fun q => absurd q (by decide))
            refine q_bipush (x := (-2)) d206_69 rfl ?_
            refine q_iret d206_71 rfl ?_
            exact k _ _ hR (Fi.refl _ _)
          · by_cases q2 : 200 ≤ m ∧ m ≤ 211
            · refine q_iload d206_0 rfl ?_
              refine q_bipush (x := nI 100) d206_2 rfl ?_
              refine q_bipush (x := nI 111) d206_4 rfl ?_
              refine q_s3 d206_6 (Or.inl rfl) rfl (Nat.le_of_ble_eq_true rfl) (c131n (by omega) (by omega) (by omega) (by omega) ?_)
              refine n0_ne 26 d206_9 (by decide) (by decide) (fun q => absurd q (by decide)) (fun _ => ?_)
              refine q_iload d206_12 rfl ?_
              refine q_sipush (x := nI 200) d206_14 rfl ?_
              refine q_sipush (x := nI 211) d206_17 rfl ?_
              refine q_s3 d206_20 (Or.inl rfl) rfl (Nat.le_of_ble_eq_true rfl) (c131t ⟨by omega, by omega⟩ (by omega) ?_)
              refine n0_eq 30 d206_23 (by decide) (by decide) (fun q => absurd q (by decide)) (fun _ => ?_)
              refine q_iconstN (z := 1) d206_26 ?_
              refine q_goto 31 d206_27 (by decide) ?_
              refine q_istore d206_31 (by decide) rfl ?_
              refine q_iload_n d206_33 rfl ?_
              refine q_s1 d206_34 (Or.inl rfl) rfl (Nat.le_of_ble_eq_true rfl) (c207t (by omega) ?_)
              refine n0_eq 69 d206_37 (by decide) (by decide) (fun q => absurd q (by decide)) (fun _ => ?_)
              refine q_iload_n d206_40 rfl ?_
              refine q_s1 d206_41 (Or.inl rfl) rfl (Nat.le_of_ble_eq_true rfl) (c189t (by omega) ?_)
              refine n0_eq 69 d206_44 (by decide) (by decide) (fun q => absurd q (by decide)) (fun _ => ?_)
              refine q_iload_n d206_47 rfl ?_
              refine q_s1 d206_48 (Or.inl rfl) rfl (Nat.le_of_ble_eq_true rfl) (c169f es ?_)
              refine n0_eq 69 d206_51 (by decide) (by decide) (fun _ => ?_) (fun q => absurd q (by decide))
              refine q_bipush (x := (-2)) d206_69 rfl ?_
              refine q_iret d206_71 rfl ?_
              exact k _ _ hR (Fi.refl _ _)
            · by_cases q3 : m ≤ 1
              · refine q_iload d206_0 rfl ?_
                refine q_bipush (x := nI 100) d206_2 rfl ?_
                refine q_bipush (x := nI 111) d206_4 rfl ?_
                refine q_s3 d206_6 (Or.inl rfl) rfl (Nat.le_of_ble_eq_true rfl) (c131n (by omega) (by omega) (by omega) (by omega) ?_)
                refine n0_ne 26 d206_9 (by decide) (by decide) (fun q => absurd q (by decide)) (fun _ => ?_)
                refine q_iload d206_12 rfl ?_
                refine q_sipush (x := nI 200) d206_14 rfl ?_
                refine q_sipush (x := nI 211) d206_17 rfl ?_
                refine q_s3 d206_20 (Or.inl rfl) rfl (Nat.le_of_ble_eq_true rfl) (c131n (by omega) (by omega) (by omega) (by omega) ?_)
                refine n0_eq 30 d206_23 (by decide) (by decide) (fun _ => ?_) (fun q => absurd q (by decide))
                refine q_iconstN (z := 0) d206_30 ?_
                refine q_istore d206_31 (by decide) rfl ?_
                refine q_iload_n d206_33 rfl ?_
                refine q_s1 d206_34 (Or.inl rfl) rfl (Nat.le_of_ble_eq_true rfl) (c207t (by omega) ?_)
                refine n0_eq 69 d206_37 (by decide) (by decide) (fun q => absurd q (by decide)) (fun _ => ?_)
                refine q_iload_n d206_40 rfl ?_
                refine q_s1 d206_41 (Or.inl rfl) rfl (Nat.le_of_ble_eq_true rfl) (c189t (by omega) ?_)
                refine n0_eq 69 d206_44 (by decide) (by decide) (fun q => absurd q (by decide)) (fun _ => ?_)
                refine q_iload_n d206_47 rfl ?_
                refine q_s1 d206_48 (Or.inl rfl) rfl (Nat.le_of_ble_eq_true rfl) (c169f es ?_)
                refine n0_eq 69 d206_51 (by decide) (by decide) (fun _ => ?_) (fun q => absurd q (by decide))
                refine q_bipush (x := (-2)) d206_69 rfl ?_
                refine q_iret d206_71 rfl ?_
                exact k _ _ hR (Fi.refl _ _)
              · refine q_iload d206_0 rfl ?_
                refine q_bipush (x := nI 100) d206_2 rfl ?_
                refine q_bipush (x := nI 111) d206_4 rfl ?_
                refine q_s3 d206_6 (Or.inl rfl) rfl (Nat.le_of_ble_eq_true rfl) (c131n (by omega) (by omega) (by omega) (by omega) ?_)
                refine n0_ne 26 d206_9 (by decide) (by decide) (fun q => absurd q (by decide)) (fun _ => ?_)
                refine q_iload d206_12 rfl ?_
                refine q_sipush (x := nI 200) d206_14 rfl ?_
                refine q_sipush (x := nI 211) d206_17 rfl ?_
                refine q_s3 d206_20 (Or.inl rfl) rfl (Nat.le_of_ble_eq_true rfl) (c131n (by omega) (by omega) (by omega) (by omega) ?_)
                refine n0_eq 30 d206_23 (by decide) (by decide) (fun _ => ?_) (fun q => absurd q (by decide))
                refine q_iconstN (z := 0) d206_30 ?_
                refine q_istore d206_31 (by decide) rfl ?_
                refine q_iload_n d206_33 rfl ?_
                refine q_s1 d206_34 (Or.inl rfl) rfl (Nat.le_of_ble_eq_true rfl) (c207t (by omega) ?_)
                refine n0_eq 69 d206_37 (by decide) (by decide) (fun q => absurd q (by decide)) (fun _ => ?_)
                refine q_iload_n d206_40 rfl ?_
                refine q_s1 d206_41 (Or.inl rfl) rfl (Nat.le_of_ble_eq_true rfl) (c189t (by omega) ?_)
                refine n0_eq 69 d206_44 (by decide) (by decide) (fun q => absurd q (by decide)) (fun _ => ?_)
                refine q_iload_n d206_47 rfl ?_
                refine q_s1 d206_48 (Or.inl rfl) rfl (Nat.le_of_ble_eq_true rfl) (c169f es ?_)
                refine n0_eq 69 d206_51 (by decide) (by decide) (fun _ => ?_) (fun q => absurd q (by decide))
                refine q_bipush (x := (-2)) d206_69 rfl ?_
                refine q_iret d206_71 rfl ?_
                exact k _ _ hR (Fi.refl _ _)
        · refine q_iload d206_0 rfl ?_
          refine q_bipush (x := nI 100) d206_2 rfl ?_
          refine q_bipush (x := nI 111) d206_4 rfl ?_
          refine q_s3 d206_6 (Or.inl rfl) rfl (Nat.le_of_ble_eq_true rfl) (c131f (by decide) (by have := zix_none ew; omega) (by decide) ?_)
          refine n0_ne 26 d206_9 (by decide) (by decide) (fun q => absurd q (by decide)) (fun _ => ?_)
          refine q_iload d206_12 rfl ?_
          refine q_sipush (x := nI 200) d206_14 rfl ?_
          refine q_sipush (x := nI 211) d206_17 rfl ?_
          refine q_s3 d206_20 (Or.inl rfl) rfl (Nat.le_of_ble_eq_true rfl) (c131f (by decide) (by have := zix_none ew; omega) (by decide) ?_)
          refine n0_eq 30 d206_23 (by decide) (by decide) (fun _ => ?_) (fun q => absurd q (by decide))
          refine q_iconstN (z := 0) d206_30 ?_
          refine q_istore d206_31 (by decide) rfl ?_
          refine q_iload_n d206_33 rfl ?_
          refine q_s1 d206_34 (Or.inl rfl) rfl (Nat.le_of_ble_eq_true rfl) (c207t (by omega) ?_)
          refine n0_eq 69 d206_37 (by decide) (by decide) (fun q => absurd q (by decide)) (fun _ => ?_)
          refine q_iload_n d206_40 rfl ?_
          refine q_s1 d206_41 (Or.inl rfl) rfl (Nat.le_of_ble_eq_true rfl) (c189t (by omega) ?_)
          refine n0_eq 69 d206_44 (by decide) (by decide) (fun q => absurd q (by decide)) (fun _ => ?_)
          refine q_iload_n d206_47 rfl ?_
          refine q_s1 d206_48 (Or.inl rfl) rfl (Nat.le_of_ble_eq_true rfl) (c169f es ?_)
          refine n0_eq 69 d206_51 (by decide) (by decide) (fun _ => ?_) (fun q => absurd q (by decide))
          refine q_bipush (x := (-2)) d206_69 rfl ?_
          refine q_iret d206_71 rfl ?_
          exact k _ _ hR (Fi.refl _ _)
    · have _u := ea
      rcases zix_c w (n := 212) (by omega) with ⟨m, hm, rfl, ew⟩ | ⟨ew, nw⟩
      · by_cases q1 : 100 ≤ m ∧ m ≤ 111
        · refine q_iload d206_0 rfl ?_
          refine q_bipush (x := nI 100) d206_2 rfl ?_
          refine q_bipush (x := nI 111) d206_4 rfl ?_
          refine q_s3 d206_6 (Or.inl rfl) rfl (Nat.le_of_ble_eq_true rfl) (c131t ⟨by omega, by omega⟩ (by omega) ?_)
          refine n0_ne 26 d206_9 (by decide) (by decide) (fun _ => ?_) (fun q => absurd q (by decide))
          refine q_iconstN (z := 1) d206_26 ?_
          refine q_goto 31 d206_27 (by decide) ?_
          refine q_istore d206_31 (by decide) rfl ?_
          refine q_iload_n d206_33 rfl ?_
          refine q_s1 d206_34 (Or.inl rfl) rfl (Nat.le_of_ble_eq_true rfl) (c207t (by omega) ?_)
          refine n0_eq 69 d206_37 (by decide) (by decide) (fun q => absurd q (by decide)) (fun _ => ?_)
          refine q_iload_n d206_40 rfl ?_
          refine q_s1 d206_41 (Or.inl rfl) rfl (Nat.le_of_ble_eq_true rfl) (c189f ea ?_)
          refine n0_eq 69 d206_44 (by decide) (by decide) (fun _ => ?_) (fun q => absurd q (by decide))
          refine q_bipush (x := (-2)) d206_69 rfl ?_
          refine q_iret d206_71 rfl ?_
          exact k _ _ hR (Fi.refl _ _)
        · by_cases q2 : 200 ≤ m ∧ m ≤ 211
          · refine q_iload d206_0 rfl ?_
            refine q_bipush (x := nI 100) d206_2 rfl ?_
            refine q_bipush (x := nI 111) d206_4 rfl ?_
            refine q_s3 d206_6 (Or.inl rfl) rfl (Nat.le_of_ble_eq_true rfl) (c131n (by omega) (by omega) (by omega) (by omega) ?_)
            refine n0_ne 26 d206_9 (by decide) (by decide) (fun q => absurd q (by decide)) (fun _ => ?_)
            refine q_iload d206_12 rfl ?_
            refine q_sipush (x := nI 200) d206_14 rfl ?_
            refine q_sipush (x := nI 211) d206_17 rfl ?_
            refine q_s3 d206_20 (Or.inl rfl) rfl (Nat.le_of_ble_eq_true rfl) (c131t ⟨by omega, by omega⟩ (by omega) ?_)
            refine n0_eq 30 d206_23 (by decide) (by decide) (fun q => absurd q (by decide)) (fun _ => ?_)
            refine q_iconstN (z := 1) d206_26 ?_
            refine q_goto 31 d206_27 (by decide) ?_
            refine q_istore d206_31 (by decide) rfl ?_
            refine q_iload_n d206_33 rfl ?_
            refine q_s1 d206_34 (Or.inl rfl) rfl (Nat.le_of_ble_eq_true rfl) (c207t (by omega) ?_)
            refine n0_eq 69 d206_37 (by decide) (by decide) (fun q => absurd q (by decide)) (fun _ => ?_)
            refine q_iload_n d206_40 rfl ?_
            refine q_s1 d206_41 (Or.inl rfl) rfl (Nat.le_of_ble_eq_true rfl) (c189f ea ?_)
            refine n0_eq 69 d206_44 (by decide) (by decide) (fun _ => ?_) (fun q => absurd q (by decide))
            refine q_bipush (x := (-2)) d206_69 rfl ?_
            refine q_iret d206_71 rfl ?_
            exact k _ _ hR (Fi.refl _ _)
          · by_cases q3 : m ≤ 1
            · refine q_iload d206_0 rfl ?_
              refine q_bipush (x := nI 100) d206_2 rfl ?_
              refine q_bipush (x := nI 111) d206_4 rfl ?_
              refine q_s3 d206_6 (Or.inl rfl) rfl (Nat.le_of_ble_eq_true rfl) (c131n (by omega) (by omega) (by omega) (by omega) ?_)
              refine n0_ne 26 d206_9 (by decide) (by decide) (fun q => absurd q (by decide)) (fun _ => ?_)
              refine q_iload d206_12 rfl ?_
              refine q_sipush (x := nI 200) d206_14 rfl ?_
              refine q_sipush (x := nI 211) d206_17 rfl ?_
              refine q_s3 d206_20 (Or.inl rfl) rfl (Nat.le_of_ble_eq_true rfl) (c131n (by omega) (by omega) (by omega) (by omega) ?_)
              refine n0_eq 30 d206_23 (by decide) (by decide) (fun _ => ?_) (fun q => absurd q (by decide))
              refine q_iconstN (z := 0) d206_30 ?_
              refine q_istore d206_31 (by decide) rfl ?_
              refine q_iload_n d206_33 rfl ?_
              refine q_s1 d206_34 (Or.inl rfl) rfl (Nat.le_of_ble_eq_true rfl) (c207t (by omega) ?_)
              refine n0_eq 69 d206_37 (by decide) (by decide) (fun q => absurd q (by decide)) (fun _ => ?_)
              refine q_iload_n d206_40 rfl ?_
              refine q_s1 d206_41 (Or.inl rfl) rfl (Nat.le_of_ble_eq_true rfl) (c189f ea ?_)
              refine n0_eq 69 d206_44 (by decide) (by decide) (fun _ => ?_) (fun q => absurd q (by decide))
              refine q_bipush (x := (-2)) d206_69 rfl ?_
              refine q_iret d206_71 rfl ?_
              exact k _ _ hR (Fi.refl _ _)
            · refine q_iload d206_0 rfl ?_
              refine q_bipush (x := nI 100) d206_2 rfl ?_
              refine q_bipush (x := nI 111) d206_4 rfl ?_
              refine q_s3 d206_6 (Or.inl rfl) rfl (Nat.le_of_ble_eq_true rfl) (c131n (by omega) (by omega) (by omega) (by omega) ?_)
              refine n0_ne 26 d206_9 (by decide) (by decide) (fun q => absurd q (by decide)) (fun _ => ?_)
              refine q_iload d206_12 rfl ?_
              refine q_sipush (x := nI 200) d206_14 rfl ?_
              refine q_sipush (x := nI 211) d206_17 rfl ?_
              refine q_s3 d206_20 (Or.inl rfl) rfl (Nat.le_of_ble_eq_true rfl) (c131n (by omega) (by omega) (by omega) (by omega) ?_)
              refine n0_eq 30 d206_23 (by decide) (by decide) (fun _ => ?_) (fun q => absurd q (by decide))
              refine q_iconstN (z := 0) d206_30 ?_
              refine q_istore d206_31 (by decide) rfl ?_
              refine q_iload_n d206_33 rfl ?_
              refine q_s1 d206_34 (Or.inl rfl) rfl (Nat.le_of_ble_eq_true rfl) (c207t (by omega) ?_)
              refine n0_eq 69 d206_37 (by decide) (by decide) (fun q => absurd q (by decide)) (fun _ => ?_)
              refine q_iload_n d206_40 rfl ?_
              refine q_s1 d206_41 (Or.inl rfl) rfl (Nat.le_of_ble_eq_true rfl) (c189f ea ?_)
              refine n0_eq 69 d206_44 (by decide) (by decide) (fun _ => ?_) (fun q => absurd q (by decide))
              refine q_bipush (x := (-2)) d206_69 rfl ?_
              refine q_iret d206_71 rfl ?_
              exact k _ _ hR (Fi.refl _ _)
      · refine q_iload d206_0 rfl ?_
        refine q_bipush (x := nI 100) d206_2 rfl ?_
        refine q_bipush (x := nI 111) d206_4 rfl ?_
        refine q_s3 d206_6 (Or.inl rfl) rfl (Nat.le_of_ble_eq_true rfl) (c131f (by decide) (by have := zix_none ew; omega) (by decide) ?_)
        refine n0_ne 26 d206_9 (by decide) (by decide) (fun q => absurd q (by decide)) (fun _ => ?_)
        refine q_iload d206_12 rfl ?_
        refine q_sipush (x := nI 200) d206_14 rfl ?_
        refine q_sipush (x := nI 211) d206_17 rfl ?_
        refine q_s3 d206_20 (Or.inl rfl) rfl (Nat.le_of_ble_eq_true rfl) (c131f (by decide) (by have := zix_none ew; omega) (by decide) ?_)
        refine n0_eq 30 d206_23 (by decide) (by decide) (fun _ => ?_) (fun q => absurd q (by decide))
        refine q_iconstN (z := 0) d206_30 ?_
        refine q_istore d206_31 (by decide) rfl ?_
        refine q_iload_n d206_33 rfl ?_
        refine q_s1 d206_34 (Or.inl rfl) rfl (Nat.le_of_ble_eq_true rfl) (c207t (by omega) ?_)
        refine n0_eq 69 d206_37 (by decide) (by decide) (fun q => absurd q (by decide)) (fun _ => ?_)
        refine q_iload_n d206_40 rfl ?_
        refine q_s1 d206_41 (Or.inl rfl) rfl (Nat.le_of_ble_eq_true rfl) (c189f ea ?_)
        refine n0_eq 69 d206_44 (by decide) (by decide) (fun _ => ?_) (fun q => absurd q (by decide))
        refine q_bipush (x := (-2)) d206_69 rfl ?_
        refine q_iret d206_71 rfl ?_
        exact k _ _ hR (Fi.refl _ _)
  · have _u := eh
    rcases zix_c w (n := 212) (by omega) with ⟨m, hm, rfl, ew⟩ | ⟨ew, nw⟩
    · by_cases q1 : 100 ≤ m ∧ m ≤ 111
      · refine q_iload d206_0 rfl ?_
        refine q_bipush (x := nI 100) d206_2 rfl ?_
        refine q_bipush (x := nI 111) d206_4 rfl ?_
        refine q_s3 d206_6 (Or.inl rfl) rfl (Nat.le_of_ble_eq_true rfl) (c131t ⟨by omega, by omega⟩ (by omega) ?_)
        refine n0_ne 26 d206_9 (by decide) (by decide) (fun _ => ?_) (fun q => absurd q (by decide))
        refine q_iconstN (z := 1) d206_26 ?_
        refine q_goto 31 d206_27 (by decide) ?_
        refine q_istore d206_31 (by decide) rfl ?_
        refine q_iload_n d206_33 rfl ?_
        refine q_s1 d206_34 (Or.inl rfl) rfl (Nat.le_of_ble_eq_true rfl) (c207f eh ?_)
        refine n0_eq 69 d206_37 (by decide) (by decide) (fun _ => ?_) (fun q => absurd q (by decide))
        refine q_bipush (x := (-2)) d206_69 rfl ?_
        refine q_iret d206_71 rfl ?_
        exact k _ _ hR (Fi.refl _ _)
      · by_cases q2 : 200 ≤ m ∧ m ≤ 211
        · refine q_iload d206_0 rfl ?_
          refine q_bipush (x := nI 100) d206_2 rfl ?_
          refine q_bipush (x := nI 111) d206_4 rfl ?_
          refine q_s3 d206_6 (Or.inl rfl) rfl (Nat.le_of_ble_eq_true rfl) (c131n (by omega) (by omega) (by omega) (by omega) ?_)
          refine n0_ne 26 d206_9 (by decide) (by decide) (fun q => absurd q (by decide)) (fun _ => ?_)
          refine q_iload d206_12 rfl ?_
          refine q_sipush (x := nI 200) d206_14 rfl ?_
          refine q_sipush (x := nI 211) d206_17 rfl ?_
          refine q_s3 d206_20 (Or.inl rfl) rfl (Nat.le_of_ble_eq_true rfl) (c131t ⟨by omega, by omega⟩ (by omega) ?_)
          refine n0_eq 30 d206_23 (by decide) (by decide) (fun q => absurd q (by decide)) (fun _ => ?_)
          refine q_iconstN (z := 1) d206_26 ?_
          refine q_goto 31 d206_27 (by decide) ?_
          refine q_istore d206_31 (by decide) rfl ?_
          refine q_iload_n d206_33 rfl ?_
          refine q_s1 d206_34 (Or.inl rfl) rfl (Nat.le_of_ble_eq_true rfl) (c207f eh ?_)
          refine n0_eq 69 d206_37 (by decide) (by decide) (fun _ => ?_) (fun q => absurd q (by decide))
          refine q_bipush (x := (-2)) d206_69 rfl ?_
          refine q_iret d206_71 rfl ?_
          exact k _ _ hR (Fi.refl _ _)
        · by_cases q3 : m ≤ 1
          · refine q_iload d206_0 rfl ?_
            refine q_bipush (x := nI 100) d206_2 rfl ?_
            refine q_bipush (x := nI 111) d206_4 rfl ?_
            refine q_s3 d206_6 (Or.inl rfl) rfl (Nat.le_of_ble_eq_true rfl) (c131n (by omega) (by omega) (by omega) (by omega) ?_)
            refine n0_ne 26 d206_9 (by decide) (by decide) (fun q => absurd q (by decide)) (fun _ => ?_)
            refine q_iload d206_12 rfl ?_
            refine q_sipush (x := nI 200) d206_14 rfl ?_
            refine q_sipush (x := nI 211) d206_17 rfl ?_
            refine q_s3 d206_20 (Or.inl rfl) rfl (Nat.le_of_ble_eq_true rfl) (c131n (by omega) (by omega) (by omega) (by omega) ?_)
            refine n0_eq 30 d206_23 (by decide) (by decide) (fun _ => ?_) (fun q => absurd q (by decide))
            refine q_iconstN (z := 0) d206_30 ?_
            refine q_istore d206_31 (by decide) rfl ?_
            refine q_iload_n d206_33 rfl ?_
            refine q_s1 d206_34 (Or.inl rfl) rfl (Nat.le_of_ble_eq_true rfl) (c207f eh ?_)
            refine n0_eq 69 d206_37 (by decide) (by decide) (fun _ => ?_) (fun q => absurd q (by decide))
            refine q_bipush (x := (-2)) d206_69 rfl ?_
            refine q_iret d206_71 rfl ?_
            exact k _ _ hR (Fi.refl _ _)
          · refine q_iload d206_0 rfl ?_
            refine q_bipush (x := nI 100) d206_2 rfl ?_
            refine q_bipush (x := nI 111) d206_4 rfl ?_
            refine q_s3 d206_6 (Or.inl rfl) rfl (Nat.le_of_ble_eq_true rfl) (c131n (by omega) (by omega) (by omega) (by omega) ?_)
            refine n0_ne 26 d206_9 (by decide) (by decide) (fun q => absurd q (by decide)) (fun _ => ?_)
            refine q_iload d206_12 rfl ?_
            refine q_sipush (x := nI 200) d206_14 rfl ?_
            refine q_sipush (x := nI 211) d206_17 rfl ?_
            refine q_s3 d206_20 (Or.inl rfl) rfl (Nat.le_of_ble_eq_true rfl) (c131n (by omega) (by omega) (by omega) (by omega) ?_)
            refine n0_eq 30 d206_23 (by decide) (by decide) (fun _ => ?_) (fun q => absurd q (by decide))
            refine q_iconstN (z := 0) d206_30 ?_
            refine q_istore d206_31 (by decide) rfl ?_
            refine q_iload_n d206_33 rfl ?_
            refine q_s1 d206_34 (Or.inl rfl) rfl (Nat.le_of_ble_eq_true rfl) (c207f eh ?_)
            refine n0_eq 69 d206_37 (by decide) (by decide) (fun _ => ?_) (fun q => absurd q (by decide))
            refine q_bipush (x := (-2)) d206_69 rfl ?_
            refine q_iret d206_71 rfl ?_
            exact k _ _ hR (Fi.refl _ _)
    · refine q_iload d206_0 rfl ?_
      refine q_bipush (x := nI 100) d206_2 rfl ?_
      refine q_bipush (x := nI 111) d206_4 rfl ?_
      refine q_s3 d206_6 (Or.inl rfl) rfl (Nat.le_of_ble_eq_true rfl) (c131f (by decide) (by have := zix_none ew; omega) (by decide) ?_)
      refine n0_ne 26 d206_9 (by decide) (by decide) (fun q => absurd q (by decide)) (fun _ => ?_)
      refine q_iload d206_12 rfl ?_
      refine q_sipush (x := nI 200) d206_14 rfl ?_
      refine q_sipush (x := nI 211) d206_17 rfl ?_
      refine q_s3 d206_20 (Or.inl rfl) rfl (Nat.le_of_ble_eq_true rfl) (c131f (by decide) (by have := zix_none ew; omega) (by decide) ?_)
      refine n0_eq 30 d206_23 (by decide) (by decide) (fun _ => ?_) (fun q => absurd q (by decide))
      refine q_iconstN (z := 0) d206_30 ?_
      refine q_istore d206_31 (by decide) rfl ?_
      refine q_iload_n d206_33 rfl ?_
      refine q_s1 d206_34 (Or.inl rfl) rfl (Nat.le_of_ble_eq_true rfl) (c207f eh ?_)
      refine n0_eq 69 d206_37 (by decide) (by decide) (fun _ => ?_) (fun q => absurd q (by decide))
      refine q_bipush (x := (-2)) d206_69 rfl ?_
      refine q_iret d206_71 rfl ?_
      exact k _ _ hR (Fi.refl _ _)
