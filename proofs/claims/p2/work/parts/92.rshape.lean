/-! ===== the reference: shape, orders ===== -/
theorem d152_0 : decode (zB 152) 0 = .ok (.iconst 0, 1) := by decide +kernel
theorem d152_1 : decode (zB 152) 1 = .ok (.istore_n 2, 1) := by decide +kernel
theorem d152_2 : decode (zB 152) 2 = .ok (.iconst 0, 1) := by decide +kernel
theorem d152_3 : decode (zB 152) 3 = .ok (.istore_n 3, 1) := by decide +kernel
theorem d152_4 : decode (zB 152) 4 = .ok (.iload_n 3, 1) := by decide +kernel
theorem d152_5 : decode (zB 152) 5 = .ok (.iconst 1, 1) := by decide +kernel
theorem d152_6 : decode (zB 152) 6 = .ok (.aload_n 0, 1) := by decide +kernel
theorem d152_7 : decode (zB 152) 7 = .ok (.getfield 9, 3) := by decide +kernel
theorem d152_10 : decode (zB 152) 10 = .ok (.iload_n 1, 1) := by decide +kernel
theorem d152_11 : decode (zB 152) 11 = .ok (.iaload, 1) := by decide +kernel
theorem d152_12 : decode (zB 152) 12 = .ok (.ishl, 1) := by decide +kernel
theorem d152_13 : decode (zB 152) 13 = .ok (.if_icmp .ge 30, 3) := by decide +kernel
theorem d152_16 : decode (zB 152) 16 = .ok (.aload_n 0, 1) := by decide +kernel
theorem d152_17 : decode (zB 152) 17 = .ok (.iload_n 1, 1) := by decide +kernel
theorem d152_18 : decode (zB 152) 18 = .ok (.iload_n 3, 1) := by decide +kernel
theorem d152_19 : decode (zB 152) 19 = .ok (.invokevirtual 236, 3) := by decide +kernel
theorem d152_22 : decode (zB 152) 22 = .ok (.ifCond .eq 15, 3) := by decide +kernel
theorem d152_25 : decode (zB 152) 25 = .ok (.aload_n 0, 1) := by decide +kernel
theorem d152_26 : decode (zB 152) 26 = .ok (.iload_n 1, 1) := by decide +kernel
theorem d152_27 : decode (zB 152) 27 = .ok (.iload_n 3, 1) := by decide +kernel
theorem d152_28 : decode (zB 152) 28 = .ok (.invokevirtual 240, 3) := by decide +kernel
theorem d152_31 : decode (zB 152) 31 = .ok (.ifCond .eq 6, 3) := by decide +kernel
theorem d152_34 : decode (zB 152) 34 = .ok (.iinc 2 1, 3) := by decide +kernel
theorem d152_37 : decode (zB 152) 37 = .ok (.iinc 3 1, 3) := by decide +kernel
theorem d152_40 : decode (zB 152) 40 = .ok (.goto (-36), 3) := by decide +kernel
theorem d152_43 : decode (zB 152) 43 = .ok (.iload_n 2, 1) := by decide +kernel
theorem d152_44 : decode (zB 152) 44 = .ok (.ireturn, 1) := by decide +kernel
theorem l152 {d : Nat} {Q : Option Value → zM → Prop} {T : yT} {P : yP} {M0 : zM} {t : Nat} (hX0 : SX M0) (hT0 : XT1 M0 t T) (ho : OKT T) (ht : t < 6) (hP : XPu M0 P) (hO : OKP P) (k : ∀ v M', KB M0 M' → Fi FW9 M0 M' → Q (some (.int v)) M') : ∀ (r s : Nat) (M1 : zM) (v2 : Int32), s ≤ 2 ^ tn T → 2 ^ tn T < s + r →  KB M0 M1 → Fi FW9 M0 M1 → qW (zEv (d + 4)) 152 Q 4 [(0, .ref 136), (1, .int (nI t)), (2, .int v2), (3, .int (nI s))] [] M1 := by
  intro r
  induction r with
  | zero => intros; omega
  | succ r ih =>
    intro s M1 v2 h1 h2 hK hF
    have hn := ho.n
    have hp12 : 2 ^ tn T ≤ 2 ^ 12 := Nat.pow_le_pow_right (by omega) hn
    have hX := SX_fi hX0 hF
    have hT := XT1_fi hT0 ht hF (fun b k b1 b2 q => by unfold FW9 at q; omega)
    refine q_iload_n d152_4 rfl ?_
    refine q_iconstN (z := 1) d152_5 ?_
    refine q_aload_n d152_6 rfl ?_
    refine q_getr (c := 8) (f := 1) d152_7 ⟨rfl, rfl⟩ (xk_136 hX) (xf_stepMany hX) ?_
    refine q_iload_n d152_10 rfl ?_
    refine n_iald d152_11 (xk_stepMany hX) (by omega) (by decide) hT.1 ?_
    refine n_ishl1 d152_12 (by omega) ?_
    refine nc_ge 43 d152_13 (by decide) (by omega) (by omega) (fun h13 => ?_) (fun h13 => ?_)
    · refine q_iload_n d152_43 rfl ?_
      refine q_iret d152_44 rfl ?_
      exact k _ _ hK hF
    · refine q_aload_n d152_16 rfl ?_
      refine q_iload_n d152_17 rfl ?_
      refine q_iload_n d152_18 rfl ?_
      refine q_v2 d152_19 rfl rfl (xk_136 hX) (Nat.le_of_ble_eq_true rfl) (c153 hX hT ho ht (by omega) (fun v8 => ?_))
      refine i0_eq 37 d152_22 (by decide) (fun h22 => ?_) (fun h22 => ?_)
      · refine n_iinc 1 d152_37 (by decide) rfl rfl ?_
        refine q_goto 4 d152_40 (by decide) ?_
        refine qW_srt rfl rfl ?_
        first
        | exact ih (s + 1) _ _ (by omega) (by omega) hK hF
        | exact ih (s + 1) _ _ (by omega) (by omega) (hK.tr hK2) (hF.trans f2)
      · refine q_aload_n d152_25 rfl ?_
        refine q_iload_n d152_26 rfl ?_
        refine q_iload_n d152_27 rfl ?_
        refine q_v2 d152_28 rfl rfl (xk_136 hX) (Nat.le_of_ble_eq_true rfl) (c154 hX hT ho ht (by omega) (hP.kb hK) hO (fun v9 M2 hv9 hK2 f2 => ?_))
        refine i0_eq 37 d152_31 (by decide) (fun h31 => ?_) (fun h31 => ?_)
        · refine n_iinc 1 d152_37 (by decide) rfl rfl ?_
          refine q_goto 4 d152_40 (by decide) ?_
          refine qW_srt rfl rfl ?_
          first
          | exact ih (s + 1) _ _ (by omega) (by omega) hK hF
          | exact ih (s + 1) _ _ (by omega) (by omega) (hK.tr hK2) (hF.trans f2)
        · refine q_iinc d152_34 (by decide) rfl rfl rfl ?_
          refine n_iinc 1 d152_37 (by decide) rfl rfl ?_
          refine q_goto 4 d152_40 (by decide) ?_
          refine qW_srt rfl rfl ?_
          first
          | exact ih (s + 1) _ _ (by omega) (by omega) hK hF
          | exact ih (s + 1) _ _ (by omega) (by omega) (hK.tr hK2) (hF.trans f2)
theorem c152 {d : Nat} {M : zM} {Q : Option Value → zM → Prop} {T : yT} {P : yP} {t : Nat} (hX : SX M) (hT : XT1 M t T) (ho : OKT T) (ht : t < 6) (hP : XPu M P) (hO : OKP P) (k : ∀ v M', KB M M' → Fi FW9 M M' → Q (some (.int v)) M') : qC (d + 5) 152 [.ref 136, .int (nI t)] M Q := by
  refine qC_of (by decide) (Nat.le_of_ble_eq_true rfl) ?_
  have hn := ho.n
  refine q_iconstN (z := 0) d152_0 ?_
  refine q_istore_n d152_1 (by decide) rfl ?_
  refine q_iconstN (z := 0) d152_2 ?_
  refine q_istore_n d152_3 (by decide) rfl ?_
  refine qW_srt rfl rfl ?_
  exact l152 hX hT ho ht hP hO k (2 ^ tn T + 1) 0 _ _ (Nat.zero_le _) (by omega) (KB.rf _) (Fi.refl _ _)
/-- cells below 327 are the same -/
def FG2 (M M' : zM) : Prop := (∀ a k, a < 136 → zi M' a k = zi M a k) ∧ zr M' = zr M ∧ (∀ a, a ≠ 209 → zl M' a = zl M a) ∧ (∀ a, a < 327 → zk M' a = zk M a) ∧ zn M ≤ zn M' ∧ zn M' ≤ zn M + 1 ∧ zs M' ≤ zs M + 12
theorem FG2.fy {M M' : zM} (f : Fi FY M M') : FG2 M M' := ⟨fun a k q => f.1 a k (by unfold FY; omega), f.2.1, fun a _ => congrFun f.2.2.1 a, fun a _ => congrFun f.2.2.2.1 a, by rw [f.2.2.2.2.1]; omega, by rw [f.2.2.2.2.1]; omega, by rw [f.2.2.2.2.2]; omega⟩
theorem FG2.fc {M M' : zM} (f : FC M M') (h : 327 ≤ zn M) : FG2 M M' := ⟨fun a k q => f.1 a k (by omega), f.2.1, fun a _ => congrFun f.2.2.1 a, fun a q => f.2.2.2.1 a (by omega), by rw [f.2.2.2.2.1]; omega, by rw [f.2.2.2.2.1]; omega, by rw [f.2.2.2.2.2]; omega⟩
theorem RX.ag {M M' : zM} {D : yD} {κ : Nat} (h : RX M D κ) (h1 : ∀ a k, a < 327 → zi M' a k = zi M a k) (h2 : zr M' = zr M) (h3 : ∀ a, a < 327 → zk M' a = zk M a) : RX M' D κ := by
  have g : RX (M'.1, M.2) D κ := h.items (M' := (M'.1, M.2)) ⟨fun a k q => h1 a k (by omega), rfl, rfl, rfl, rfl, rfl⟩
  have hX : SX M' := SX_of h.1.1 h3 (fun a f _ _ => by rw [h2])
  obtain ⟨⟨a1, a2, a3, a4, a5, a6, a7, a8⟩, b2, b3, b4, b5⟩ := g
  exact ⟨⟨hX, a2, a3, a4, a5, a6, a7, a8⟩, b2, b3, b4, b5⟩
theorem RX.fc {M M' : zM} {D : yD} {κ : Nat} (h : RX M D κ) (f : FC M M') (h3 : 327 ≤ zn M) : RX M' D κ := h.ag (fun a k q => f.1 a k (by omega)) f.2.1 (fun a q => f.2.2.2.1 a (by omega))
theorem RX.kb9 {M M' : zM} {D : yD} {κ : Nat} (h : RX M D κ) (hK : KB M M') (f : Fi FW9 M M') : RX M' D κ :=
  h.back (f.mono (fun b k q => FW9_Z q)) hK ((f.1 _ _ (by unfold FW9; omega)).trans h.2.1) (h.1.2.2.2.2.2.2.1.fi f (fun b k q => by unfold GL at q; unfold FW9; omega))
theorem d144_0 : decode (zB 144) 0 = .ok (.aload_n 0, 1) := by decide +kernel
theorem d144_1 : decode (zB 144) 1 = .ok (.iload_n 1, 1) := by decide +kernel
theorem d144_2 : decode (zB 144) 2 = .ok (.invokevirtual 243, 3) := by decide +kernel
theorem d144_5 : decode (zB 144) 5 = .ok (.ifCond .eq 12, 3) := by decide +kernel
theorem d144_8 : decode (zB 144) 8 = .ok (.iload_n 2, 1) := by decide +kernel
theorem d144_9 : decode (zB 144) 9 = .ok (.iconst 0, 1) := by decide +kernel
theorem d144_10 : decode (zB 144) 10 = .ok (.iconst 5, 1) := by decide +kernel
theorem d144_11 : decode (zB 144) 11 = .ok (.invokestatic 112, 3) := by decide +kernel
theorem d144_14 : decode (zB 144) 14 = .ok (.ifCond .ne 6, 3) := by decide +kernel
theorem d144_17 : decode (zB 144) 17 = .ok (.bipush (-2), 2) := by decide +kernel
theorem d144_19 : decode (zB 144) 19 = .ok (.ireturn, 1) := by decide +kernel
theorem d144_20 : decode (zB 144) 20 = .ok (.iload_n 2, 1) := by decide +kernel
theorem d144_21 : decode (zB 144) 21 = .ok (.tableswitch 67 0 4 #[35, 42, 48, 54, 60], 35) := by decide +kernel
theorem d144_56 : decode (zB 144) 56 = .ok (.aload_n 0, 1) := by decide +kernel
theorem d144_57 : decode (zB 144) 57 = .ok (.getfield 9, 3) := by decide +kernel
theorem d144_60 : decode (zB 144) 60 = .ok (.iload_n 1, 1) := by decide +kernel
theorem d144_61 : decode (zB 144) 61 = .ok (.iaload, 1) := by decide +kernel
theorem d144_62 : decode (zB 144) 62 = .ok (.ireturn, 1) := by decide +kernel
theorem d144_63 : decode (zB 144) 63 = .ok (.aload_n 0, 1) := by decide +kernel
theorem d144_64 : decode (zB 144) 64 = .ok (.iload_n 1, 1) := by decide +kernel
theorem d144_65 : decode (zB 144) 65 = .ok (.invokevirtual 246, 3) := by decide +kernel
theorem d144_68 : decode (zB 144) 68 = .ok (.ireturn, 1) := by decide +kernel
theorem d144_69 : decode (zB 144) 69 = .ok (.aload_n 0, 1) := by decide +kernel
theorem d144_70 : decode (zB 144) 70 = .ok (.iload_n 1, 1) := by decide +kernel
theorem d144_71 : decode (zB 144) 71 = .ok (.invokevirtual 249, 3) := by decide +kernel
theorem d144_74 : decode (zB 144) 74 = .ok (.ireturn, 1) := by decide +kernel
theorem d144_75 : decode (zB 144) 75 = .ok (.aload_n 0, 1) := by decide +kernel
theorem d144_76 : decode (zB 144) 76 = .ok (.iload_n 1, 1) := by decide +kernel
theorem d144_77 : decode (zB 144) 77 = .ok (.invokevirtual 252, 3) := by decide +kernel
theorem d144_80 : decode (zB 144) 80 = .ok (.ireturn, 1) := by decide +kernel
theorem d144_81 : decode (zB 144) 81 = .ok (.aload_n 0, 1) := by decide +kernel
theorem d144_82 : decode (zB 144) 82 = .ok (.getfield 13, 3) := by decide +kernel
theorem d144_85 : decode (zB 144) 85 = .ok (.iload_n 1, 1) := by decide +kernel
theorem d144_86 : decode (zB 144) 86 = .ok (.iaload, 1) := by decide +kernel
theorem d144_87 : decode (zB 144) 87 = .ok (.ireturn, 1) := by decide +kernel
theorem d144_88 : decode (zB 144) 88 = .ok (.aload_n 0, 1) := by decide +kernel
theorem d144_89 : decode (zB 144) 89 = .ok (.iload_n 1, 1) := by decide +kernel
theorem d144_90 : decode (zB 144) 90 = .ok (.invokevirtual 255, 3) := by decide +kernel
theorem d144_93 : decode (zB 144) 93 = .ok (.ireturn, 1) := by decide +kernel
theorem x144 {d : Nat} {M : zM} {Q : Option Value → zM → Prop} {D : yD} {κ : Nat} {x y : Int32} (hR : RX M D κ) (h327 : 327 ≤ zn M) (k : ∀ v M', RX M' D κ → FG2 M M' → Q (some (.int v)) M') : qC (d + 6) 144 [.ref 136, .int x, .int y] M Q := by
  refine qC_of (by decide) (Nat.le_of_ble_eq_true rfl) ?_
  have hC := hR.1
  have hX := hC.1
  have hO : OKW (dT D) (dc D) (dW D) := hC.2.2.1
  have hc6 := hO.1.1
  have hL : XLo [] M (some (dL D)) := hC.2.2.2.2.2.2.1
  have hSa : ∀ s, s < 3 → XSa M s (dS D s) κ := hC.2.2.2.2.1
  have hTk := hC.k
  have hck := hC.2.2.2.2.2.1
  rcases zix_c x (n := dc D) (by omega) with ⟨t, ht, rfl, et⟩ | ⟨et, nt⟩
  · have _u := et
    have ho := hO.1.2 _ ht
    have hn := ho.n
    rcases zix_c y (n := 6) (by omega) with ⟨w, hw, rfl, ew⟩ | ⟨ew, nw⟩
    · have _u := ew
      rcases (show w = 0 ∨ w = 1 ∨ w = 2 ∨ w = 3 ∨ w = 4 ∨ w = 5 by omega) with rfl | rfl | rfl | rfl | rfl | rfl
      · refine q_aload_n d144_0 rfl ?_
        refine q_iload_n d144_1 rfl ?_
        refine q_v1 d144_2 rfl rfl (xk_136 hX) (Nat.le_of_ble_eq_true rfl) (c145t hR (by omega) ?_)
        refine n0_eq 17 d144_5 (by decide) (by decide) (fun q => absurd q (by decide)) (fun _ => ?_)
        refine q_iload_n d144_8 rfl ?_
        refine q_iconstN (z := 0) d144_9 ?_
        refine q_iconstN (z := 5) d144_10 ?_
        refine q_s3 d144_11 (Or.inl rfl) rfl (Nat.le_of_ble_eq_true rfl) (c131t ⟨by omega, by omega⟩ (by omega) ?_)
        refine n0_ne 20 d144_14 (by decide) (by decide) (fun _ => ?_) (fun q => absurd q (by decide))
        refine q_iload_n d144_20 rfl ?_
        refine n_tsI (35) 56 d144_21 (by decide) (by decide) rfl (by decide) ?_
        refine q_aload_n d144_56 rfl ?_
        refine q_getr (c := 8) (f := 1) d144_57 ⟨rfl, rfl⟩ (xk_136 hX) (xf_stepMany hX) ?_
        refine q_iload_n d144_60 rfl ?_
        refine n_iald d144_61 (xk_stepMany hX) (by omega) (by decide) (hTk.1 _ ht).1 ?_
        refine q_iret d144_62 rfl ?_
        exact k _ _ hR (FG2.fy (Fi.refl _ _))
      · refine q_aload_n d144_0 rfl ?_
        refine q_iload_n d144_1 rfl ?_
        refine q_v1 d144_2 rfl rfl (xk_136 hX) (Nat.le_of_ble_eq_true rfl) (c145t hR (by omega) ?_)
        refine n0_eq 17 d144_5 (by decide) (by decide) (fun q => absurd q (by decide)) (fun _ => ?_)
        refine q_iload_n d144_8 rfl ?_
        refine q_iconstN (z := 0) d144_9 ?_
        refine q_iconstN (z := 5) d144_10 ?_
        refine q_s3 d144_11 (Or.inl rfl) rfl (Nat.le_of_ble_eq_true rfl) (c131t ⟨by omega, by omega⟩ (by omega) ?_)
        refine n0_ne 20 d144_14 (by decide) (by decide) (fun _ => ?_) (fun q => absurd q (by decide))
        refine q_iload_n d144_20 rfl ?_
        refine n_tsI (42) 63 d144_21 (by decide) (by decide) rfl (by decide) ?_
        refine q_aload_n d144_63 rfl ?_
        refine q_iload_n d144_64 rfl ?_
        refine q_v1 d144_65 rfl rfl (xk_136 hX) (Nat.le_of_ble_eq_true rfl) (c146 hX (hTk.1 _ ht) ho (by omega) h327 (fun v9 M2 f2 => ?_))
        refine q_iret d144_68 rfl ?_
        exact k _ _ (hR.fc f2 h327) (FG2.fc f2 h327)
      · refine q_aload_n d144_0 rfl ?_
        refine q_iload_n d144_1 rfl ?_
        refine q_v1 d144_2 rfl rfl (xk_136 hX) (Nat.le_of_ble_eq_true rfl) (c145t hR (by omega) ?_)
        refine n0_eq 17 d144_5 (by decide) (by decide) (fun q => absurd q (by decide)) (fun _ => ?_)
        refine q_iload_n d144_8 rfl ?_
        refine q_iconstN (z := 0) d144_9 ?_
        refine q_iconstN (z := 5) d144_10 ?_
        refine q_s3 d144_11 (Or.inl rfl) rfl (Nat.le_of_ble_eq_true rfl) (c131t ⟨by omega, by omega⟩ (by omega) ?_)
        refine n0_ne 20 d144_14 (by decide) (by decide) (fun _ => ?_) (fun q => absurd q (by decide))
        refine q_iload_n d144_20 rfl ?_
        refine n_tsI (48) 69 d144_21 (by decide) (by decide) rfl (by decide) ?_
        refine q_aload_n d144_69 rfl ?_
        refine q_iload_n d144_70 rfl ?_
        refine q_v1 d144_71 rfl rfl (xk_136 hX) (Nat.le_of_ble_eq_true rfl) (c148 hX (hTk.1 _ ht) ho (by omega) (fun v9 => ?_))
        refine q_iret d144_74 rfl ?_
        exact k _ _ hR (FG2.fy (Fi.refl _ _))
      · refine q_aload_n d144_0 rfl ?_
        refine q_iload_n d144_1 rfl ?_
        refine q_v1 d144_2 rfl rfl (xk_136 hX) (Nat.le_of_ble_eq_true rfl) (c145t hR (by omega) ?_)
        refine n0_eq 17 d144_5 (by decide) (by decide) (fun q => absurd q (by decide)) (fun _ => ?_)
        refine q_iload_n d144_8 rfl ?_
        refine q_iconstN (z := 0) d144_9 ?_
        refine q_iconstN (z := 5) d144_10 ?_
        refine q_s3 d144_11 (Or.inl rfl) rfl (Nat.le_of_ble_eq_true rfl) (c131t ⟨by omega, by omega⟩ (by omega) ?_)
        refine n0_ne 20 d144_14 (by decide) (by decide) (fun _ => ?_) (fun q => absurd q (by decide))
        refine q_iload_n d144_20 rfl ?_
        refine n_tsI (54) 75 d144_21 (by decide) (by decide) rfl (by decide) ?_
        refine q_aload_n d144_75 rfl ?_
        refine q_iload_n d144_76 rfl ?_
        refine q_v1 d144_77 rfl rfl (xk_136 hX) (Nat.le_of_ble_eq_true rfl) (c150 hX (hTk.1 _ ht) ho (by omega) (fun v9 => ?_))
        refine q_iret d144_80 rfl ?_
        exact k _ _ hR (FG2.fy (Fi.refl _ _))
      · refine q_aload_n d144_0 rfl ?_
        refine q_iload_n d144_1 rfl ?_
        refine q_v1 d144_2 rfl rfl (xk_136 hX) (Nat.le_of_ble_eq_true rfl) (c145t hR (by omega) ?_)
        refine n0_eq 17 d144_5 (by decide) (by decide) (fun q => absurd q (by decide)) (fun _ => ?_)
        refine q_iload_n d144_8 rfl ?_
        refine q_iconstN (z := 0) d144_9 ?_
        refine q_iconstN (z := 5) d144_10 ?_
        refine q_s3 d144_11 (Or.inl rfl) rfl (Nat.le_of_ble_eq_true rfl) (c131t ⟨by omega, by omega⟩ (by omega) ?_)
        refine n0_ne 20 d144_14 (by decide) (by decide) (fun _ => ?_) (fun q => absurd q (by decide))
        refine q_iload_n d144_20 rfl ?_
        refine n_tsI (60) 81 d144_21 (by decide) (by decide) rfl (by decide) ?_
        refine q_aload_n d144_81 rfl ?_
        refine q_getr (c := 8) (f := 2) d144_82 ⟨rfl, rfl⟩ (xk_136 hX) (xf_pivots hX) ?_
        refine q_iload_n d144_85 rfl ?_
        refine n_iald d144_86 (xk_pivots hX) (by omega) (by decide) (hTk.1 _ ht).2.1 ?_
        refine q_iret d144_87 rfl ?_
        exact k _ _ hR (FG2.fy (Fi.refl _ _))
      · refine q_aload_n d144_0 rfl ?_
        refine q_iload_n d144_1 rfl ?_
        refine q_v1 d144_2 rfl rfl (xk_136 hX) (Nat.le_of_ble_eq_true rfl) (c145t hR (by omega) ?_)
        refine n0_eq 17 d144_5 (by decide) (by decide) (fun q => absurd q (by decide)) (fun _ => ?_)
        refine q_iload_n d144_8 rfl ?_
        refine q_iconstN (z := 0) d144_9 ?_
        refine q_iconstN (z := 5) d144_10 ?_
        refine q_s3 d144_11 (Or.inl rfl) rfl (Nat.le_of_ble_eq_true rfl) (c131t ⟨by omega, by omega⟩ (by omega) ?_)
        refine n0_ne 20 d144_14 (by decide) (by decide) (fun _ => ?_) (fun q => absurd q (by decide))
        refine q_iload_n d144_20 rfl ?_
        refine n_tsO 88 d144_21 (by omega) (Or.inr (by omega)) (by decide) ?_
        refine q_aload_n d144_88 rfl ?_
        refine q_iload_n d144_89 rfl ?_
        refine q_v1 d144_90 rfl rfl (xk_136 hX) (Nat.le_of_ble_eq_true rfl) (c152 hX (hTk.1 _ ht) ho (by omega) hC.2.2.2.1 hO.2.1 (fun v9 M2 hK2 f2 => ?_))
        refine q_iret d144_93 rfl ?_
        exact k _ _ (hR.kb9 hK2 f2) (FG2.fy (f2.mono (fun b k q => FZ_Y (FW9_Z q))))
    · have _u := ew
      refine q_aload_n d144_0 rfl ?_
      refine q_iload_n d144_1 rfl ?_
      refine q_v1 d144_2 rfl rfl (xk_136 hX) (Nat.le_of_ble_eq_true rfl) (c145t hR (by omega) ?_)
      refine n0_eq 17 d144_5 (by decide) (by decide) (fun q => absurd q (by decide)) (fun _ => ?_)
      refine q_iload_n d144_8 rfl ?_
      refine q_iconstN (z := 0) d144_9 ?_
      refine q_iconstN (z := 5) d144_10 ?_
      refine q_s3 d144_11 (Or.inl rfl) rfl (Nat.le_of_ble_eq_true rfl) (c131f (by decide) (by have := zix_none ew; omega) (by decide) ?_)
      refine n0_ne 20 d144_14 (by decide) (by decide) (fun q => absurd q (by decide)) (fun _ => ?_)
      refine q_bipush (x := (-2)) d144_17 rfl ?_
      refine q_iret d144_19 rfl ?_
      exact k _ _ hR (FG2.fy (Fi.refl _ _))
  · have _u := et
    refine q_aload_n d144_0 rfl ?_
    refine q_iload_n d144_1 rfl ?_
    refine q_v1 d144_2 rfl rfl (xk_136 hX) (Nat.le_of_ble_eq_true rfl) (c145f hR et ?_)
    refine n0_eq 17 d144_5 (by decide) (by decide) (fun _ => ?_) (fun q => absurd q (by decide))
    refine q_bipush (x := (-2)) d144_17 rfl ?_
    refine q_iret d144_19 rfl ?_
    exact k _ _ hR (FG2.fy (Fi.refl _ _))
theorem d164_0 : decode (zB 164) 0 = .ok (.iconst 0, 1) := by decide +kernel
theorem d164_1 : decode (zB 164) 1 = .ok (.istore 4, 2) := by decide +kernel
theorem d164_3 : decode (zB 164) 3 = .ok (.iload 4, 2) := by decide +kernel
theorem d164_5 : decode (zB 164) 5 = .ok (.aload_n 0, 1) := by decide +kernel
theorem d164_6 : decode (zB 164) 6 = .ok (.getfield 9, 3) := by decide +kernel
theorem d164_9 : decode (zB 164) 9 = .ok (.iload_n 1, 1) := by decide +kernel
theorem d164_10 : decode (zB 164) 10 = .ok (.iaload, 1) := by decide +kernel
theorem d164_11 : decode (zB 164) 11 = .ok (.if_icmp .ge 32, 3) := by decide +kernel
theorem d164_14 : decode (zB 164) 14 = .ok (.iload_n 2, 1) := by decide +kernel
theorem d164_15 : decode (zB 164) 15 = .ok (.iload 4, 2) := by decide +kernel
theorem d164_17 : decode (zB 164) 17 = .ok (.ishr, 1) := by decide +kernel
theorem d164_18 : decode (zB 164) 18 = .ok (.iconst 1, 1) := by decide +kernel
theorem d164_19 : decode (zB 164) 19 = .ok (.iand, 1) := by decide +kernel
theorem d164_20 : decode (zB 164) 20 = .ok (.iconst 1, 1) := by decide +kernel
theorem d164_21 : decode (zB 164) 21 = .ok (.if_icmp .ne 16, 3) := by decide +kernel
theorem d164_24 : decode (zB 164) 24 = .ok (.aload_n 0, 1) := by decide +kernel
theorem d164_25 : decode (zB 164) 25 = .ok (.iload_n 1, 1) := by decide +kernel
theorem d164_26 : decode (zB 164) 26 = .ok (.iload_n 3, 1) := by decide +kernel
theorem d164_27 : decode (zB 164) 27 = .ok (.iload 4, 2) := by decide +kernel
theorem d164_29 : decode (zB 164) 29 = .ok (.invokevirtual 206, 3) := by decide +kernel
theorem d164_32 : decode (zB 164) 32 = .ok (.ifCond .eq 5, 3) := by decide +kernel
theorem d164_35 : decode (zB 164) 35 = .ok (.lconst 0, 1) := by decide +kernel
theorem d164_36 : decode (zB 164) 36 = .ok (.lreturn, 1) := by decide +kernel
theorem d164_37 : decode (zB 164) 37 = .ok (.iinc 4 1, 3) := by decide +kernel
theorem d164_40 : decode (zB 164) 40 = .ok (.goto (-37), 3) := by decide +kernel
theorem d164_43 : decode (zB 164) 43 = .ok (.aload_n 0, 1) := by decide +kernel
theorem d164_44 : decode (zB 164) 44 = .ok (.getfield 79, 3) := by decide +kernel
theorem d164_47 : decode (zB 164) 47 = .ok (.iload_n 2, 1) := by decide +kernel
theorem d164_48 : decode (zB 164) 48 = .ok (.iconst 1, 1) := by decide +kernel
theorem d164_49 : decode (zB 164) 49 = .ok (.iload_n 3, 1) := by decide +kernel
theorem d164_50 : decode (zB 164) 50 = .ok (.ishl, 1) := by decide +kernel
theorem d164_51 : decode (zB 164) 51 = .ok (.iconst (-1), 1) := by decide +kernel
theorem d164_52 : decode (zB 164) 52 = .ok (.ixor, 1) := by decide +kernel
theorem d164_53 : decode (zB 164) 53 = .ok (.iand, 1) := by decide +kernel
theorem d164_54 : decode (zB 164) 54 = .ok (.laload, 1) := by decide +kernel
theorem d164_55 : decode (zB 164) 55 = .ok (.lreturn, 1) := by decide +kernel
theorem l164 {d : Nat} {M : zM} {Q : Option Value → zM → Prop} {T : yT} {t s i0 : Nat} (hX : SX M) (hT : XT1 M t T) (ho : OKT T) (ht : t < 6) (hi : i0 < tn T) (hs : s < 2 ^ tn T) (k : ∀ v, Q (some (.long v)) M) : ∀ (r i : Nat), i ≤ tn T → tn T < i + r → qW (zEv (d + 1)) 164 Q 3 [(4, .int (nI i)), (0, .ref 136), (1, .int (nI t)), (2, .int (nI s)), (3, .int (nI i0))] [] M := by
  intro r
  induction r with
  | zero => intros; omega
  | succ r ih =>
    intro i  h1 h2 
    have hn := ho.n
    have hp12 : 2 ^ tn T ≤ 2 ^ 12 := Nat.pow_le_pow_right (by omega) hn
    refine q_iload d164_3 rfl ?_
    refine q_aload_n d164_5 rfl ?_
    refine q_getr (c := 8) (f := 1) d164_6 ⟨rfl, rfl⟩ (xk_136 hX) (xf_stepMany hX) ?_
    refine q_iload_n d164_9 rfl ?_
    refine n_iald d164_10 (xk_stepMany hX) (by omega) (by decide) hT.1 ?_
    refine nc_ge 43 d164_11 (by decide) (by omega) (by omega) (fun h11 => ?_) (fun h11 => ?_)
    · refine q_aload_n d164_43 rfl ?_
      refine q_getr (c := 8) (f := 39) d164_44 ⟨rfl, rfl⟩ (xk_136 hX) (xf_ways hX) ?_
      refine q_iload_n d164_47 rfl ?_
      refine q_iconstN (z := 1) d164_48 ?_
      refine q_iload_n d164_49 rfl ?_
      refine n_ishl1 d164_50 (by omega) ?_
      refine q_iconst (x := (-1)) d164_51 rfl ?_
      refine q_ixor d164_52 ?_
      refine n_iandn d164_53 ?_
      refine n_lald d164_54 (xk_ways hX) (Nat.lt_of_lt_of_le (zdf_lt hs) hp12) (by decide) rfl ?_
      refine q_lret d164_55 rfl ?_
      exact k _
    · refine q_iload_n d164_14 rfl ?_
      refine q_iload d164_15 rfl ?_
      refine q_ishr d164_17 ?_
      refine q_iconstN (z := 1) d164_18 ?_
      refine q_iand d164_19 ?_
      refine q_iconstN (z := 1) d164_20 ?_
      refine ic_ne 37 d164_21 (by decide) (fun h21 => ?_) (fun h21 => ?_)
      · refine n_iinc 1 d164_37 (by decide) rfl rfl ?_
        refine q_goto 3 d164_40 (by decide) ?_
        exact ih (i + 1) (by omega) (by omega)
      · refine q_aload_n d164_24 rfl ?_
        refine q_iload_n d164_25 rfl ?_
        refine q_iload_n d164_26 rfl ?_
        refine q_iload d164_27 rfl ?_
        refine q_v3 d164_29 rfl rfl (xk_136 hX) (Nat.le_of_ble_eq_true rfl) (c147 hX hT ho ht (by omega) (by omega) ?_)
        refine b0_eq 37 d164_32 (by decide) (fun h32 => ?_) (fun h32 => ?_)
        · refine n_iinc 1 d164_37 (by decide) rfl rfl ?_
          refine q_goto 3 d164_40 (by decide) ?_
          exact ih (i + 1) (by omega) (by omega)
        · refine q_lconst (x := 0) d164_35 rfl ?_
          refine q_lret d164_36 rfl ?_
          exact k _
theorem c164 {d : Nat} {M : zM} {Q : Option Value → zM → Prop} {T : yT} {t s i0 : Nat} (hX : SX M) (hT : XT1 M t T) (ho : OKT T) (ht : t < 6) (hi : i0 < tn T) (hs : s < 2 ^ tn T) (k : ∀ v, Q (some (.long v)) M) : qC (d + 2) 164 [.ref 136, .int (nI t), .int (nI s), .int (nI i0)] M Q := by
  refine qC_of (by decide) (Nat.le_of_ble_eq_true rfl) ?_
  have hn := ho.n
  refine q_iconstN (z := 0) d164_0 ?_
  refine q_istore d164_1 (by decide) rfl ?_
  exact l164 hX hT ho ht hi hs k (tn T + 1) 0 (by omega) (by omega)
theorem SX_fl {M M' : zM} {b : Nat} (h : SX M) (f : Fl b M M') : SX M' := SX_of h (fun a _ => congrFun (show zk M' = zk M from congrArg (fun q => q.1) f.2.2.1) a) (fun a g _ _ => congrFun (congrFun f.2.1 a) g)
theorem XT1_fl {M M' : zM} {b t : Nat} {T : yT} (h : XT1 M t T) (f : Fl b M M') : XT1 M' t T := by
  unfold XT1 zi; rw [f.1]; exact h
theorem d163_0 : decode (zB 163) 0 = .ok (.aload_n 0, 1) := by decide +kernel
theorem d163_1 : decode (zB 163) 1 = .ok (.iload_n 1, 1) := by decide +kernel
theorem d163_2 : decode (zB 163) 2 = .ok (.invokevirtual 243, 3) := by decide +kernel
theorem d163_5 : decode (zB 163) 5 = .ok (.ifCond .ne 7, 3) := by decide +kernel
theorem d163_8 : decode (zB 163) 8 = .ok (.ldc2_w 258, 3) := by decide +kernel
theorem d163_11 : decode (zB 163) 11 = .ok (.lreturn, 1) := by decide +kernel
theorem d163_12 : decode (zB 163) 12 = .ok (.iconst 1, 1) := by decide +kernel
theorem d163_13 : decode (zB 163) 13 = .ok (.aload_n 0, 1) := by decide +kernel
theorem d163_14 : decode (zB 163) 14 = .ok (.getfield 9, 3) := by decide +kernel
theorem d163_17 : decode (zB 163) 17 = .ok (.iload_n 1, 1) := by decide +kernel
theorem d163_18 : decode (zB 163) 18 = .ok (.iaload, 1) := by decide +kernel
theorem d163_19 : decode (zB 163) 19 = .ok (.ishl, 1) := by decide +kernel
theorem d163_20 : decode (zB 163) 20 = .ok (.istore_n 2, 1) := by decide +kernel
theorem d163_21 : decode (zB 163) 21 = .ok (.iconst 0, 1) := by decide +kernel
theorem d163_22 : decode (zB 163) 22 = .ok (.istore_n 3, 1) := by decide +kernel
theorem d163_23 : decode (zB 163) 23 = .ok (.iload_n 3, 1) := by decide +kernel
theorem d163_24 : decode (zB 163) 24 = .ok (.iload_n 2, 1) := by decide +kernel
theorem d163_25 : decode (zB 163) 25 = .ok (.if_icmp .ge 87, 3) := by decide +kernel
theorem d163_28 : decode (zB 163) 28 = .ok (.aload_n 0, 1) := by decide +kernel
theorem d163_29 : decode (zB 163) 29 = .ok (.getfield 79, 3) := by decide +kernel
theorem d163_32 : decode (zB 163) 32 = .ok (.iload_n 3, 1) := by decide +kernel
theorem d163_33 : decode (zB 163) 33 = .ok (.iload_n 3, 1) := by decide +kernel
theorem d163_34 : decode (zB 163) 34 = .ok (.ifCond .ne 7, 3) := by decide +kernel
theorem d163_37 : decode (zB 163) 37 = .ok (.lconst 1, 1) := by decide +kernel
theorem d163_38 : decode (zB 163) 38 = .ok (.goto 4, 3) := by decide +kernel
theorem d163_41 : decode (zB 163) 41 = .ok (.lconst 0, 1) := by decide +kernel
theorem d163_42 : decode (zB 163) 42 = .ok (.lastore, 1) := by decide +kernel
theorem d163_43 : decode (zB 163) 43 = .ok (.iconst 0, 1) := by decide +kernel
theorem d163_44 : decode (zB 163) 44 = .ok (.istore 4, 2) := by decide +kernel
theorem d163_46 : decode (zB 163) 46 = .ok (.iload 4, 2) := by decide +kernel
theorem d163_48 : decode (zB 163) 48 = .ok (.aload_n 0, 1) := by decide +kernel
theorem d163_49 : decode (zB 163) 49 = .ok (.getfield 9, 3) := by decide +kernel
theorem d163_52 : decode (zB 163) 52 = .ok (.iload_n 1, 1) := by decide +kernel
theorem d163_53 : decode (zB 163) 53 = .ok (.iaload, 1) := by decide +kernel
theorem d163_54 : decode (zB 163) 54 = .ok (.if_icmp .ge 52, 3) := by decide +kernel
theorem d163_57 : decode (zB 163) 57 = .ok (.iload_n 3, 1) := by decide +kernel
theorem d163_58 : decode (zB 163) 58 = .ok (.iload 4, 2) := by decide +kernel
theorem d163_60 : decode (zB 163) 60 = .ok (.ishr, 1) := by decide +kernel
theorem d163_61 : decode (zB 163) 61 = .ok (.iconst 1, 1) := by decide +kernel
theorem d163_62 : decode (zB 163) 62 = .ok (.iand, 1) := by decide +kernel
theorem d163_63 : decode (zB 163) 63 = .ok (.iconst 1, 1) := by decide +kernel
theorem d163_64 : decode (zB 163) 64 = .ok (.if_icmp .ne 36, 3) := by decide +kernel
theorem d163_67 : decode (zB 163) 67 = .ok (.aload_n 0, 1) := by decide +kernel
theorem d163_68 : decode (zB 163) 68 = .ok (.getfield 30, 3) := by decide +kernel
theorem d163_71 : decode (zB 163) 71 = .ok (.iload_n 1, 1) := by decide +kernel
theorem d163_72 : decode (zB 163) 72 = .ok (.aaload, 1) := by decide +kernel
theorem d163_73 : decode (zB 163) 73 = .ok (.iload 4, 2) := by decide +kernel
theorem d163_75 : decode (zB 163) 75 = .ok (.iaload, 1) := by decide +kernel
theorem d163_76 : decode (zB 163) 76 = .ok (.iload_n 3, 1) := by decide +kernel
theorem d163_77 : decode (zB 163) 77 = .ok (.iconst (-1), 1) := by decide +kernel
theorem d163_78 : decode (zB 163) 78 = .ok (.ixor, 1) := by decide +kernel
theorem d163_79 : decode (zB 163) 79 = .ok (.iand, 1) := by decide +kernel
theorem d163_80 : decode (zB 163) 80 = .ok (.ifCond .ne 20, 3) := by decide +kernel
theorem d163_83 : decode (zB 163) 83 = .ok (.aload_n 0, 1) := by decide +kernel
theorem d163_84 : decode (zB 163) 84 = .ok (.getfield 79, 3) := by decide +kernel
theorem d163_87 : decode (zB 163) 87 = .ok (.iload_n 3, 1) := by decide +kernel
theorem d163_88 : decode (zB 163) 88 = .ok (.dup2, 1) := by decide +kernel
theorem d163_89 : decode (zB 163) 89 = .ok (.laload, 1) := by decide +kernel
theorem d163_90 : decode (zB 163) 90 = .ok (.aload_n 0, 1) := by decide +kernel
theorem d163_91 : decode (zB 163) 91 = .ok (.iload_n 1, 1) := by decide +kernel
theorem d163_92 : decode (zB 163) 92 = .ok (.iload_n 3, 1) := by decide +kernel
theorem d163_93 : decode (zB 163) 93 = .ok (.iload 4, 2) := by decide +kernel
theorem d163_95 : decode (zB 163) 95 = .ok (.invokevirtual 260, 3) := by decide +kernel
theorem d163_98 : decode (zB 163) 98 = .ok (.ladd, 1) := by decide +kernel
theorem d163_99 : decode (zB 163) 99 = .ok (.lastore, 1) := by decide +kernel
theorem d163_100 : decode (zB 163) 100 = .ok (.iinc 4 1, 3) := by decide +kernel
theorem d163_103 : decode (zB 163) 103 = .ok (.goto (-57), 3) := by decide +kernel
theorem d163_106 : decode (zB 163) 106 = .ok (.iinc 3 1, 3) := by decide +kernel
theorem d163_109 : decode (zB 163) 109 = .ok (.goto (-86), 3) := by decide +kernel
theorem d163_112 : decode (zB 163) 112 = .ok (.aload_n 0, 1) := by decide +kernel
theorem d163_113 : decode (zB 163) 113 = .ok (.getfield 79, 3) := by decide +kernel
theorem d163_116 : decode (zB 163) 116 = .ok (.iload_n 2, 1) := by decide +kernel
theorem d163_117 : decode (zB 163) 117 = .ok (.iconst 1, 1) := by decide +kernel
theorem d163_118 : decode (zB 163) 118 = .ok (.isub, 1) := by decide +kernel
theorem d163_119 : decode (zB 163) 119 = .ok (.laload, 1) := by decide +kernel
theorem d163_120 : decode (zB 163) 120 = .ok (.lreturn, 1) := by decide +kernel
theorem l163b {d : Nat} {Q : Option Value → zM → Prop} {T : yT} {M0 : zM} {t s : Nat} (hX0 : SX M0) (hT0 : XT1 M0 t T) (ho : OKT T) (ht : t < 6) (hs : s < 2 ^ tn T) (k : ∀ i M', Fl 209 M0 M' → qW (zEv (d + 2)) 163 Q 106 [(0, .ref 136), (1, .int (nI t)), (2, .int (nI (2 ^ tn T))), (3, .int (nI s)), (4, .int (nI i))] [] M') : ∀ (r i : Nat) (M1 : zM), i ≤ tn T → tn T < i + r →  Fl 209 M0 M1 → qW (zEv (d + 2)) 163 Q 46 [(0, .ref 136), (1, .int (nI t)), (2, .int (nI (2 ^ tn T))), (3, .int (nI s)), (4, .int (nI i))] [] M1 := by
  intro r
  induction r with
  | zero => intros; omega
  | succ r ih =>
    intro i M1 h1 h2 hF
    have hn := ho.n
    have hp12 : 2 ^ tn T ≤ 2 ^ 12 := Nat.pow_le_pow_right (by omega) hn
    have hX := SX_fl hX0 hF
    have hT := XT1_fl hT0 hF
    refine q_iload d163_46 rfl ?_
    refine q_aload_n d163_48 rfl ?_
    refine q_getr (c := 8) (f := 1) d163_49 ⟨rfl, rfl⟩ (xk_136 hX) (xf_stepMany hX) ?_
    refine q_iload_n d163_52 rfl ?_
    refine n_iald d163_53 (xk_stepMany hX) (by omega) (by decide) hT.1 ?_
    refine nc_ge 106 d163_54 (by decide) (by omega) (by omega) (fun h54 => ?_) (fun h54 => ?_)
    · refine qW_srt rfl rfl ?_
      exact k _ _ hF
    · refine q_iload_n d163_57 rfl ?_
      refine q_iload d163_58 rfl ?_
      refine q_ishr d163_60 ?_
      refine q_iconstN (z := 1) d163_61 ?_
      refine q_iand d163_62 ?_
      refine q_iconstN (z := 1) d163_63 ?_
      refine ic_ne 100 d163_64 (by decide) (fun h64 => ?_) (fun h64 => ?_)
      · refine n_iinc 1 d163_100 (by decide) rfl rfl ?_
        refine q_goto 46 d163_103 (by decide) ?_
        refine qW_srt rfl rfl ?_
        first
        | exact ih (i + 1) _ (by omega) (by omega) hF
        | exact ih (i + 1) _ (by omega) (by omega) hF.wl
      · refine q_aload_n d163_67 rfl ?_
        refine q_getr (c := 8) (f := 7) d163_68 ⟨rfl, rfl⟩ (xk_136 hX) (xf_aheads hX) ?_
        refine q_iload_n d163_71 rfl ?_
        refine n_aald d163_72 (xk_aheads hX) (by decide) (by omega) (by decide) (xr_aheads hX (by omega)) ?_
        refine q_iload d163_73 rfl ?_
        refine n_iald d163_75 (xa_aheads hX (by omega)) (by omega) (by decide) (hT.2.2 _ (by omega)).2.2.2.2 ?_
        refine q_iload_n d163_76 rfl ?_
        refine q_iconst (x := (-1)) d163_77 rfl ?_
        refine q_ixor d163_78 ?_
        refine q_iand d163_79 ?_
        refine i0_ne 100 d163_80 (by decide) (fun h80 => ?_) (fun h80 => ?_)
        · refine n_iinc 1 d163_100 (by decide) rfl rfl ?_
          refine q_goto 46 d163_103 (by decide) ?_
          refine qW_srt rfl rfl ?_
          first
          | exact ih (i + 1) _ (by omega) (by omega) hF
          | exact ih (i + 1) _ (by omega) (by omega) hF.wl
        · refine q_aload_n d163_83 rfl ?_
          refine q_getr (c := 8) (f := 39) d163_84 ⟨rfl, rfl⟩ (xk_136 hX) (xf_ways hX) ?_
          refine q_iload_n d163_87 rfl ?_
          refine q_dup2 d163_88 rfl rfl ?_
          refine n_lald d163_89 (xk_ways hX) (by omega) (by decide) rfl ?_
          refine q_aload_n d163_90 rfl ?_
          refine q_iload_n d163_91 rfl ?_
          refine q_iload_n d163_92 rfl ?_
          refine q_iload d163_93 rfl ?_
          refine q_v3 d163_95 rfl rfl (xk_136 hX) (Nat.le_of_ble_eq_true rfl) (c164 hX hT ho ht (by omega) hs (fun v9 => ?_))
          refine q_ladd d163_98 ?_
          refine n_last d163_99 (xk_ways hX) (by omega) (by decide) ?_
          refine n_iinc 1 d163_100 (by decide) rfl rfl ?_
          refine q_goto 46 d163_103 (by decide) ?_
          refine qW_srt rfl rfl ?_
          first
          | exact ih (i + 1) _ (by omega) (by omega) hF
          | exact ih (i + 1) _ (by omega) (by omega) hF.wl
theorem l163 {d : Nat} {Q : Option Value → zM → Prop} {T : yT} {M0 : zM} {t : Nat} (hX0 : SX M0) (hT0 : XT1 M0 t T) (ho : OKT T) (ht : t < 6) (k : ∀ v M', Fl 209 M0 M' → Q (some (.long v)) M') : ∀ (r s : Nat) (M1 : zM), s ≤ 2 ^ tn T → 2 ^ tn T < s + r →  Fl 209 M0 M1 → qW (zEv (d + 2)) 163 Q 23 [(0, .ref 136), (1, .int (nI t)), (2, .int (nI (2 ^ tn T))), (3, .int (nI s))] [] M1 := by
  intro r
  induction r with
  | zero => intros; omega
  | succ r ih =>
    intro s M1 h1 h2 hF
    have hn := ho.n
    have hp12 : 2 ^ tn T ≤ 2 ^ 12 := Nat.pow_le_pow_right (by omega) hn
    have hX := SX_fl hX0 hF
    have hT := XT1_fl hT0 hF
    refine q_iload_n d163_23 rfl ?_
    refine q_iload_n d163_24 rfl ?_
    refine nc_ge 112 d163_25 (by decide) (by omega) (by omega) (fun h25 => ?_) (fun h25 => ?_)
    · refine q_aload_n d163_112 rfl ?_
      refine q_getr (c := 8) (f := 39) d163_113 ⟨rfl, rfl⟩ (xk_136 hX) (xf_ways hX) ?_
      refine q_iload_n d163_116 rfl ?_
      refine q_iconstN (z := 1) d163_117 ?_
      refine n_isub d163_118 (Nat.one_le_two_pow) ?_
      refine n_lald d163_119 (xk_ways hX) (by omega) (by decide) rfl ?_
      refine q_lret d163_120 rfl ?_
      exact k _ _ hF
    · refine q_aload_n d163_28 rfl ?_
      refine q_getr (c := 8) (f := 39) d163_29 ⟨rfl, rfl⟩ (xk_136 hX) (xf_ways hX) ?_
      refine q_iload_n d163_32 rfl ?_
      refine q_iload_n d163_33 rfl ?_
      refine n0_ne 41 d163_34 (by decide) (by omega) (fun h34 => ?_) (fun h34 => ?_)
      · refine q_lconst (x := 0) d163_41 rfl ?_
        refine n_last d163_42 (xk_ways hX) (by omega) (by decide) ?_
        refine q_iconstN (z := 0) d163_43 ?_
        refine q_istore d163_44 (by decide) rfl ?_
        refine qW_srt rfl rfl ?_
        refine l163b hX0 hT0 ho ht (by omega) (fun i M2 hF2 => ?_) (tn T + 1) 0 _ (by omega) (by omega) hF.wl
        have hX2 := SX_fl hX0 hF2
        have hT2 := XT1_fl hT0 hF2
        refine n_iinc 1 d163_106 (by decide) rfl rfl ?_
        refine q_goto 23 d163_109 (by decide) ?_
        refine qW_fg 4 rfl rfl ?_
        exact ih (s + 1) _ (by omega) (by omega) hF2
      · refine q_lconst (x := 1) d163_37 rfl ?_
        refine q_goto 42 d163_38 (by decide) ?_
        refine n_last d163_42 (xk_ways hX) (by omega) (by decide) ?_
        refine q_iconstN (z := 0) d163_43 ?_
        refine q_istore d163_44 (by decide) rfl ?_
        refine qW_srt rfl rfl ?_
        refine l163b hX0 hT0 ho ht (by omega) (fun i M2 hF2 => ?_) (tn T + 1) 0 _ (by omega) (by omega) hF.wl
        have hX2 := SX_fl hX0 hF2
        have hT2 := XT1_fl hT0 hF2
        refine n_iinc 1 d163_106 (by decide) rfl rfl ?_
        refine q_goto 23 d163_109 (by decide) ?_
        refine qW_fg 4 rfl rfl ?_
        exact ih (s + 1) _ (by omega) (by omega) hF2
theorem x163 {d : Nat} {M : zM} {Q : Option Value → zM → Prop} {D : yD} {κ : Nat} {x : Int32} (hR : RX M D κ) (k : ∀ v M', RX M' D κ → FG2 M M' → Q (some (.long v)) M') : qC (d + 3) 163 [.ref 136, .int x] M Q := by
  refine qC_of (by decide) (Nat.le_of_ble_eq_true rfl) ?_
  have hC := hR.1
  have hX := hC.1
  have hO : OKW (dT D) (dc D) (dW D) := hC.2.2.1
  have hc6 := hO.1.1
  have hL : XLo [] M (some (dL D)) := hC.2.2.2.2.2.2.1
  have hSa : ∀ s, s < 3 → XSa M s (dS D s) κ := hC.2.2.2.2.1
  have hTk := hC.k
  have hck := hC.2.2.2.2.2.1
  rcases zix_c x (n := dc D) (by omega) with ⟨t, ht, rfl, et⟩ | ⟨et, nt⟩
  · have _u := et
    have ho := hO.1.2 _ ht
    have hn := ho.n
    have hp12 : 2 ^ tn (dT D t) ≤ 2 ^ 12 := Nat.pow_le_pow_right (by omega) hn
    refine q_aload_n d163_0 rfl ?_
    refine q_iload_n d163_1 rfl ?_
    refine q_v1 d163_2 rfl rfl (xk_136 hX) (Nat.le_of_ble_eq_true rfl) (c145t hR (by omega) ?_)
    refine n0_ne 12 d163_5 (by decide) (by decide) (fun _ => ?_) (fun q => absurd q (by decide))
    refine q_iconstN (z := 1) d163_12 ?_
    refine q_aload_n d163_13 rfl ?_
    refine q_getr (c := 8) (f := 1) d163_14 ⟨rfl, rfl⟩ (xk_136 hX) (xf_stepMany hX) ?_
    refine q_iload_n d163_17 rfl ?_
    refine n_iald d163_18 (xk_stepMany hX) (by omega) (by decide) (hTk.1 _ ht).1 ?_
    refine n_ishl1 d163_19 (by omega) ?_
    refine q_istore_n d163_20 (by decide) rfl ?_
    refine q_iconstN (z := 0) d163_21 ?_
    refine q_istore_n d163_22 (by decide) rfl ?_
    refine qW_srt rfl rfl ?_
    exact l163 hX (hTk.1 _ ht) ho (by omega) (fun v M2 f => k v M2 (hR.ag (fun a j _ => congrFun (congrFun f.1 a) j) f.2.1 (fun a _ => congrFun (show zk M2 = zk M from congrArg (fun q => q.1) f.2.2.1) a)) ⟨fun a j _ => congrFun (congrFun f.1 a) j, f.2.1, fun a q => funext (fun j => f.2.2.2 a q j), fun a _ => congrFun (show zk M2 = zk M from congrArg (fun q => q.1) f.2.2.1) a, Nat.le_of_eq (show zn M = zn M2 from (congrArg (fun q => q.2.1) f.2.2.1).symm), by rw [show zn M2 = zn M from congrArg (fun q => q.2.1) f.2.2.1]; omega, by rw [show zs M2 = zs M from congrArg (fun q => q.2.2) f.2.2.1]; omega⟩) (2 ^ tn (dT D t) + 1) 0 _ (Nat.zero_le _) (by omega) (Fl.refl _ _)
  · have _u := et
    refine q_aload_n d163_0 rfl ?_
    refine q_iload_n d163_1 rfl ?_
    refine q_v1 d163_2 rfl rfl (xk_136 hX) (Nat.le_of_ble_eq_true rfl) (c145f hR et ?_)
    refine n0_ne 12 d163_5 (by decide) (by decide) (fun q => absurd q (by decide)) (fun _ => ?_)
    refine q_ldc2_w d163_8 rfl ?_
    refine q_lret d163_11 rfl ?_
    exact k _ _ hR (FG2.fy (Fi.refl _ _))
