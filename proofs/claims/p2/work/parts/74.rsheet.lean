/-! ===== the reference: counts, sheets ===== -/
theorem CX.far {G : List yL} {M M' : zM} {T : Nat → yT} {c κ : Nat} {nm : Nat → Nat → Int32} {X : yX} (h : CX G M T c nm X κ) (f : Fi (fun b _ => 318 < b) M M') : CX G M' T c nm X κ := by
  obtain ⟨h1, h2, h3, h4, h5, h6, h7, h8⟩ := h
  exact ⟨SX_fi h1 f, XTx_fi h2 h3.1.1 f (fun b k b1 b2 q => by omega), h3, XPu_fi h4 f (fun b k q1 q2 => by unfold GP at q1; omega), fun s hs => (h5 s hs).fi f (fun b k q1 q2 => by unfold GS at q1; omega), (f.1 _ _ (by omega)).trans h6, h7.fi f (fun b k q => by unfold GL at q; omega), h8.fi (fun k hk => f.1 _ _ (by omega)) (fun r hr hg => ⟨hg, rfl⟩)⟩
/-- a sheet's cells change -/
theorem RX.row {M M' : zM} {D : yD} {κ h z : Nat} {so : Int32} (hR : RX M D κ) (f : Fi (fun b k => (b = 319 ∧ k = h) ∨ (b = 320 ∧ k = h) ∨ 320 < b) M M') (h1 : zi M' 319 h = so) (h2 : zi M' 320 h = nI z) : RX M' (drS D (yu (dR D) h (so, z))) κ := by
  obtain ⟨a1, a2, a3, ⟨a4, a5, a6⟩, a7⟩ := hR
  refine ⟨a1.far (f.mono (fun b k q => by omega)), (f.1 _ _ (by omega)).trans a2, (f.1 _ _ (by omega)).trans a3, ⟨a4, (f.1 _ _ (by omega)).trans a5, fun k hk => (f.1 _ _ (by omega)).trans (a6 k hk)⟩, fun i hi => ?_⟩
  show zi M' 319 i = (yu (dR D) h (so, z) i).1 ∧ zi M' 320 i = nI (yu (dR D) h (so, z) i).2
  by_cases e : i = h
  · subst e; rw [yu_s]; exact ⟨h1, h2⟩
  · rw [yu_n e]; exact ⟨(f.1 _ _ (by omega)).trans (a7 i hi).1, (f.1 _ _ (by omega)).trans (a7 i hi).2⟩
theorem RX.items {M M' : zM} {D : yD} {κ : Nat} (hR : RX M D κ) (f : Fi (fun b _ => 320 < b) M M') : RX M' D κ := by
  obtain ⟨a1, a2, a3, ⟨a4, a5, a6⟩, a7⟩ := hR
  exact ⟨a1.far (f.mono (fun b k q => by omega)), (f.1 _ _ (by omega)).trans a2, (f.1 _ _ (by omega)).trans a3, ⟨a4, (f.1 _ _ (by omega)).trans a5, fun k hk => (f.1 _ _ (by omega)).trans (a6 k hk)⟩, fun i hi => ⟨(f.1 _ _ (by omega)).trans (a7 i hi).1, (f.1 _ _ (by omega)).trans (a7 i hi).2⟩⟩
theorem c131v {d b : Nat} {M : zM} {Q : Option Value → zM → Prop} (hb : b < 2147483648) (k : Q (some (.int (nI 1))) M) : qC (d + 1) 131 [.int (-1), .int (-1), .int (nI b)] M Q :=
  c131 (fun _ => k) (fun q => absurd ⟨Int32.le_refl _, by rw [Int32.le_iff_toInt_le, nI_toInt hb, show (-1 : Int32).toInt = -1 from rfl]; omega⟩ q)
theorem c131w {d o : Nat} {M : zM} {Q : Option Value → zM → Prop} (ho : o < 2) (k : Q (some (.int (nI 1))) M) : qC (d + 1) 131 [.int (nI o), .int (-1), .int (nI 1)] M Q :=
  c131 (fun _ => k) (fun q => absurd ⟨by rw [Int32.le_iff_toInt_le, nI_toInt (by omega), show (-1 : Int32).toInt = -1 from rfl]; omega, nI_le (by omega) (by omega)⟩ q)
theorem c131x {d : Nat} {M : zM} {Q : Option Value → zM → Prop} {y : Int32} (h1 : ¬ y = -1) (h2 : zix y 2 = none) (k : Q (some (.int (nI 0))) M) : qC (d + 1) 131 [.int y, .int (-1), .int (nI 1)] M Q :=
  c131 (fun q => absurd q (by
    rw [Int32.le_iff_toInt_le, Int32.le_iff_toInt_le, nI_toInt (by omega), show (-1 : Int32).toInt = -1 from rfl]
    have h3 := zix_none h2
    have h4 : y.toInt ≠ -1 := fun e => h1 (Int32.toInt_inj.mp (e.trans rfl))
    omega)) (fun _ => k)
theorem d212_0 : decode (zB 212) 0 = .ok (.iconst 0, 1) := by decide +kernel
theorem d212_1 : decode (zB 212) 1 = .ok (.istore_n 1, 1) := by decide +kernel
theorem d212_2 : decode (zB 212) 2 = .ok (.iconst 0, 1) := by decide +kernel
theorem d212_3 : decode (zB 212) 3 = .ok (.istore_n 2, 1) := by decide +kernel
theorem d212_4 : decode (zB 212) 4 = .ok (.iload_n 2, 1) := by decide +kernel
theorem d212_5 : decode (zB 212) 5 = .ok (.iconst 3, 1) := by decide +kernel
theorem d212_6 : decode (zB 212) 6 = .ok (.if_icmp .ge 32, 3) := by decide +kernel
theorem d212_9 : decode (zB 212) 9 = .ok (.aload_n 0, 1) := by decide +kernel
theorem d212_10 : decode (zB 212) 10 = .ok (.getfield 36, 3) := by decide +kernel
theorem d212_13 : decode (zB 212) 13 = .ok (.iload_n 2, 1) := by decide +kernel
theorem d212_14 : decode (zB 212) 14 = .ok (.iaload, 1) := by decide +kernel
theorem d212_15 : decode (zB 212) 15 = .ok (.iconst 1, 1) := by decide +kernel
theorem d212_16 : decode (zB 212) 16 = .ok (.if_icmp .eq 13, 3) := by decide +kernel
theorem d212_19 : decode (zB 212) 19 = .ok (.aload_n 0, 1) := by decide +kernel
theorem d212_20 : decode (zB 212) 20 = .ok (.getfield 36, 3) := by decide +kernel
theorem d212_23 : decode (zB 212) 23 = .ok (.iload_n 2, 1) := by decide +kernel
theorem d212_24 : decode (zB 212) 24 = .ok (.iaload, 1) := by decide +kernel
theorem d212_25 : decode (zB 212) 25 = .ok (.iconst 2, 1) := by decide +kernel
theorem d212_26 : decode (zB 212) 26 = .ok (.if_icmp .ne 6, 3) := by decide +kernel
theorem d212_29 : decode (zB 212) 29 = .ok (.iinc 1 1, 3) := by decide +kernel
theorem d212_32 : decode (zB 212) 32 = .ok (.iinc 2 1, 3) := by decide +kernel
theorem d212_35 : decode (zB 212) 35 = .ok (.goto (-31), 3) := by decide +kernel
theorem d212_38 : decode (zB 212) 38 = .ok (.iload_n 1, 1) := by decide +kernel
theorem d212_39 : decode (zB 212) 39 = .ok (.ireturn, 1) := by decide +kernel
theorem l212 {d : Nat} {M : zM} {Q : Option Value → zM → Prop} {D : yD} {κ : Nat} (hR : RX M D κ) (k : Q (some (.int (nI (yact (dW D) 3)))) M) : ∀ (r i : Nat), i ≤ 3 → 3 < i + r → qW (zEv (d + 0)) 212 Q 4 [(2, .int (nI i)), (1, .int (nI (yact (dW D) i))), (0, .ref 136)] [] M := by
  intro r
  induction r with
  | zero => intros; omega
  | succ r ih =>
    intro i  h1 h2 
    have hX := hR.1.1
    have hO : OKW (dT D) (dc D) (dW D) := hR.1.2.2.1
    have hSa : ∀ s, s < 3 → XSa M s (dS D s) κ := hR.1.2.2.2.2.1
    have hg5 : i < 3 → gt (dS D i) ≤ 5 := fun q => (hO.2.2 i q).1
    refine q_iload_n d212_4 rfl ?_
    refine q_iconstN (z := 3) d212_5 ?_
    refine nc_ge 38 d212_6 (by decide) (by omega) (by omega) (fun h6 => ?_) (fun h6 => ?_)
    · refine q_iload_n d212_38 rfl ?_
      refine q_iret d212_39 rfl ?_
      have e : i = 3 := by omega
      subst e
      exact k
    · refine q_aload_n d212_9 rfl ?_
      refine q_getr (c := 8) (f := 11) d212_10 ⟨rfl, rfl⟩ (xk_136 hX) (xf_states hX) ?_
      refine q_iload_n d212_13 rfl ?_
      refine n_iald d212_14 (xk_states hX) (by omega) (by decide) (hSa _ (by omega)).1.1 ?_
      refine q_iconstN (z := 1) d212_15 ?_
      refine nc_eq 29 d212_16 (by decide) (by omega) (by omega) (fun h16 => ?_) (fun h16 => ?_)
      · refine n_iinc 1 d212_29 (by decide) rfl rfl ?_
        refine n_iinc 1 d212_32 (by decide) rfl rfl ?_
        refine q_goto 4 d212_35 (by decide) ?_
        have hy : yact (dW D) (i + 1) = yact (dW D) i + 1 := yact_t (decide_eq_true (Or.inl h16))
        first
        | exact ih (i + 1) (by omega) (by omega)
        | (have ih1 := ih (i + 1) (by omega) (by omega); rw [hy] at ih1; exact ih1)
      · refine q_aload_n d212_19 rfl ?_
        refine q_getr (c := 8) (f := 11) d212_20 ⟨rfl, rfl⟩ (xk_136 hX) (xf_states hX) ?_
        refine q_iload_n d212_23 rfl ?_
        refine n_iald d212_24 (xk_states hX) (by omega) (by decide) (hSa _ (by omega)).1.1 ?_
        refine q_iconstN (z := 2) d212_25 ?_
        refine nc_ne 32 d212_26 (by decide) (by omega) (by omega) (fun h26 => ?_) (fun h26 => ?_)
        · refine n_iinc 1 d212_32 (by decide) rfl rfl ?_
          refine q_goto 4 d212_35 (by decide) ?_
          have hy : yact (dW D) (i + 1) = yact (dW D) i := yact_f (decide_eq_false (fun e => by rcases e with e | e; exact h16 e; exact h26 e))
          first
          | exact ih (i + 1) (by omega) (by omega)
          | (have ih1 := ih (i + 1) (by omega) (by omega); rw [hy] at ih1; exact ih1)
        · refine n_iinc 1 d212_29 (by decide) rfl rfl ?_
          refine n_iinc 1 d212_32 (by decide) rfl rfl ?_
          refine q_goto 4 d212_35 (by decide) ?_
          have hy : yact (dW D) (i + 1) = yact (dW D) i + 1 := yact_t (decide_eq_true (Or.inr h26))
          first
          | exact ih (i + 1) (by omega) (by omega)
          | (have ih1 := ih (i + 1) (by omega) (by omega); rw [hy] at ih1; exact ih1)
theorem c212 {d : Nat} {M : zM} {Q : Option Value → zM → Prop} {D : yD} {κ : Nat} (hR : RX M D κ) (k : Q (some (.int (nI (yact (dW D) 3)))) M) : qC (d + 1) 212 [.ref 136] M Q := by
  refine qC_of (by decide) (Nat.le_of_ble_eq_true rfl) ?_
  refine q_iconstN (z := 0) d212_0 ?_
  refine q_istore_n d212_1 (by decide) rfl ?_
  refine q_iconstN (z := 0) d212_2 ?_
  refine q_istore_n d212_3 (by decide) rfl ?_
  exact l212 hR k 4 0 (by omega) (by omega)
theorem d211_0 : decode (zB 211) 0 = .ok (.iload_n 1, 1) := by decide +kernel
theorem d211_1 : decode (zB 211) 1 = .ok (.tableswitch 69 0 5 #[39, 44, 49, 54, 59, 64], 39) := by decide +kernel
theorem d211_40 : decode (zB 211) 40 = .ok (.aload_n 0, 1) := by decide +kernel
theorem d211_41 : decode (zB 211) 41 = .ok (.getfield 116, 3) := by decide +kernel
theorem d211_44 : decode (zB 211) 44 = .ok (.ireturn, 1) := by decide +kernel
theorem d211_45 : decode (zB 211) 45 = .ok (.aload_n 0, 1) := by decide +kernel
theorem d211_46 : decode (zB 211) 46 = .ok (.getfield 123, 3) := by decide +kernel
theorem d211_49 : decode (zB 211) 49 = .ok (.ireturn, 1) := by decide +kernel
theorem d211_50 : decode (zB 211) 50 = .ok (.aload_n 0, 1) := by decide +kernel
theorem d211_51 : decode (zB 211) 51 = .ok (.getfield 301, 3) := by decide +kernel
theorem d211_54 : decode (zB 211) 54 = .ok (.ireturn, 1) := by decide +kernel
theorem d211_55 : decode (zB 211) 55 = .ok (.aload_n 0, 1) := by decide +kernel
theorem d211_56 : decode (zB 211) 56 = .ok (.invokevirtual 399, 3) := by decide +kernel
theorem d211_59 : decode (zB 211) 59 = .ok (.ireturn, 1) := by decide +kernel
theorem d211_60 : decode (zB 211) 60 = .ok (.aload_n 0, 1) := by decide +kernel
theorem d211_61 : decode (zB 211) 61 = .ok (.getfield 276, 3) := by decide +kernel
theorem d211_64 : decode (zB 211) 64 = .ok (.ireturn, 1) := by decide +kernel
theorem d211_65 : decode (zB 211) 65 = .ok (.aload_n 0, 1) := by decide +kernel
theorem d211_66 : decode (zB 211) 66 = .ok (.getfield 282, 3) := by decide +kernel
theorem d211_69 : decode (zB 211) 69 = .ok (.ireturn, 1) := by decide +kernel
theorem d211_70 : decode (zB 211) 70 = .ok (.iload_n 1, 1) := by decide +kernel
theorem d211_71 : decode (zB 211) 71 = .ok (.bipush 10, 2) := by decide +kernel
theorem d211_73 : decode (zB 211) 73 = .ok (.bipush 15, 2) := by decide +kernel
theorem d211_75 : decode (zB 211) 75 = .ok (.invokestatic 112, 3) := by decide +kernel
theorem d211_78 : decode (zB 211) 78 = .ok (.ifCond .eq 15, 3) := by decide +kernel
theorem d211_81 : decode (zB 211) 81 = .ok (.aload_n 0, 1) := by decide +kernel
theorem d211_82 : decode (zB 211) 82 = .ok (.getfield 33, 3) := by decide +kernel
theorem d211_85 : decode (zB 211) 85 = .ok (.iload_n 1, 1) := by decide +kernel
theorem d211_86 : decode (zB 211) 86 = .ok (.bipush 10, 2) := by decide +kernel
theorem d211_88 : decode (zB 211) 88 = .ok (.isub, 1) := by decide +kernel
theorem d211_89 : decode (zB 211) 89 = .ok (.iaload, 1) := by decide +kernel
theorem d211_90 : decode (zB 211) 90 = .ok (.goto 5, 3) := by decide +kernel
theorem d211_93 : decode (zB 211) 93 = .ok (.bipush (-2), 2) := by decide +kernel
theorem d211_95 : decode (zB 211) 95 = .ok (.ireturn, 1) := by decide +kernel
theorem x211 {d : Nat} {M : zM} {Q : Option Value → zM → Prop} {D : yD} {κ : Nat} {x : Int32} (hR : RX M D κ) (hD : OKD D) (hκ : κ + 4000 < 2147483648) (k : ∀ M', RX M' D κ → Fi FY M M' → Q (some (.int (sCount D x))) M') : qC (d + 2) 211 [.ref 136, .int x] M Q := by
  refine qC_of (by decide) (Nat.le_of_ble_eq_true rfl) ?_
  have hC := hR.1
  have hX := hC.1
  have hO : OKW (dT D) (dc D) (dW D) := hC.2.2.1
  have hc6 := hO.1.1
  have hL : XLo [] M (some (dL D)) := hC.2.2.2.2.2.2.1
  have hSa : ∀ s, s < 3 → XSa M s (dS D s) κ := hC.2.2.2.2.1
  have hTk := hC.k
  have hck := hC.2.2.2.2.2.1
  have h240 := hD.2.1
  unfold sCount at k
  rcases zix_c x (n := 16) (by omega) with ⟨w, hw, rfl, ew⟩ | ⟨ew, nw⟩
  · rw [oz_s ew] at k
    by_cases h6 : w < 6
    · rcases (show w = 0 ∨ w = 1 ∨ w = 2 ∨ w = 3 ∨ w = 4 ∨ w = 5 by omega) with rfl | rfl | rfl | rfl | rfl | rfl
      · refine q_iload_n d211_0 rfl ?_
        refine n_tsI (39) 40 d211_1 (by decide) (by decide) rfl (by decide) ?_
        refine q_aload_n d211_40 rfl ?_
        refine q_getv (c := 8) (f := 0) d211_41 ⟨rfl, by decide⟩ (xk_136 hX) hR.2.2.1 ?_
        refine q_iret d211_44 rfl ?_
        exact k _ hR (Fi.refl _ _)
      · refine q_iload_n d211_0 rfl ?_
        refine n_tsI (44) 45 d211_1 (by decide) (by decide) rfl (by decide) ?_
        refine q_aload_n d211_45 rfl ?_
        refine q_getv (c := 8) (f := 30) d211_46 ⟨rfl, by decide⟩ (xk_136 hX) hR.2.2.2.1.2.1 ?_
        refine q_iret d211_49 rfl ?_
        exact k _ hR (Fi.refl _ _)
      · refine q_iload_n d211_0 rfl ?_
        refine n_tsI (49) 50 d211_1 (by decide) (by decide) rfl (by decide) ?_
        refine q_aload_n d211_50 rfl ?_
        refine q_getv (c := 8) (f := 24) d211_51 ⟨rfl, by decide⟩ (xk_136 hX) hL.2.1 ?_
        refine q_iret d211_54 rfl ?_
        exact k _ hR (Fi.refl _ _)
      · refine q_iload_n d211_0 rfl ?_
        refine n_tsI (54) 55 d211_1 (by decide) (by decide) rfl (by decide) ?_
        refine q_aload_n d211_55 rfl ?_
        refine q_v0 d211_56 rfl rfl (xk_136 hX) (Nat.le_of_ble_eq_true rfl) (c212 hR ?_)
        refine q_iret d211_59 rfl ?_
        exact k _ hR (Fi.refl _ _)
      · refine q_iload_n d211_0 rfl ?_
        refine n_tsI (59) 60 d211_1 (by decide) (by decide) rfl (by decide) ?_
        refine q_aload_n d211_60 rfl ?_
        refine q_getv (c := 8) (f := 9) d211_61 ⟨rfl, by decide⟩ (xk_136 hX) hC.2.2.2.1.2.1 ?_
        refine q_iret d211_64 rfl ?_
        exact k _ hR (Fi.refl _ _)
      · refine q_iload_n d211_0 rfl ?_
        refine n_tsI (64) 65 d211_1 (by decide) (by decide) rfl (by decide) ?_
        refine q_aload_n d211_65 rfl ?_
        refine q_getv (c := 8) (f := 10) d211_66 ⟨rfl, by decide⟩ (xk_136 hX) hC.2.2.2.1.2.2 ?_
        refine q_iret d211_69 rfl ?_
        exact k _ hR (Fi.refl _ _)
    · by_cases h10 : w < 10
      · rw [if_neg (by omega), if_neg (by omega), if_neg (by omega), if_neg (by omega), if_neg (by omega), if_neg (by omega), if_pos h10] at k
        refine q_iload_n d211_0 rfl ?_
        refine n_tsO 70 d211_1 (by omega) (Or.inr (by omega)) (by decide) ?_
        refine q_iload_n d211_70 rfl ?_
        refine q_bipush (x := nI 10) d211_71 rfl ?_
        refine q_bipush (x := nI 15) d211_73 rfl ?_
        refine q_s3 d211_75 (Or.inl rfl) rfl (Nat.le_of_ble_eq_true rfl) (c131n (by omega) (by omega) (by omega) (by omega) ?_)
        refine n0_eq 93 d211_78 (by decide) (by decide) (fun _ => ?_) (fun q => absurd q (by decide))
        refine q_bipush (x := (-2)) d211_93 rfl ?_
        refine q_iret d211_95 rfl ?_
        exact k _ hR (Fi.refl _ _)
      · rw [if_neg (by omega), if_neg (by omega), if_neg (by omega), if_neg (by omega), if_neg (by omega), if_neg (by omega), if_neg h10] at k
        refine q_iload_n d211_0 rfl ?_
        refine n_tsO 70 d211_1 (by omega) (Or.inr (by omega)) (by decide) ?_
        refine q_iload_n d211_70 rfl ?_
        refine q_bipush (x := nI 10) d211_71 rfl ?_
        refine q_bipush (x := nI 15) d211_73 rfl ?_
        refine q_s3 d211_75 (Or.inl rfl) rfl (Nat.le_of_ble_eq_true rfl) (c131t ⟨by omega, by omega⟩ (by omega) ?_)
        refine n0_eq 93 d211_78 (by decide) (by decide) (fun q => absurd q (by decide)) (fun _ => ?_)
        refine q_aload_n d211_81 rfl ?_
        refine q_getr (c := 8) (f := 8) d211_82 ⟨rfl, rfl⟩ (xk_136 hX) (xf_balances hX) ?_
        refine q_iload_n d211_85 rfl ?_
        refine q_bipush (x := nI 10) d211_86 rfl ?_
        refine n_isub d211_88 (by omega) ?_
        refine n_iald d211_89 (xk_balances hX) (by omega) (by decide) (hC.2.2.2.1.1 _ (by omega)) ?_
        refine q_goto 95 d211_90 (by decide) ?_
        refine q_iret d211_95 rfl ?_
        exact k _ hR (Fi.refl _ _)
  · rw [oz_n ew] at k
    refine q_iload_n d211_0 rfl ?_
    refine q_tsO 70 d211_1 (by have := zix_none ew; omega) (by decide) ?_
    refine q_iload_n d211_70 rfl ?_
    refine q_bipush (x := nI 10) d211_71 rfl ?_
    refine q_bipush (x := nI 15) d211_73 rfl ?_
    refine q_s3 d211_75 (Or.inl rfl) rfl (Nat.le_of_ble_eq_true rfl) (c131f (by decide) (by have := zix_none ew; omega) (by decide) ?_)
    refine n0_eq 93 d211_78 (by decide) (by decide) (fun _ => ?_) (fun q => absurd q (by decide))
    refine q_bipush (x := (-2)) d211_93 rfl ?_
    refine q_iret d211_95 rfl ?_
    exact k _ hR (Fi.refl _ _)
theorem d213_0 : decode (zB 213) 0 = .ok (.iload_n 1, 1) := by decide +kernel
theorem d213_1 : decode (zB 213) 1 = .ok (.invokestatic 392, 3) := by decide +kernel
theorem d213_4 : decode (zB 213) 4 = .ok (.ifCond .eq 22, 3) := by decide +kernel
theorem d213_7 : decode (zB 213) 7 = .ok (.iload_n 2, 1) := by decide +kernel
theorem d213_8 : decode (zB 213) 8 = .ok (.iconst (-1), 1) := by decide +kernel
theorem d213_9 : decode (zB 213) 9 = .ok (.iconst 1, 1) := by decide +kernel
theorem d213_10 : decode (zB 213) 10 = .ok (.invokestatic 112, 3) := by decide +kernel
theorem d213_13 : decode (zB 213) 13 = .ok (.ifCond .eq 13, 3) := by decide +kernel
theorem d213_16 : decode (zB 213) 16 = .ok (.iload_n 2, 1) := by decide +kernel
theorem d213_17 : decode (zB 213) 17 = .ok (.ifCond .lt 12, 3) := by decide +kernel
theorem d213_20 : decode (zB 213) 20 = .ok (.iload_n 3, 1) := by decide +kernel
theorem d213_21 : decode (zB 213) 21 = .ok (.bipush 40, 2) := by decide +kernel
theorem d213_23 : decode (zB 213) 23 = .ok (.if_icmp .le 6, 3) := by decide +kernel
theorem d213_26 : decode (zB 213) 26 = .ok (.bipush (-2), 2) := by decide +kernel
theorem d213_28 : decode (zB 213) 28 = .ok (.ireturn, 1) := by decide +kernel
theorem d213_29 : decode (zB 213) 29 = .ok (.iload_n 2, 1) := by decide +kernel
theorem d213_30 : decode (zB 213) 30 = .ok (.ifCond .lt 10, 3) := by decide +kernel
theorem d213_33 : decode (zB 213) 33 = .ok (.iload_n 3, 1) := by decide +kernel
theorem d213_34 : decode (zB 213) 34 = .ok (.ifCond .ge 6, 3) := by decide +kernel
theorem d213_37 : decode (zB 213) 37 = .ok (.bipush (-14), 2) := by decide +kernel
theorem d213_39 : decode (zB 213) 39 = .ok (.ireturn, 1) := by decide +kernel
theorem d213_40 : decode (zB 213) 40 = .ok (.aload_n 0, 1) := by decide +kernel
theorem d213_41 : decode (zB 213) 41 = .ok (.getfield 100, 3) := by decide +kernel
theorem d213_44 : decode (zB 213) 44 = .ok (.iload_n 1, 1) := by decide +kernel
theorem d213_45 : decode (zB 213) 45 = .ok (.iload_n 2, 1) := by decide +kernel
theorem d213_46 : decode (zB 213) 46 = .ok (.iastore, 1) := by decide +kernel
theorem d213_47 : decode (zB 213) 47 = .ok (.aload_n 0, 1) := by decide +kernel
theorem d213_48 : decode (zB 213) 48 = .ok (.getfield 103, 3) := by decide +kernel
theorem d213_51 : decode (zB 213) 51 = .ok (.iload_n 1, 1) := by decide +kernel
theorem d213_52 : decode (zB 213) 52 = .ok (.iload_n 2, 1) := by decide +kernel
theorem d213_53 : decode (zB 213) 53 = .ok (.ifCond .ge 7, 3) := by decide +kernel
theorem d213_56 : decode (zB 213) 56 = .ok (.iconst 0, 1) := by decide +kernel
theorem d213_57 : decode (zB 213) 57 = .ok (.goto 4, 3) := by decide +kernel
theorem d213_60 : decode (zB 213) 60 = .ok (.iload_n 3, 1) := by decide +kernel
theorem d213_61 : decode (zB 213) 61 = .ok (.iastore, 1) := by decide +kernel
theorem d213_62 : decode (zB 213) 62 = .ok (.iconst 0, 1) := by decide +kernel
theorem d213_63 : decode (zB 213) 63 = .ok (.istore 4, 2) := by decide +kernel
theorem d213_65 : decode (zB 213) 65 = .ok (.iload 4, 2) := by decide +kernel
theorem d213_67 : decode (zB 213) 67 = .ok (.bipush 40, 2) := by decide +kernel
theorem d213_69 : decode (zB 213) 69 = .ok (.if_icmp .ge 19, 3) := by decide +kernel
theorem d213_72 : decode (zB 213) 72 = .ok (.aload_n 0, 1) := by decide +kernel
theorem d213_73 : decode (zB 213) 73 = .ok (.getfield 106, 3) := by decide +kernel
theorem d213_76 : decode (zB 213) 76 = .ok (.iload_n 1, 1) := by decide +kernel
theorem d213_77 : decode (zB 213) 77 = .ok (.aaload, 1) := by decide +kernel
theorem d213_78 : decode (zB 213) 78 = .ok (.iload 4, 2) := by decide +kernel
theorem d213_80 : decode (zB 213) 80 = .ok (.iconst 0, 1) := by decide +kernel
theorem d213_81 : decode (zB 213) 81 = .ok (.iastore, 1) := by decide +kernel
theorem d213_82 : decode (zB 213) 82 = .ok (.iinc 4 1, 3) := by decide +kernel
theorem d213_85 : decode (zB 213) 85 = .ok (.goto (-20), 3) := by decide +kernel
theorem d213_88 : decode (zB 213) 88 = .ok (.iconst 1, 1) := by decide +kernel
theorem d213_89 : decode (zB 213) 89 = .ok (.ireturn, 1) := by decide +kernel
theorem l213 {d : Nat} {Q : Option Value → zM → Prop} {D : yD} {M0 : zM} {κ h : Nat} {x2 x3 : Int32} (hh : h < 4) (k : ∀ M', RX M' D κ → Fi (fun b _ => 318 < b) M0 M' → Q (some (.int (nI 1))) M') : ∀ (r i : Nat) (M1 : zM), i ≤ 40 → 40 < i + r →  RX M1 D κ → Fi (fun b _ => 318 < b) M0 M1 → qW (zEv (d + 2)) 213 Q 65 [(4, .int (nI i)), (0, .ref 136), (1, .int (nI h)), (2, .int x2), (3, .int x3)] [] M1 := by
  intro r
  induction r with
  | zero => intros; omega
  | succ r ih =>
    intro i M1 h1 h2 hR1 hF
    have hX := hR1.1.1
    refine q_iload d213_65 rfl ?_
    refine q_bipush (x := nI 40) d213_67 rfl ?_
    refine nc_ge 88 d213_69 (by decide) (by omega) (by omega) (fun h69 => ?_) (fun h69 => ?_)
    · refine q_iconstN (z := 1) d213_88 ?_
      refine q_iret d213_89 rfl ?_
      exact k _ hR1 hF
    · refine q_aload_n d213_72 rfl ?_
      refine q_getr (c := 8) (f := 47) d213_73 ⟨rfl, rfl⟩ (xk_136 hX) (xf_items hX) ?_
      refine q_iload_n d213_76 rfl ?_
      refine n_aald d213_77 (xk_items hX) (by decide) (by omega) (by decide) (xr_items hX (by omega)) ?_
      refine q_iload d213_78 rfl ?_
      refine q_iconstN (z := 0) d213_80 ?_
      refine n_iast d213_81 (xa_items hX (by omega)) (by omega) (by decide) ?_
      refine n_iinc 1 d213_82 (by decide) rfl rfl ?_
      refine q_goto 65 d213_85 (by decide) ?_
      exact ih (i + 1) _ (by omega) (by omega) (hR1.items ((Fi.refl _ _).wi (by omega))) (hF.wi (by omega))
theorem x213 {d : Nat} {M : zM} {Q : Option Value → zM → Prop} {D : yD} {κ : Nat} {x y z : Int32} (hR : RX M D κ) (hD : OKD D) (hκ : κ + 4000 < 2147483648) (k : ∀ M' κ', κ' ≤ κ + 240 → RX M' (sSheet D x y z).2 κ' → Fi FY M M' → Q (some (.int (sSheet D x y z).1)) M') : qC (d + 3) 213 [.ref 136, .int x, .int y, .int z] M Q := by
  refine qC_of (by decide) (Nat.le_of_ble_eq_true rfl) ?_
  have hC := hR.1
  have hX := hC.1
  have hO : OKW (dT D) (dc D) (dW D) := hC.2.2.1
  have hc6 := hO.1.1
  have hL : XLo [] M (some (dL D)) := hC.2.2.2.2.2.2.1
  have hSa : ∀ s, s < 3 → XSa M s (dS D s) κ := hC.2.2.2.2.1
  have hTk := hC.k
  have hck := hC.2.2.2.2.2.1
  have h240 := hD.2.1
  unfold sSheet at k
  rcases zix_c x (n := 4) (by omega) with ⟨h, hh, rfl, eh⟩ | ⟨eh, nh⟩
  · rw [oz_s eh] at k
    by_cases hy : y = -1
    · subst hy
      rw [if_pos rfl] at k
      refine q_iload_n d213_0 rfl ?_
      refine q_s1 d213_1 (Or.inl rfl) rfl (Nat.le_of_ble_eq_true rfl) (c207t (by omega) ?_)
      refine n0_eq 26 d213_4 (by decide) (by decide) (fun q => absurd q (by decide)) (fun _ => ?_)
      refine q_iload_n d213_7 rfl ?_
      refine q_iconst (x := (-1)) d213_8 rfl ?_
      refine q_iconstN (z := 1) d213_9 ?_
      refine q_s3 d213_10 (Or.inl rfl) rfl (Nat.le_of_ble_eq_true rfl) (c131v (by omega) ?_)
      refine n0_eq 26 d213_13 (by decide) (by decide) (fun q => absurd q (by decide)) (fun _ => ?_)
      refine q_iload_n d213_16 rfl ?_
      refine i0_lt 29 d213_17 (by decide) (fun h17 => ?_) (fun h17 => (False.elim (h17 (by decide))))
      refine q_iload_n d213_29 rfl ?_
      refine i0_lt 40 d213_30 (by decide) (fun h30 => ?_) (fun h30 => (False.elim (h30 (by decide))))
      refine q_aload_n d213_40 rfl ?_
      refine q_getr (c := 8) (f := 45) d213_41 ⟨rfl, rfl⟩ (xk_136 hX) (xf_sorts hX) ?_
      refine q_iload_n d213_44 rfl ?_
      refine q_iload_n d213_45 rfl ?_
      refine n_iast d213_46 (xk_sorts hX) (by omega) (by decide) ?_
      refine q_aload_n d213_47 rfl ?_
      refine q_getr (c := 8) (f := 46) d213_48 ⟨rfl, rfl⟩ (xk_136 hX) (xf_lengths hX) ?_
      refine q_iload_n d213_51 rfl ?_
      refine q_iload_n d213_52 rfl ?_
      refine i0_ge 60 d213_53 (by decide) (fun h53 => (False.elim (absurd h53 (by decide)))) (fun h53 => ?_)
      refine q_iconstN (z := 0) d213_56 ?_
      refine q_goto 61 d213_57 (by decide) ?_
      refine n_iast d213_61 (xk_lengths hX) (by omega) (by decide) ?_
      refine q_iconstN (z := 0) d213_62 ?_
      refine q_istore d213_63 (by decide) rfl ?_
      have f1 : Fi (fun b k => (b = 319 ∧ k = h) ∨ (b = 320 ∧ k = h) ∨ 320 < b) M (zwi (zwi M 319 h (-1)) 320 h (nI 0)) := ((Fi.refl _ _).wi (Or.inl ⟨rfl, rfl⟩)).wi (Or.inr (Or.inl ⟨rfl, rfl⟩))
      exact l213 hh (fun M' q1 q2 => k M' κ (Nat.le_add_right _ _) q1 (q2.mono (fun b k q => by unfold FY; omega))) 41 0 _ (by omega) (by omega) (hR.row f1 ((wi_n (by omega)).trans (wi_s _ _ _ _)) (wi_s _ _ _ _)) (f1.mono (fun b k q => by omega))
    · rw [if_neg hy] at k
      rcases zix_c y (n := 2) (by omega) with ⟨o, ho, rfl, eo⟩ | ⟨eo, no⟩
      · rw [oz_s eo] at k
        by_cases hz40 : nI 40 < z
        · rw [if_pos hz40] at k
          refine q_iload_n d213_0 rfl ?_
          refine q_s1 d213_1 (Or.inl rfl) rfl (Nat.le_of_ble_eq_true rfl) (c207t (by omega) ?_)
          refine n0_eq 26 d213_4 (by decide) (by decide) (fun q => absurd q (by decide)) (fun _ => ?_)
          refine q_iload_n d213_7 rfl ?_
          refine q_iconst (x := (-1)) d213_8 rfl ?_
          refine q_iconstN (z := 1) d213_9 ?_
          refine q_s3 d213_10 (Or.inl rfl) rfl (Nat.le_of_ble_eq_true rfl) (c131w (by omega) ?_)
          refine n0_eq 26 d213_13 (by decide) (by decide) (fun q => absurd q (by decide)) (fun _ => ?_)
          refine q_iload_n d213_16 rfl ?_
          refine n0_lt 29 d213_17 (by decide) (by omega) (fun q => absurd q (Nat.not_lt_zero _)) (fun _ => ?_)
          refine q_iload_n d213_20 rfl ?_
          refine q_bipush (x := nI 40) d213_21 rfl ?_
          refine ic_le 29 d213_23 (by decide) (fun h23 => (False.elim (Int32.not_lt.mpr h23 hz40))) (fun h23 => ?_)
          refine q_bipush (x := (-2)) d213_26 rfl ?_
          refine q_iret d213_28 rfl ?_
          exact k _ κ (Nat.le_add_right _ _) hR (Fi.refl _ _)
        · rw [if_neg hz40] at k
          by_cases hz0 : z < nI 0
          · rw [if_pos hz0] at k
            refine q_iload_n d213_0 rfl ?_
            refine q_s1 d213_1 (Or.inl rfl) rfl (Nat.le_of_ble_eq_true rfl) (c207t (by omega) ?_)
            refine n0_eq 26 d213_4 (by decide) (by decide) (fun q => absurd q (by decide)) (fun _ => ?_)
            refine q_iload_n d213_7 rfl ?_
            refine q_iconst (x := (-1)) d213_8 rfl ?_
            refine q_iconstN (z := 1) d213_9 ?_
            refine q_s3 d213_10 (Or.inl rfl) rfl (Nat.le_of_ble_eq_true rfl) (c131w (by omega) ?_)
            refine n0_eq 26 d213_13 (by decide) (by decide) (fun q => absurd q (by decide)) (fun _ => ?_)
            refine q_iload_n d213_16 rfl ?_
            refine n0_lt 29 d213_17 (by decide) (by omega) (fun q => absurd q (Nat.not_lt_zero _)) (fun _ => ?_)
            refine q_iload_n d213_20 rfl ?_
            refine q_bipush (x := nI 40) d213_21 rfl ?_
            refine ic_le 29 d213_23 (by decide) (fun h23 => ?_) (fun h23 => (False.elim (h23 (Int32.not_lt.mp hz40))))
            refine q_iload_n d213_29 rfl ?_
            refine n0_lt 40 d213_30 (by decide) (by omega) (fun q => absurd q (Nat.not_lt_zero _)) (fun _ => ?_)
            refine q_iload_n d213_33 rfl ?_
            refine i0_ge 40 d213_34 (by decide) (fun h34 => (False.elim (Int32.not_lt.mpr h34 hz0))) (fun h34 => ?_)
            refine q_bipush (x := (-14)) d213_37 rfl ?_
            refine q_iret d213_39 rfl ?_
            exact k _ κ (Nat.le_add_right _ _) hR (Fi.refl _ _)
          · rw [if_neg hz0] at k
            obtain ⟨v, rfl, hv⟩ := nI_two (z := 40) hz0 hz40 (by decide)
            rw [nI_clamp (by omega)] at k
            refine q_iload_n d213_0 rfl ?_
            refine q_s1 d213_1 (Or.inl rfl) rfl (Nat.le_of_ble_eq_true rfl) (c207t (by omega) ?_)
            refine n0_eq 26 d213_4 (by decide) (by decide) (fun q => absurd q (by decide)) (fun _ => ?_)
            refine q_iload_n d213_7 rfl ?_
            refine q_iconst (x := (-1)) d213_8 rfl ?_
            refine q_iconstN (z := 1) d213_9 ?_
            refine q_s3 d213_10 (Or.inl rfl) rfl (Nat.le_of_ble_eq_true rfl) (c131w (by omega) ?_)
            refine n0_eq 26 d213_13 (by decide) (by decide) (fun q => absurd q (by decide)) (fun _ => ?_)
            refine q_iload_n d213_16 rfl ?_
            refine n0_lt 29 d213_17 (by decide) (by omega) (fun q => absurd q (Nat.not_lt_zero _)) (fun _ => ?_)
            refine q_iload_n d213_20 rfl ?_
            refine q_bipush (x := nI 40) d213_21 rfl ?_
            refine nc_le 29 d213_23 (by decide) (by omega) (by omega) (fun h23 => ?_) (fun h23 => (False.elim (by omega)))
            refine q_iload_n d213_29 rfl ?_
            refine n0_lt 40 d213_30 (by decide) (by omega) (fun q => absurd q (Nat.not_lt_zero _)) (fun _ => ?_)
            refine q_iload_n d213_33 rfl ?_
            refine n0_ge 40 d213_34 (by decide) (by omega) (fun _ => ?_) (fun q => absurd q (Nat.not_lt_zero _))
            refine q_aload_n d213_40 rfl ?_
            refine q_getr (c := 8) (f := 45) d213_41 ⟨rfl, rfl⟩ (xk_136 hX) (xf_sorts hX) ?_
            refine q_iload_n d213_44 rfl ?_
            refine q_iload_n d213_45 rfl ?_
            refine n_iast d213_46 (xk_sorts hX) (by omega) (by decide) ?_
            refine q_aload_n d213_47 rfl ?_
            refine q_getr (c := 8) (f := 46) d213_48 ⟨rfl, rfl⟩ (xk_136 hX) (xf_lengths hX) ?_
            refine q_iload_n d213_51 rfl ?_
            refine q_iload_n d213_52 rfl ?_
            refine n0_ge 60 d213_53 (by decide) (by omega) (fun _ => ?_) (fun q => absurd q (Nat.not_lt_zero _))
            refine q_iload_n d213_60 rfl ?_
            refine n_iast d213_61 (xk_lengths hX) (by omega) (by decide) ?_
            refine q_iconstN (z := 0) d213_62 ?_
            refine q_istore d213_63 (by decide) rfl ?_
            have f1 : Fi (fun b k => (b = 319 ∧ k = h) ∨ (b = 320 ∧ k = h) ∨ 320 < b) M (zwi (zwi M 319 h (nI o)) 320 h (nI v)) := ((Fi.refl _ _).wi (Or.inl ⟨rfl, rfl⟩)).wi (Or.inr (Or.inl ⟨rfl, rfl⟩))
            exact l213 hh (fun M' q1 q2 => k M' κ (Nat.le_add_right _ _) q1 (q2.mono (fun b k q => by unfold FY; omega))) 41 0 _ (by omega) (by omega) (hR.row f1 ((wi_n (by omega)).trans (wi_s _ _ _ _)) (wi_s _ _ _ _)) (f1.mono (fun b k q => by omega))
      · rw [oz_n eo] at k
        refine q_iload_n d213_0 rfl ?_
        refine q_s1 d213_1 (Or.inl rfl) rfl (Nat.le_of_ble_eq_true rfl) (c207t (by omega) ?_)
        refine n0_eq 26 d213_4 (by decide) (by decide) (fun q => absurd q (by decide)) (fun _ => ?_)
        refine q_iload_n d213_7 rfl ?_
        refine q_iconst (x := (-1)) d213_8 rfl ?_
        refine q_iconstN (z := 1) d213_9 ?_
        refine q_s3 d213_10 (Or.inl rfl) rfl (Nat.le_of_ble_eq_true rfl) (c131x hy eo ?_)
        refine n0_eq 26 d213_13 (by decide) (by decide) (fun _ => ?_) (fun q => absurd q (by decide))
        refine q_bipush (x := (-2)) d213_26 rfl ?_
        refine q_iret d213_28 rfl ?_
        exact k _ κ (Nat.le_add_right _ _) hR (Fi.refl _ _)
  · rw [oz_n eh] at k
    refine q_iload_n d213_0 rfl ?_
    refine q_s1 d213_1 (Or.inl rfl) rfl (Nat.le_of_ble_eq_true rfl) (c207f eh ?_)
    refine n0_eq 26 d213_4 (by decide) (by decide) (fun _ => ?_) (fun q => absurd q (by decide))
    refine q_bipush (x := (-2)) d213_26 rfl ?_
    refine q_iret d213_28 rfl ?_
    exact k _ κ (Nat.le_add_right _ _) hR (Fi.refl _ _)
