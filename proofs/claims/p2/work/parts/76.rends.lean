/-! ===== the reference: ends ===== -/
theorem d200_0 : decode (zB 200) 0 = .ok (.iload_n 1, 1) := by decide +kernel
theorem d200_1 : decode (zB 200) 1 = .ok (.invokestatic 345, 3) := by decide +kernel
theorem d200_4 : decode (zB 200) 4 = .ok (.ifCond .eq 12, 3) := by decide +kernel
theorem d200_7 : decode (zB 200) 7 = .ok (.iload_n 2, 1) := by decide +kernel
theorem d200_8 : decode (zB 200) 8 = .ok (.iconst 0, 1) := by decide +kernel
theorem d200_9 : decode (zB 200) 9 = .ok (.iconst 2, 1) := by decide +kernel
theorem d200_10 : decode (zB 200) 10 = .ok (.invokestatic 112, 3) := by decide +kernel
theorem d200_13 : decode (zB 200) 13 = .ok (.ifCond .ne 6, 3) := by decide +kernel
theorem d200_16 : decode (zB 200) 16 = .ok (.bipush (-2), 2) := by decide +kernel
theorem d200_18 : decode (zB 200) 18 = .ok (.ireturn, 1) := by decide +kernel
theorem d200_19 : decode (zB 200) 19 = .ok (.aload_n 0, 1) := by decide +kernel
theorem d200_20 : decode (zB 200) 20 = .ok (.getfield 36, 3) := by decide +kernel
theorem d200_23 : decode (zB 200) 23 = .ok (.iload_n 1, 1) := by decide +kernel
theorem d200_24 : decode (zB 200) 24 = .ok (.iaload, 1) := by decide +kernel
theorem d200_25 : decode (zB 200) 25 = .ok (.ifCond .ne 6, 3) := by decide +kernel
theorem d200_28 : decode (zB 200) 28 = .ok (.bipush (-3), 2) := by decide +kernel
theorem d200_30 : decode (zB 200) 30 = .ok (.ireturn, 1) := by decide +kernel
theorem d200_31 : decode (zB 200) 31 = .ok (.aload_n 0, 1) := by decide +kernel
theorem d200_32 : decode (zB 200) 32 = .ok (.invokevirtual 372, 3) := by decide +kernel
theorem d200_35 : decode (zB 200) 35 = .ok (.iconst 0, 1) := by decide +kernel
theorem d200_36 : decode (zB 200) 36 = .ok (.istore_n 3, 1) := by decide +kernel
theorem d200_37 : decode (zB 200) 37 = .ok (.iload_n 3, 1) := by decide +kernel
theorem d200_38 : decode (zB 200) 38 = .ok (.bipush 60, 2) := by decide +kernel
theorem d200_40 : decode (zB 200) 40 = .ok (.if_icmp .ge 23, 3) := by decide +kernel
theorem d200_43 : decode (zB 200) 43 = .ok (.aload_n 0, 1) := by decide +kernel
theorem d200_44 : decode (zB 200) 44 = .ok (.getfield 36, 3) := by decide +kernel
theorem d200_47 : decode (zB 200) 47 = .ok (.iload_n 1, 1) := by decide +kernel
theorem d200_48 : decode (zB 200) 48 = .ok (.iaload, 1) := by decide +kernel
theorem d200_49 : decode (zB 200) 49 = .ok (.iconst 3, 1) := by decide +kernel
theorem d200_50 : decode (zB 200) 50 = .ok (.if_icmp .ge 13, 3) := by decide +kernel
theorem d200_53 : decode (zB 200) 53 = .ok (.aload_n 0, 1) := by decide +kernel
theorem d200_54 : decode (zB 200) 54 = .ok (.invokevirtual 354, 3) := by decide +kernel
theorem d200_57 : decode (zB 200) 57 = .ok (.iinc 3 1, 3) := by decide +kernel
theorem d200_60 : decode (zB 200) 60 = .ok (.goto (-23), 3) := by decide +kernel
theorem d200_63 : decode (zB 200) 63 = .ok (.iload_n 2, 1) := by decide +kernel
theorem d200_64 : decode (zB 200) 64 = .ok (.ifCond .ne 21, 3) := by decide +kernel
theorem d200_67 : decode (zB 200) 67 = .ok (.aload_n 0, 1) := by decide +kernel
theorem d200_68 : decode (zB 200) 68 = .ok (.getfield 36, 3) := by decide +kernel
theorem d200_71 : decode (zB 200) 71 = .ok (.iload_n 1, 1) := by decide +kernel
theorem d200_72 : decode (zB 200) 72 = .ok (.iaload, 1) := by decide +kernel
theorem d200_73 : decode (zB 200) 73 = .ok (.iconst 3, 1) := by decide +kernel
theorem d200_74 : decode (zB 200) 74 = .ok (.if_icmp .ge 7, 3) := by decide +kernel
theorem d200_77 : decode (zB 200) 77 = .ok (.iconst (-1), 1) := by decide +kernel
theorem d200_78 : decode (zB 200) 78 = .ok (.goto 30, 3) := by decide +kernel
theorem d200_81 : decode (zB 200) 81 = .ok (.iload_n 3, 1) := by decide +kernel
theorem d200_82 : decode (zB 200) 82 = .ok (.goto 26, 3) := by decide +kernel
theorem d200_85 : decode (zB 200) 85 = .ok (.iload_n 2, 1) := by decide +kernel
theorem d200_86 : decode (zB 200) 86 = .ok (.iconst 1, 1) := by decide +kernel
theorem d200_87 : decode (zB 200) 87 = .ok (.if_icmp .ne 12, 3) := by decide +kernel
theorem d200_90 : decode (zB 200) 90 = .ok (.aload_n 0, 1) := by decide +kernel
theorem d200_91 : decode (zB 200) 91 = .ok (.getfield 36, 3) := by decide +kernel
theorem d200_94 : decode (zB 200) 94 = .ok (.iload_n 1, 1) := by decide +kernel
theorem d200_95 : decode (zB 200) 95 = .ok (.iaload, 1) := by decide +kernel
theorem d200_96 : decode (zB 200) 96 = .ok (.goto 12, 3) := by decide +kernel
theorem d200_99 : decode (zB 200) 99 = .ok (.aload_n 0, 1) := by decide +kernel
theorem d200_100 : decode (zB 200) 100 = .ok (.iload_n 1, 1) := by decide +kernel
theorem d200_101 : decode (zB 200) 101 = .ok (.iconst 3, 1) := by decide +kernel
theorem d200_102 : decode (zB 200) 102 = .ok (.invokevirtual 304, 3) := by decide +kernel
theorem d200_105 : decode (zB 200) 105 = .ok (.invokestatic 214, 3) := by decide +kernel
theorem d200_108 : decode (zB 200) 108 = .ok (.istore 4, 2) := by decide +kernel
theorem d200_110 : decode (zB 200) 110 = .ok (.aload_n 0, 1) := by decide +kernel
theorem d200_111 : decode (zB 200) 111 = .ok (.invokevirtual 375, 3) := by decide +kernel
theorem d200_114 : decode (zB 200) 114 = .ok (.iload 4, 2) := by decide +kernel
theorem d200_116 : decode (zB 200) 116 = .ok (.ireturn, 1) := by decide +kernel
def sEv (s w : Nat) (E : Nat × yX) : Int32 := if w = 0 then (if gt (yxs E.2 s) < 3 then -1 else nI E.1) else if w = 1 then nI (gt (yxs E.2 s)) else ybc (nI (gm (yxs E.2 s) 3))
theorem e200 {d : Nat} {Q : Option Value → zM → Prop} {D : yD} {M0 : zM} {s w κ : Nat} {M1 : zM} {X1 : yX} {i κ1 : Nat} (hR : RX M0 D κ) (hκ : κ + 4000 < 2147483648) (hs : s < 3) (hw : w < 3) (k : ∀ M', RX M' D κ → Fi FY M0 M' → Q (some (.int (sEv s w (i, X1)))) M') (hi : i ≤ 60) (hC1 : CX (dL D) M1 (dT D) (dc D) (dnm D) X1 κ1) (h25 : zi M1 136 25 = nI 1) (h21 : zi M1 136 21 = -1) (hK : KA M0 M1 0) (hF : Fi FZ M0 M1) : qW (zEv (d + 6)) 200 Q 63 [(3, .int (nI i)), (0, .ref 136), (1, .int (nI s)), (2, .int (nI w))] [] M1 := by
  have hg5 : gt (yxs X1 s) ≤ 5 := (hC1.2.2.1.2.2 s hs).1
  have hg5' : gt (X1.1.2 s) ≤ 5 := hg5
  rcases (show w = 0 ∨ w = 1 ∨ w = 2 by omega) with rfl | rfl | rfl
  · refine q_iload_n d200_63 rfl ?_
    refine n0_ne 85 d200_64 (by decide) (by decide) (fun q => absurd q (by decide)) (fun _ => ?_)
    refine q_aload_n d200_67 rfl ?_
    refine q_getr (c := 8) (f := 11) d200_68 ⟨rfl, rfl⟩ (xk_136 hC1.1) (xf_states hC1.1) ?_
    refine q_iload_n d200_71 rfl ?_
    refine n_iald d200_72 (xk_states hC1.1) (by omega) (by decide) (hC1.2.2.2.2.1 _ (by omega)).1.1 ?_
    refine q_iconstN (z := 3) d200_73 ?_
    refine nc_ge 81 d200_74 (by decide) (by omega) (by omega) (fun h74 => ?_) (fun h74 => ?_)
    · refine q_iload_n d200_81 rfl ?_
      refine q_goto 108 d200_82 (by decide) ?_
      refine q_istore d200_108 (by decide) rfl ?_
      refine q_aload_n d200_110 rfl ?_
      refine q_v0 d200_111 rfl rfl (xk_136 hC1.1) (Nat.le_of_ble_eq_true rfl) (c199 hC1.1 hK (fun M2 hK2 q25 f2 => ?_))
      refine q_iload d200_114 rfl ?_
      refine q_iret d200_116 rfl ?_
      have hLo : XLo (dL D) M1 X1.2 := hC1.2.2.2.2.2.2.1
      rw [hC1.l0 h25] at hLo
      have hw2 := hR.wake hF h21 hLo.2 hK2 q25 f2
      have e : sEv s 0 (i, X1) = nI i := (if_pos rfl).trans (if_neg (by show ¬ gt (yxs X1 s) < 3; unfold yxs; omega))
      rw [e] at k
      exact k _ hw2.1 hw2.2
    · refine q_iconst (x := (-1)) d200_77 rfl ?_
      refine q_goto 108 d200_78 (by decide) ?_
      refine q_istore d200_108 (by decide) rfl ?_
      refine q_aload_n d200_110 rfl ?_
      refine q_v0 d200_111 rfl rfl (xk_136 hC1.1) (Nat.le_of_ble_eq_true rfl) (c199 hC1.1 hK (fun M2 hK2 q25 f2 => ?_))
      refine q_iload d200_114 rfl ?_
      refine q_iret d200_116 rfl ?_
      have hLo : XLo (dL D) M1 X1.2 := hC1.2.2.2.2.2.2.1
      rw [hC1.l0 h25] at hLo
      have hw2 := hR.wake hF h21 hLo.2 hK2 q25 f2
      have e : sEv s 0 (i, X1) = -1 := (if_pos rfl).trans (if_pos (by show gt (yxs X1 s) < 3; unfold yxs; omega))
      rw [e] at k
      exact k _ hw2.1 hw2.2
  · refine q_iload_n d200_63 rfl ?_
    refine n0_ne 85 d200_64 (by decide) (by decide) (fun _ => ?_) (fun q => absurd q (by decide))
    refine q_iload_n d200_85 rfl ?_
    refine q_iconstN (z := 1) d200_86 ?_
    refine nc_ne 99 d200_87 (by decide) (by decide) (by decide) (fun q => absurd q (by decide)) (fun _ => ?_)
    refine q_aload_n d200_90 rfl ?_
    refine q_getr (c := 8) (f := 11) d200_91 ⟨rfl, rfl⟩ (xk_136 hC1.1) (xf_states hC1.1) ?_
    refine q_iload_n d200_94 rfl ?_
    refine n_iald d200_95 (xk_states hC1.1) (by omega) (by decide) (hC1.2.2.2.2.1 _ (by omega)).1.1 ?_
    refine q_goto 108 d200_96 (by decide) ?_
    refine q_istore d200_108 (by decide) rfl ?_
    refine q_aload_n d200_110 rfl ?_
    refine q_v0 d200_111 rfl rfl (xk_136 hC1.1) (Nat.le_of_ble_eq_true rfl) (c199 hC1.1 hK (fun M2 hK2 q25 f2 => ?_))
    refine q_iload d200_114 rfl ?_
    refine q_iret d200_116 rfl ?_
    have hLo : XLo (dL D) M1 X1.2 := hC1.2.2.2.2.2.2.1
    rw [hC1.l0 h25] at hLo
    have hw2 := hR.wake hF h21 hLo.2 hK2 q25 f2
    exact k _ hw2.1 hw2.2
  · refine q_iload_n d200_63 rfl ?_
    refine n0_ne 85 d200_64 (by decide) (by decide) (fun _ => ?_) (fun q => absurd q (by decide))
    refine q_iload_n d200_85 rfl ?_
    refine q_iconstN (z := 1) d200_86 ?_
    refine nc_ne 99 d200_87 (by decide) (by decide) (by decide) (fun _ => ?_) (fun q => absurd q (by decide))
    refine q_aload_n d200_99 rfl ?_
    refine q_iload_n d200_100 rfl ?_
    refine q_iconstN (z := 3) d200_101 ?_
    refine q_v2 d200_102 rfl rfl (xk_136 hC1.1) (Nat.le_of_ble_eq_true rfl) (c179 (v := 3) hC1.1 hs (hC1.2.2.2.2.1 s hs) hC1.k (hC1.2.2.1.2.2 s hs) (by omega) ?_)
    refine q_s1 d200_105 (Or.inl rfl) rfl (Nat.le_of_ble_eq_true rfl) (c105 ?_)
    refine q_istore d200_108 (by decide) rfl ?_
    refine q_aload_n d200_110 rfl ?_
    refine q_v0 d200_111 rfl rfl (xk_136 hC1.1) (Nat.le_of_ble_eq_true rfl) (c199 hC1.1 hK (fun M2 hK2 q25 f2 => ?_))
    refine q_iload d200_114 rfl ?_
    refine q_iret d200_116 rfl ?_
    have hLo : XLo (dL D) M1 X1.2 := hC1.2.2.2.2.2.2.1
    rw [hC1.l0 h25] at hLo
    have hw2 := hR.wake hF h21 hLo.2 hK2 q25 f2
    exact k _ hw2.1 hw2.2
theorem l200 {d : Nat} {Q : Option Value → zM → Prop} {D : yD} {M0 : zM} {s w κ : Nat} {E : Nat × yX} (hR : RX M0 D κ) (hκ : κ + 4000 < 2147483648) (hs : s < 3) (hw : w < 3) (k : ∀ M', RX M' D κ → Fi FY M0 M' → Q (some (.int (sEv s w E))) M') : ∀ (r i : Nat) (κ1 : Nat) (M1 : zM) (X1 : yX), i ≤ 60 → 60 < i + r →  CX (dL D) M1 (dT D) (dc D) (dnm D) X1 κ1 → zi M1 136 25 = nI 1 → zi M1 136 21 = -1 → KA M0 M1 0 → Fi FZ M0 M1 → κ1 ≤ κ + 36 * i → yov60 (dT D) (dnm D) s (60 - i) i X1 = E → qW (zEv (d + 6)) 200 Q 37 [(3, .int (nI i)), (0, .ref 136), (1, .int (nI s)), (2, .int (nI w))] [] M1 := by
  intro r
  induction r with
  | zero => intros; omega
  | succ r ih =>
    intro i κ1 M1 X1 h1 h2 hC1 h25 h21 hK hF hk1 hy
    have hg5 : gt (X1.1.2 s) ≤ 5 := (hC1.2.2.1.2.2 s hs).1
    refine q_iload_n d200_37 rfl ?_
    refine q_bipush (x := nI 60) d200_38 rfl ?_
    refine nc_ge 63 d200_40 (by decide) (by omega) (by omega) (fun h40 => ?_) (fun h40 => ?_)
    · first
      | (have e : E = (i, X1) := by
           rw [show 60 - i = 0 by omega] at hy; exact hy.symm
         subst e
         exact e200 hR hκ hs hw k (by omega) hC1 h25 h21 hK hF)
      | (have e : E = (i, X1) := by
           rw [show 60 - i = (60 - (i + 1)) + 1 by omega, yov60, if_neg (by show ¬ gt (X1.1.2 s) < 3; omega)] at hy; exact hy.symm
         subst e
         exact e200 hR hκ hs hw k (by omega) hC1 h25 h21 hK hF)
    · refine q_aload_n d200_43 rfl ?_
      refine q_getr (c := 8) (f := 11) d200_44 ⟨rfl, rfl⟩ (xk_136 hC1.1) (xf_states hC1.1) ?_
      refine q_iload_n d200_47 rfl ?_
      refine n_iald d200_48 (xk_states hC1.1) (by omega) (by decide) (hC1.2.2.2.2.1 _ (by omega)).1.1 ?_
      refine q_iconstN (z := 3) d200_49 ?_
      refine nc_ge 63 d200_50 (by decide) (by omega) (by omega) (fun h50 => ?_) (fun h50 => ?_)
      · first
        | (have e : E = (i, X1) := by
             rw [show 60 - i = 0 by omega] at hy; exact hy.symm
           subst e
           exact e200 hR hκ hs hw k (by omega) hC1 h25 h21 hK hF)
        | (have e : E = (i, X1) := by
             rw [show 60 - i = (60 - (i + 1)) + 1 by omega, yov60, if_neg (by show ¬ gt (X1.1.2 s) < 3; omega)] at hy; exact hy.symm
           subst e
           exact e200 hR hκ hs hw k (by omega) hC1 h25 h21 hK hF)
      · refine q_aload_n d200_53 rfl ?_
        refine q_v0 d200_54 rfl rfl (xk_136 hC1.1) (Nat.le_of_ble_eq_true rfl) (c175 hC1 (by rw [hC1.l0 h25]; show 0 + 39 ≤ 240; omega) (by omega) (fun M2 κ2 hk2 hC2 f2 => ?_))
        refine n_iinc 1 d200_57 (by decide) rfl rfl ?_
        refine q_goto 37 d200_60 (by decide) ?_
        exact ih (i + 1) κ2 _ _ (by omega) (by omega) hC2 ((f2.1 _ _ (by unfold FX; omega)).trans h25) ((f2.1 _ _ (by unfold FX; omega)).trans h21) (hK.fi f2 (fun b k q1 q2 => by unfold FA at q1; unfold FX at q2; omega)) (hF.trans (f2.mono (fun b k q => FX_Z q))) (by omega) (by rw [show 60 - i = (60 - (i + 1)) + 1 by omega, yov60, if_pos (by show gt (X1.1.2 s) < 3; omega)] at hy; exact hy)
theorem x200 {d : Nat} {M : zM} {Q : Option Value → zM → Prop} {D : yD} {κ : Nat} {x y : Int32} (hR : RX M D κ) (hD : OKD D) (hκ : κ + 4000 < 2147483648) (k : ∀ M', RX M' D κ → Fi FY M M' → Q (some (.int (sEnds D x y))) M') : qC (d + 7) 200 [.ref 136, .int x, .int y] M Q := by
  refine qC_of (by decide) (Nat.le_of_ble_eq_true rfl) ?_
  have hC := hR.1
  have hX := hC.1
  have hO : OKW (dT D) (dc D) (dW D) := hC.2.2.1
  have hc6 := hO.1.1
  have hL : XLo [] M (some (dL D)) := hC.2.2.2.2.2.2.1
  have hSa : ∀ s, s < 3 → XSa M s (dS D s) κ := hC.2.2.2.2.1
  have hTk := hC.k
  have hck := hC.2.2.2.2.2.1
  have h240 := hD.2.1
  unfold sEnds at k
  rcases zix_c x (n := 3) (by omega) with ⟨s, hs, rfl, es⟩ | ⟨es, ns⟩
  · rw [oz_s es] at k
    have hOs : OKS (dT D) (dc D) (dS D s) := hO.2.2 s hs
    have hg5 := hOs.1
    have hsa := hSa s hs
    rcases zix_c y (n := 3) (by omega) with ⟨w, hw, rfl, ew⟩ | ⟨ew, nw⟩
    · rw [oz_s ew] at k
      by_cases h0 : gt (dS D s) = 0
      · rw [if_pos h0] at k
        refine q_iload_n d200_0 rfl ?_
        refine q_s1 d200_1 (Or.inl rfl) rfl (Nat.le_of_ble_eq_true rfl) (c169t (by omega) ?_)
        refine n0_eq 16 d200_4 (by decide) (by decide) (fun q => absurd q (by decide)) (fun _ => ?_)
        refine q_iload_n d200_7 rfl ?_
        refine q_iconstN (z := 0) d200_8 ?_
        refine q_iconstN (z := 2) d200_9 ?_
        refine q_s3 d200_10 (Or.inl rfl) rfl (Nat.le_of_ble_eq_true rfl) (c131t ⟨by omega, by omega⟩ (by omega) ?_)
        refine n0_ne 19 d200_13 (by decide) (by decide) (fun _ => ?_) (fun q => absurd q (by decide))
        refine q_aload_n d200_19 rfl ?_
        refine q_getr (c := 8) (f := 11) d200_20 ⟨rfl, rfl⟩ (xk_136 hX) (xf_states hX) ?_
        refine q_iload_n d200_23 rfl ?_
        refine n_iald d200_24 (xk_states hX) (by omega) (by decide) (hSa _ (by omega)).1.1 ?_
        refine n0_ne 31 d200_25 (by decide) (by omega) (fun h25 => (False.elim (h25 h0))) (fun h25 => ?_)
        refine q_bipush (x := (-3)) d200_28 rfl ?_
        refine q_iret d200_30 rfl ?_
        exact k _ hR (Fi.refl _ _)
      · rw [if_neg h0] at k
        refine q_iload_n d200_0 rfl ?_
        refine q_s1 d200_1 (Or.inl rfl) rfl (Nat.le_of_ble_eq_true rfl) (c169t (by omega) ?_)
        refine n0_eq 16 d200_4 (by decide) (by decide) (fun q => absurd q (by decide)) (fun _ => ?_)
        refine q_iload_n d200_7 rfl ?_
        refine q_iconstN (z := 0) d200_8 ?_
        refine q_iconstN (z := 2) d200_9 ?_
        refine q_s3 d200_10 (Or.inl rfl) rfl (Nat.le_of_ble_eq_true rfl) (c131t ⟨by omega, by omega⟩ (by omega) ?_)
        refine n0_ne 19 d200_13 (by decide) (by decide) (fun _ => ?_) (fun q => absurd q (by decide))
        refine q_aload_n d200_19 rfl ?_
        refine q_getr (c := 8) (f := 11) d200_20 ⟨rfl, rfl⟩ (xk_136 hX) (xf_states hX) ?_
        refine q_iload_n d200_23 rfl ?_
        refine n_iald d200_24 (xk_states hX) (by omega) (by decide) (hSa _ (by omega)).1.1 ?_
        refine n0_ne 31 d200_25 (by decide) (by omega) (fun h25 => ?_) (fun h25 => (False.elim (h0 h25)))
        refine q_aload_n d200_31 rfl ?_
        refine q_v0 d200_32 rfl rfl (xk_136 hX) (Nat.le_of_ble_eq_true rfl) (c198 hR (fun M1 hC1 q25 q21 hK f1 => ?_))
        refine q_iconstN (z := 0) d200_35 ?_
        refine q_istore_n d200_36 (by decide) rfl ?_
        exact l200 (E := yov60 (dT D) (dnm D) s 60 0 (dW D, none)) hR hκ hs hw (fun M' h1 h2 => k M' h1 h2) 61 0 κ M1 _ (by omega) (by omega) hC1 q25 q21 hK f1 (by omega) rfl
    · rw [oz_n ew] at k
      refine q_iload_n d200_0 rfl ?_
      refine q_s1 d200_1 (Or.inl rfl) rfl (Nat.le_of_ble_eq_true rfl) (c169t (by omega) ?_)
      refine n0_eq 16 d200_4 (by decide) (by decide) (fun q => absurd q (by decide)) (fun _ => ?_)
      refine q_iload_n d200_7 rfl ?_
      refine q_iconstN (z := 0) d200_8 ?_
      refine q_iconstN (z := 2) d200_9 ?_
      refine q_s3 d200_10 (Or.inl rfl) rfl (Nat.le_of_ble_eq_true rfl) (c131f (by decide) (by have := zix_none ew; omega) (by decide) ?_)
      refine n0_ne 19 d200_13 (by decide) (by decide) (fun q => absurd q (by decide)) (fun _ => ?_)
      refine q_bipush (x := (-2)) d200_16 rfl ?_
      refine q_iret d200_18 rfl ?_
      exact k _ hR (Fi.refl _ _)
  · rw [oz_n es] at k
    refine q_iload_n d200_0 rfl ?_
    refine q_s1 d200_1 (Or.inl rfl) rfl (Nat.le_of_ble_eq_true rfl) (c169f es ?_)
    refine n0_eq 16 d200_4 (by decide) (by decide) (fun _ => ?_) (fun q => absurd q (by decide))
    refine q_bipush (x := (-2)) d200_16 rfl ?_
    refine q_iret d200_18 rfl ?_
    exact k _ hR (Fi.refl _ _)
