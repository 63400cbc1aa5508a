/-! ===== the reference: parts are read ===== -/
/-! the reference reads lines -/
theorem ykw_1 {b : Nat → Nat} {s e : Nat} (h : e - s = 1) : ykw b s e = 6 := by
  have f : ∀ i, i < 6 → ¬ ywd b s e i = true := fun i hi => by
    rw [ywd_f1 (by rw [h]; exact (show ∀ i, i < 6 → ¬ 1 = (ywl i).length by decide) i hi)]; decide
  unfold ykw
  rw [ykr, if_neg (f 0 (by omega)), ykr, if_neg (f 1 (by omega)), ykr, if_neg (f 2 (by omega)), ykr, if_neg (f 3 (by omega)), ykr, if_neg (f 4 (by omega)), ykr, if_neg (f 5 (by omega))]
  rfl
theorem ytx_n {b : Nat → Nat} {k : yK} (h : ytx b k = none) : (k.1 = 1 ∧ ykw b k.2.1 k.2.2 = 6) ∨ k.1 = 3 := by
  unfold ytx at h
  by_cases c0 : k.1 = 0
  · rw [if_pos c0] at h; cases h
  · rw [if_neg c0] at h
    by_cases c1 : k.1 = 1
    · rw [if_pos c1] at h
      by_cases d1 : k.2.2 - k.2.1 = 1 ∧ b k.2.1 ≤ 102
      · rw [if_pos d1] at h; cases h
      · rw [if_neg d1] at h
        by_cases d2 : ykw b k.2.1 k.2.2 < 6
        · rw [if_pos d2] at h; cases h
        · have h6 : ykw b k.2.1 k.2.2 ≤ 6 := ykr_le 6 0
          exact Or.inl ⟨c1, by omega⟩
    · rw [if_neg c1] at h
      by_cases c2 : k.1 = 2
      · rw [if_pos c2] at h; cases h
      · rw [if_neg c2] at h
        by_cases c3 : k.1 = 3
        · exact Or.inr c3
        · rw [if_neg c3] at h; cases h
theorem pPt_b {n ah : Nat} {b : Nat → Nat} {br : pFn} {top : Bool} {K : yQ} (h : ytx b K.1 = none) : pPt n b br top ah K = .error K.1.2.1 := by
  unfold pPt
  rcases ytx_n h with ⟨h1, h2⟩ | h1
  · rw [if_pos h1]
    unfold pSt
    exact if_pos (Or.inl h2)
  · rw [if_neg (by omega), if_neg (by omega), if_neg (by omega)]
theorem pLd_b {n ah m : Nat} {b : Nat → Nat} {top : Bool} {K : yQ} (h : ytx b K.1 = none) : pLd n b m top ah K = .error K.1.2.1 := by
  rw [pLd_eq]
  unfold pLn
  rw [pPt_b h]
theorem pEx_b {n c own : Nat} {b : Nat → Nat} {K : yQ} (h : ytx b K.1 = none) (hc : 3 < c) : pEx n b c own K = .error K.1.2.1 := by
  unfold pEx
  rcases ytx_n h with ⟨h1, h2⟩ | h1
  · exact if_neg (by omega)
  · exact if_neg (by omega)
theorem pRe_b {n ah r own : Nat} {b : Nat → Nat} {pt : pFn} {K : yQ} (h : ytx b K.1 = none) : pRe n b pt ah r own K = .ok (own, K) := pRe_no (by rcases ytx_n h with ⟨h1, h2⟩ | h1 <;> omega)
theorem GX.n {M : zM} {c n o : Nat} {b : Nat → Nat} {K : yQ} (h : GX M c n b o K) : ytx b K.1 ≠ none := by
  obtain ⟨t, v, h1, h2⟩ := h.2.2.2.2.2.1
  intro q; rw [h1] at q; cases q
theorem GX.bb {M : zM} {c n o : Nat} {b : Nat → Nat} {K : yQ} (h : GX M c n b o K) : ∀ i, i < n → b i < 256 := fun i hi => (h.2.2.2.1.2.2 i hi).2
theorem GX.pi {M : zM} {c n o ah : Nat} {b : Nat → Nat} {K : yQ} (h : GX M c n b o K) : GX (zwi M 136 36 (nI ah)) c n b o (K.1, pPi K.2 ah) := by
  have f : Fi (fun a k => a = 136 ∧ k = 36) M (zwi M 136 36 (nI ah)) := (Fi.refl _ _).wi ⟨rfl, rfl⟩
  obtain ⟨h1, h2, h3, h4, ⟨h5, h6⟩, ⟨t, v, h7, h8, h9, h10⟩, h11, h12, h13, h14⟩ := h
  exact ⟨SX_fi h1 f, h2, (f.1 _ _ (by omega)).trans h3, TXp_fi h4 f ⟨by omega, fun k => by omega⟩, ⟨(f.1 _ _ (by omega)).trans h5, (f.1 _ _ (by omega)).trans h6⟩, ⟨t, v, h7, (f.1 _ _ (by omega)).trans h8, fun q => (f.1 _ _ (by omega)).trans (h9 q), (f.1 _ _ (by omega)).trans h10⟩, (f.1 _ _ (by omega)).trans h11, wi_s _ _ _ _, (f.1 _ _ (by omega)).trans h13, h14.fi f (fun a k q => by omega)⟩
theorem GX.op {M : zM} {c n o p : Nat} {b : Nat → Nat} {K : yQ} (h : GX M c n b o K) : GX (zwi M 136 35 (nI p)) c n b p K := by
  have f : Fi (fun a k => a = 136 ∧ k = 35) M (zwi M 136 35 (nI p)) := (Fi.refl _ _).wi ⟨rfl, rfl⟩
  obtain ⟨h1, h2, h3, h4, ⟨h5, h6⟩, ⟨t, v, h7, h8, h9, h10⟩, h11, h12, h13, h14⟩ := h
  exact ⟨SX_fi h1 f, h2, (f.1 _ _ (by omega)).trans h3, TXp_fi h4 f ⟨by omega, fun k => by omega⟩, ⟨(f.1 _ _ (by omega)).trans h5, (f.1 _ _ (by omega)).trans h6⟩, ⟨t, v, h7, (f.1 _ _ (by omega)).trans h8, fun q => (f.1 _ _ (by omega)).trans (h9 q), (f.1 _ _ (by omega)).trans h10⟩, wi_s _ _ _ _, (f.1 _ _ (by omega)).trans h12, (f.1 _ _ (by omega)).trans h13, h14.fi f (fun a k q => by omega)⟩
theorem FJ_w {M : zM} {c k : Nat} {v : Int32} (h1 : 30 < k) (h2 : k < 39) : Fi (FJ c) M (zwi M 136 k v) := (Fi.refl _ _).wi (Or.inl ⟨rfl, h1, h2⟩)
def cPX (m : Nat) : Prop := ∀ (d : Nat) (M : zM) (Q : Option Value → zM → Prop) (K : yQ) (a1 a2 c n : Nat) (b : Nat → Nat), GX M c n b (3 - m) K → yQv n b K → a1 < 2 ^ tn K.2 → a2 < 2 ^ tn K.2 → (tq m = true → a1 = 0) → cOX Q M c n b (3 - m) (pPt n b (pB0 n b m) (tq m) (a1 ||| a2) K) → qC (d + 3 * m + 13) 139 [.ref 136, .int (nI a1), .int (nI a2)] M Q
def cLX (m : Nat) : Prop := ∀ (d : Nat) (M : zM) (Q : Option Value → zM → Prop) (K : yQ) (ah c n : Nat) (b : Nat → Nat), GX M c n b (3 - m) K → yQv n b K → ah < 2 ^ tn K.2 → (tq m = true → ah = 0) → cOX Q M c n b (3 - m) (pLd n b m (tq m) ah K) → qC (d + 3 * m + 14) 138 [.ref 136, .int (nI ah)] M Q
def cBX (m : Nat) : Prop := ∀ (d : Nat) (M : zM) (Q : Option Value → zM → Prop) (K : yQ) (ah c n : Nat) (b : Nat → Nat), GX M c n b (3 - (m + 1)) K → yQv n b K → ah < 2 ^ tn K.2 → cOX Q M c n b (3 - (m + 1)) (pBr n b (pLd n b m false) ah K) → qC (d + 3 * m + 15) 141 [.ref 136, .int (nI ah)] M Q
theorem d139_0 : decode (zB 139) 0 = .ok (.aload_n 0, 1) := by decide +kernel
theorem d139_1 : decode (zB 139) 1 = .ok (.getfield 162, 3) := by decide +kernel
theorem d139_4 : decode (zB 139) 4 = .ok (.ifCond .eq 5, 3) := by decide +kernel
theorem d139_7 : decode (zB 139) 7 = .ok (.iconst 0, 1) := by decide +kernel
theorem d139_8 : decode (zB 139) 8 = .ok (.ireturn, 1) := by decide +kernel
theorem d139_9 : decode (zB 139) 9 = .ok (.aload_n 0, 1) := by decide +kernel
theorem d139_10 : decode (zB 139) 10 = .ok (.bipush 33, 2) := by decide +kernel
theorem d139_12 : decode (zB 139) 12 = .ok (.invokevirtual 182, 3) := by decide +kernel
theorem d139_15 : decode (zB 139) 15 = .ok (.ifCond .eq 34, 3) := by decide +kernel
theorem d139_18 : decode (zB 139) 18 = .ok (.aload_n 0, 1) := by decide +kernel
theorem d139_19 : decode (zB 139) 19 = .ok (.getfield 185, 3) := by decide +kernel
theorem d139_22 : decode (zB 139) 22 = .ok (.ifCond .gt 11, 3) := by decide +kernel
theorem d139_25 : decode (zB 139) 25 = .ok (.aload_n 0, 1) := by decide +kernel
theorem d139_26 : decode (zB 139) 26 = .ok (.getfield 188, 3) := by decide +kernel
theorem d139_29 : decode (zB 139) 29 = .ok (.iconst (-1), 1) := by decide +kernel
theorem d139_30 : decode (zB 139) 30 = .ok (.if_icmp .eq 8, 3) := by decide +kernel
theorem d139_33 : decode (zB 139) 33 = .ok (.aload_n 0, 1) := by decide +kernel
theorem d139_34 : decode (zB 139) 34 = .ok (.iconst 1, 1) := by decide +kernel
theorem d139_35 : decode (zB 139) 35 = .ok (.putfield 162, 3) := by decide +kernel
theorem d139_38 : decode (zB 139) 38 = .ok (.aload_n 0, 1) := by decide +kernel
theorem d139_39 : decode (zB 139) 39 = .ok (.iload_n 2, 1) := by decide +kernel
theorem d139_40 : decode (zB 139) 40 = .ok (.putfield 188, 3) := by decide +kernel
theorem d139_43 : decode (zB 139) 43 = .ok (.aload_n 0, 1) := by decide +kernel
theorem d139_44 : decode (zB 139) 44 = .ok (.invokevirtual 175, 3) := by decide +kernel
theorem d139_47 : decode (zB 139) 47 = .ok (.iconst 0, 1) := by decide +kernel
theorem d139_48 : decode (zB 139) 48 = .ok (.ireturn, 1) := by decide +kernel
theorem d139_49 : decode (zB 139) 49 = .ok (.aload_n 0, 1) := by decide +kernel
theorem d139_50 : decode (zB 139) 50 = .ok (.bipush 123, 2) := by decide +kernel
theorem d139_52 : decode (zB 139) 52 = .ok (.invokevirtual 182, 3) := by decide +kernel
theorem d139_55 : decode (zB 139) 55 = .ok (.ifCond .eq 11, 3) := by decide +kernel
theorem d139_58 : decode (zB 139) 58 = .ok (.aload_n 0, 1) := by decide +kernel
theorem d139_59 : decode (zB 139) 59 = .ok (.iload_n 1, 1) := by decide +kernel
theorem d139_60 : decode (zB 139) 60 = .ok (.iload_n 2, 1) := by decide +kernel
theorem d139_61 : decode (zB 139) 61 = .ok (.ior, 1) := by decide +kernel
theorem d139_62 : decode (zB 139) 62 = .ok (.invokevirtual 191, 3) := by decide +kernel
theorem d139_65 : decode (zB 139) 65 = .ok (.ireturn, 1) := by decide +kernel
theorem d139_66 : decode (zB 139) 66 = .ok (.aload_n 0, 1) := by decide +kernel
theorem d139_67 : decode (zB 139) 67 = .ok (.getfield 166, 3) := by decide +kernel
theorem d139_70 : decode (zB 139) 70 = .ok (.iconst 1, 1) := by decide +kernel
theorem d139_71 : decode (zB 139) 71 = .ok (.if_icmp .ne 12, 3) := by decide +kernel
theorem d139_74 : decode (zB 139) 74 = .ok (.aload_n 0, 1) := by decide +kernel
theorem d139_75 : decode (zB 139) 75 = .ok (.getfield 194, 3) := by decide +kernel
theorem d139_78 : decode (zB 139) 78 = .ok (.bipush 12, 2) := by decide +kernel
theorem d139_80 : decode (zB 139) 80 = .ok (.if_icmp .ne 10, 3) := by decide +kernel
theorem d139_83 : decode (zB 139) 83 = .ok (.aload_n 0, 1) := by decide +kernel
theorem d139_84 : decode (zB 139) 84 = .ok (.iconst 1, 1) := by decide +kernel
theorem d139_85 : decode (zB 139) 85 = .ok (.putfield 162, 3) := by decide +kernel
theorem d139_88 : decode (zB 139) 88 = .ok (.iconst 0, 1) := by decide +kernel
theorem d139_89 : decode (zB 139) 89 = .ok (.ireturn, 1) := by decide +kernel
theorem d139_90 : decode (zB 139) 90 = .ok (.aload_n 0, 1) := by decide +kernel
theorem d139_91 : decode (zB 139) 91 = .ok (.iload_n 1, 1) := by decide +kernel
theorem d139_92 : decode (zB 139) 92 = .ok (.iload_n 2, 1) := by decide +kernel
theorem d139_93 : decode (zB 139) 93 = .ok (.ior, 1) := by decide +kernel
theorem d139_94 : decode (zB 139) 94 = .ok (.invokevirtual 197, 3) := by decide +kernel
theorem d139_97 : decode (zB 139) 97 = .ok (.ireturn, 1) := by decide +kernel
theorem d138_0 : decode (zB 138) 0 = .ok (.aload_n 0, 1) := by decide +kernel
theorem d138_1 : decode (zB 138) 1 = .ok (.iload_n 1, 1) := by decide +kernel
theorem d138_2 : decode (zB 138) 2 = .ok (.iconst 0, 1) := by decide +kernel
theorem d138_3 : decode (zB 138) 3 = .ok (.invokevirtual 178, 3) := by decide +kernel
theorem d138_6 : decode (zB 138) 6 = .ok (.istore_n 2, 1) := by decide +kernel
theorem d138_7 : decode (zB 138) 7 = .ok (.aload_n 0, 1) := by decide +kernel
theorem d138_8 : decode (zB 138) 8 = .ok (.bipush 59, 2) := by decide +kernel
theorem d138_10 : decode (zB 138) 10 = .ok (.invokevirtual 182, 3) := by decide +kernel
theorem d138_13 : decode (zB 138) 13 = .ok (.ifCond .eq 19, 3) := by decide +kernel
theorem d138_16 : decode (zB 138) 16 = .ok (.aload_n 0, 1) := by decide +kernel
theorem d138_17 : decode (zB 138) 17 = .ok (.invokevirtual 175, 3) := by decide +kernel
theorem d138_20 : decode (zB 138) 20 = .ok (.iload_n 2, 1) := by decide +kernel
theorem d138_21 : decode (zB 138) 21 = .ok (.aload_n 0, 1) := by decide +kernel
theorem d138_22 : decode (zB 138) 22 = .ok (.iload_n 1, 1) := by decide +kernel
theorem d138_23 : decode (zB 138) 23 = .ok (.iload_n 2, 1) := by decide +kernel
theorem d138_24 : decode (zB 138) 24 = .ok (.invokevirtual 178, 3) := by decide +kernel
theorem d138_27 : decode (zB 138) 27 = .ok (.ior, 1) := by decide +kernel
theorem d138_28 : decode (zB 138) 28 = .ok (.istore_n 2, 1) := by decide +kernel
theorem d138_29 : decode (zB 138) 29 = .ok (.goto (-22), 3) := by decide +kernel
theorem d138_32 : decode (zB 138) 32 = .ok (.iload_n 2, 1) := by decide +kernel
theorem d138_33 : decode (zB 138) 33 = .ok (.ireturn, 1) := by decide +kernel
theorem d141_0 : decode (zB 141) 0 = .ok (.aload_n 0, 1) := by decide +kernel
theorem d141_1 : decode (zB 141) 1 = .ok (.getfield 185, 3) := by decide +kernel
theorem d141_4 : decode (zB 141) 4 = .ok (.iconst 3, 1) := by decide +kernel
theorem d141_5 : decode (zB 141) 5 = .ok (.if_icmp .ne 10, 3) := by decide +kernel
theorem d141_8 : decode (zB 141) 8 = .ok (.aload_n 0, 1) := by decide +kernel
theorem d141_9 : decode (zB 141) 9 = .ok (.iconst 1, 1) := by decide +kernel
theorem d141_10 : decode (zB 141) 10 = .ok (.putfield 162, 3) := by decide +kernel
theorem d141_13 : decode (zB 141) 13 = .ok (.iconst 0, 1) := by decide +kernel
theorem d141_14 : decode (zB 141) 14 = .ok (.ireturn, 1) := by decide +kernel
theorem d141_15 : decode (zB 141) 15 = .ok (.aload_n 0, 1) := by decide +kernel
theorem d141_16 : decode (zB 141) 16 = .ok (.dup, 1) := by decide +kernel
theorem d141_17 : decode (zB 141) 17 = .ok (.getfield 185, 3) := by decide +kernel
theorem d141_20 : decode (zB 141) 20 = .ok (.iconst 1, 1) := by decide +kernel
theorem d141_21 : decode (zB 141) 21 = .ok (.iadd, 1) := by decide +kernel
theorem d141_22 : decode (zB 141) 22 = .ok (.putfield 185, 3) := by decide +kernel
theorem d141_25 : decode (zB 141) 25 = .ok (.aload_n 0, 1) := by decide +kernel
theorem d141_26 : decode (zB 141) 26 = .ok (.invokevirtual 175, 3) := by decide +kernel
theorem d141_29 : decode (zB 141) 29 = .ok (.aload_n 0, 1) := by decide +kernel
theorem d141_30 : decode (zB 141) 30 = .ok (.iload_n 1, 1) := by decide +kernel
theorem d141_31 : decode (zB 141) 31 = .ok (.invokevirtual 200, 3) := by decide +kernel
theorem d141_34 : decode (zB 141) 34 = .ok (.istore_n 2, 1) := by decide +kernel
theorem d141_35 : decode (zB 141) 35 = .ok (.iconst 1, 1) := by decide +kernel
theorem d141_36 : decode (zB 141) 36 = .ok (.istore_n 3, 1) := by decide +kernel
theorem d141_37 : decode (zB 141) 37 = .ok (.aload_n 0, 1) := by decide +kernel
theorem d141_38 : decode (zB 141) 38 = .ok (.bipush 124, 2) := by decide +kernel
theorem d141_40 : decode (zB 141) 40 = .ok (.invokevirtual 182, 3) := by decide +kernel
theorem d141_43 : decode (zB 141) 43 = .ok (.ifCond .eq 26, 3) := by decide +kernel
theorem d141_46 : decode (zB 141) 46 = .ok (.iload_n 3, 1) := by decide +kernel
theorem d141_47 : decode (zB 141) 47 = .ok (.iconst 3, 1) := by decide +kernel
theorem d141_48 : decode (zB 141) 48 = .ok (.if_icmp .ge 21, 3) := by decide +kernel
theorem d141_51 : decode (zB 141) 51 = .ok (.aload_n 0, 1) := by decide +kernel
theorem d141_52 : decode (zB 141) 52 = .ok (.invokevirtual 175, 3) := by decide +kernel
theorem d141_55 : decode (zB 141) 55 = .ok (.iload_n 2, 1) := by decide +kernel
theorem d141_56 : decode (zB 141) 56 = .ok (.aload_n 0, 1) := by decide +kernel
theorem d141_57 : decode (zB 141) 57 = .ok (.iload_n 1, 1) := by decide +kernel
theorem d141_58 : decode (zB 141) 58 = .ok (.invokevirtual 200, 3) := by decide +kernel
theorem d141_61 : decode (zB 141) 61 = .ok (.ior, 1) := by decide +kernel
theorem d141_62 : decode (zB 141) 62 = .ok (.istore_n 2, 1) := by decide +kernel
theorem d141_63 : decode (zB 141) 63 = .ok (.iinc 3 1, 3) := by decide +kernel
theorem d141_66 : decode (zB 141) 66 = .ok (.goto (-29), 3) := by decide +kernel
theorem d141_69 : decode (zB 141) 69 = .ok (.iload_n 3, 1) := by decide +kernel
theorem d141_70 : decode (zB 141) 70 = .ok (.iconst 2, 1) := by decide +kernel
theorem d141_71 : decode (zB 141) 71 = .ok (.if_icmp .lt 12, 3) := by decide +kernel
theorem d141_74 : decode (zB 141) 74 = .ok (.aload_n 0, 1) := by decide +kernel
theorem d141_75 : decode (zB 141) 75 = .ok (.bipush 125, 2) := by decide +kernel
theorem d141_77 : decode (zB 141) 77 = .ok (.invokevirtual 182, 3) := by decide +kernel
theorem d141_80 : decode (zB 141) 80 = .ok (.ifCond .ne 10, 3) := by decide +kernel
theorem d141_83 : decode (zB 141) 83 = .ok (.aload_n 0, 1) := by decide +kernel
theorem d141_84 : decode (zB 141) 84 = .ok (.iconst 1, 1) := by decide +kernel
theorem d141_85 : decode (zB 141) 85 = .ok (.putfield 162, 3) := by decide +kernel
theorem d141_88 : decode (zB 141) 88 = .ok (.iconst 0, 1) := by decide +kernel
theorem d141_89 : decode (zB 141) 89 = .ok (.ireturn, 1) := by decide +kernel
theorem d141_90 : decode (zB 141) 90 = .ok (.aload_n 0, 1) := by decide +kernel
theorem d141_91 : decode (zB 141) 91 = .ok (.dup, 1) := by decide +kernel
theorem d141_92 : decode (zB 141) 92 = .ok (.getfield 185, 3) := by decide +kernel
theorem d141_95 : decode (zB 141) 95 = .ok (.iconst 1, 1) := by decide +kernel
theorem d141_96 : decode (zB 141) 96 = .ok (.isub, 1) := by decide +kernel
theorem d141_97 : decode (zB 141) 97 = .ok (.putfield 185, 3) := by decide +kernel
theorem d141_100 : decode (zB 141) 100 = .ok (.aload_n 0, 1) := by decide +kernel
theorem d141_101 : decode (zB 141) 101 = .ok (.invokevirtual 175, 3) := by decide +kernel
theorem d141_104 : decode (zB 141) 104 = .ok (.iload_n 2, 1) := by decide +kernel
theorem d141_105 : decode (zB 141) 105 = .ok (.ireturn, 1) := by decide +kernel
theorem c139f {d : Nat} {M : zM} {Q : Option Value → zM → Prop} {c n f : Nat} {b : Nat → Nat} {x y : Int32} (hB : BX M c n b f) (k : Q (some (.int (nI 0))) M) : qC (d + 1) 139 [.ref 136, .int x, .int y] M Q := by
  refine qC_of (by decide) (Nat.le_of_ble_eq_true rfl) ?_
  refine q_aload_n d139_0 rfl ?_
  refine q_getv (c := 8) (f := 38) d139_1 ⟨rfl, by decide⟩ (xk_136 hB.1) hB.f0 ?_
  refine n0_eq 9 d139_4 (by decide) (by decide) (fun q => absurd q (by decide)) (fun _ => ?_)
  refine q_iconstN (z := 0) d139_7 ?_
  refine q_iret d139_8 rfl ?_
  exact k
theorem c138f {d : Nat} {M : zM} {Q : Option Value → zM → Prop} {c n f : Nat} {b : Nat → Nat} {x : Int32} (hB : BX M c n b f) (k : ∀ v, Q (some (.int v)) M) : qC (d + 2) 138 [.ref 136, .int x] M Q := by
  refine qC_of (by decide) (Nat.le_of_ble_eq_true rfl) ?_
  refine q_aload_n d138_0 rfl ?_
  refine q_iload_n d138_1 rfl ?_
  refine q_iconstN (z := 0) d138_2 ?_
  refine q_v2 d138_3 rfl rfl (xk_136 hB.1) (Nat.le_of_ble_eq_true rfl) (c139f hB ?_)
  refine q_istore_n d138_6 (by decide) rfl ?_
  refine q_aload_n d138_7 rfl ?_
  refine q_bipush (x := nI 59) d138_8 rfl ?_
  refine q_v1 d138_10 rfl rfl (xk_136 hB.1) (Nat.le_of_ble_eq_true rfl) (c140f hB ?_)
  refine n0_eq 32 d138_13 (by decide) (by decide) (fun _ => ?_) (fun q => absurd q (by decide))
  refine q_iload_n d138_32 rfl ?_
  refine q_iret d138_33 rfl ?_
  exact k _
theorem ytx_w {b : Nat → Nat} {k : yK} {t v : Nat} (h1 : k.1 = 1) (h : ytx b k = some (t, v)) : t = 1 ∨ t = 2 := by
  unfold ytx at h
  rw [if_neg (by omega), if_pos h1] at h
  split at h
  · cases h; omega
  · split at h
    · cases h; omega
    · cases h
theorem c141_0 {d : Nat} {M : zM} {Q : Option Value → zM → Prop} {c n : Nat} {b : Nat → Nat} {K : yQ} {x : Int32} (hG : GX M c n b 3 K) (k : Q (some (.int (nI 0))) (zwi M 136 38 (nI 1))) : qC (d + 12) 141 [.ref 136, .int x] M Q := by
  refine qC_of (by decide) (Nat.le_of_ble_eq_true rfl) ?_
  refine q_aload_n d141_0 rfl ?_
  refine q_getv (c := 8) (f := 35) d141_1 ⟨rfl, by decide⟩ (xk_136 hG.1) hG.2.2.2.2.2.2.1 ?_
  refine q_iconstN (z := 3) d141_4 ?_
  refine nc_ne 15 d141_5 (by decide) (by omega) (by omega) (fun h5 => (False.elim (h5 rfl))) (fun h5 => ?_)
  refine q_aload_n d141_8 rfl ?_
  refine q_iconstN (z := 1) d141_9 ?_
  refine q_putz (c := 8) (f := 38) d141_10 ⟨rfl, rfl, by decide⟩ (xk_136 hG.1) (Or.inr rfl) ?_
  refine q_iconstN (z := 0) d141_13 ?_
  refine q_iret d141_14 rfl ?_
  exact k
theorem c139_0 : cPX 0 := by
  intro d M Q K a1 a2 c n b hG hv ha1 ha2 ha hk
  refine qC_of (d := d + 3 * 0 + 12) (by decide) (Nat.le_of_ble_eq_true rfl) ?_
  have hc := hG.2.1
  have h120 := hG.2.2.2.1.1
  have hk1 := hv.1.1.1
  have hk2 := hv.1.1.2.1
  have hk3 := hv.1.1.2.2.1
  have ht12 := hv.2.1
  obtain ⟨t, v, htv, h33, h34, h38⟩ := hG.2.2.2.2.2.1
  have ht4 := ytx_t4 htv hk3
  by_cases h1 : K.1.1 = 1
  · rw [show pPt n b (pB0 n b 0) (tq 0) (a1 ||| a2) K = pSt n b (a1 ||| a2) K from if_pos h1] at hk
    by_cases ht : t = 1
    · subst ht
      by_cases h12 : tn K.2 < 12
      · skip
        refine q_aload_n d139_0 rfl ?_
        refine q_getv (c := 8) (f := 38) d139_1 ⟨rfl, by decide⟩ (xk_136 hG.1) hG.w ?_
        refine n0_eq 9 d139_4 (by decide) (by decide) (fun _ => ?_) (fun q => absurd q (by decide))
        refine q_aload_n d139_9 rfl ?_
        refine q_bipush (x := nI 33) d139_10 rfl ?_
        refine q_v1 d139_12 rfl rfl (xk_136 hG.1) (Nat.le_of_ble_eq_true rfl) (c140n hG hv (by decide) (by decide) (by omega) ?_)
        refine n0_eq 49 d139_15 (by decide) (by decide) (fun _ => ?_) (fun q => absurd q (by decide))
        refine q_aload_n d139_49 rfl ?_
        refine q_bipush (x := nI 123) d139_50 rfl ?_
        refine q_v1 d139_52 rfl rfl (xk_136 hG.1) (Nat.le_of_ble_eq_true rfl) (c140n hG hv (by decide) (by decide) (by omega) ?_)
        refine n0_eq 66 d139_55 (by decide) (by decide) (fun _ => ?_) (fun q => absurd q (by decide))
        refine q_aload_n d139_66 rfl ?_
        refine q_getv (c := 8) (f := 33) d139_67 ⟨rfl, by decide⟩ (xk_136 hG.1) h33 ?_
        refine q_iconstN (z := 1) d139_70 ?_
        refine nc_ne 83 d139_71 (by decide) (by omega) (by omega) (fun h71 => (False.elim (h71 rfl))) (fun h71 => ?_)
        refine q_aload_n d139_74 rfl ?_
        refine q_getv (c := 8) (f := 37) d139_75 ⟨rfl, by decide⟩ (xk_136 hG.1) hG.2.2.2.2.2.2.2.2.1 ?_
        refine q_bipush (x := nI 12) d139_78 rfl ?_
        refine nc_ne 90 d139_80 (by decide) (by omega) (by omega) (fun h80 => ?_) (fun h80 => (False.elim (by omega)))
        refine q_aload_n d139_90 rfl ?_
        refine q_iload_n d139_91 rfl ?_
        refine q_iload_n d139_92 rfl ?_
        refine n_ior d139_93 ?_
        refine q_v1 d139_94 rfl rfl (xk_136 hG.1) (Nat.le_of_ble_eq_true rfl) (c142 hG hv htv h12 ?_)
        exact cOX_w hk (Fi.refl _ _) (fun v M1 q => q_iret d139_97 rfl q)
      · rw [show pSt n b (a1 ||| a2) K = .error K.1.2.1 from by unfold pSt; exact if_pos (Or.inr (by omega))] at hk
        refine q_aload_n d139_0 rfl ?_
        refine q_getv (c := 8) (f := 38) d139_1 ⟨rfl, by decide⟩ (xk_136 hG.1) hG.w ?_
        refine n0_eq 9 d139_4 (by decide) (by decide) (fun _ => ?_) (fun q => absurd q (by decide))
        refine q_aload_n d139_9 rfl ?_
        refine q_bipush (x := nI 33) d139_10 rfl ?_
        refine q_v1 d139_12 rfl rfl (xk_136 hG.1) (Nat.le_of_ble_eq_true rfl) (c140n hG hv (by decide) (by decide) (by omega) ?_)
        refine n0_eq 49 d139_15 (by decide) (by decide) (fun _ => ?_) (fun q => absurd q (by decide))
        refine q_aload_n d139_49 rfl ?_
        refine q_bipush (x := nI 123) d139_50 rfl ?_
        refine q_v1 d139_52 rfl rfl (xk_136 hG.1) (Nat.le_of_ble_eq_true rfl) (c140n hG hv (by decide) (by decide) (by omega) ?_)
        refine n0_eq 66 d139_55 (by decide) (by decide) (fun _ => ?_) (fun q => absurd q (by decide))
        refine q_aload_n d139_66 rfl ?_
        refine q_getv (c := 8) (f := 33) d139_67 ⟨rfl, by decide⟩ (xk_136 hG.1) h33 ?_
        refine q_iconstN (z := 1) d139_70 ?_
        refine nc_ne 83 d139_71 (by decide) (by omega) (by omega) (fun h71 => (False.elim (h71 rfl))) (fun h71 => ?_)
        refine q_aload_n d139_74 rfl ?_
        refine q_getv (c := 8) (f := 37) d139_75 ⟨rfl, by decide⟩ (xk_136 hG.1) hG.2.2.2.2.2.2.2.2.1 ?_
        refine q_bipush (x := nI 12) d139_78 rfl ?_
        refine nc_ne 90 d139_80 (by decide) (by omega) (by omega) (fun h80 => (False.elim (h80 (show tn K.2 = 12 by have := hv.2.1; omega)))) (fun h80 => ?_)
        refine q_aload_n d139_83 rfl ?_
        refine q_iconstN (z := 1) d139_84 ?_
        refine q_putz (c := 8) (f := 38) d139_85 ⟨rfl, rfl, by decide⟩ (xk_136 hG.1) (Or.inr rfl) ?_
        refine q_iconstN (z := 0) d139_88 ?_
        refine q_iret d139_89 rfl ?_
        exact hk _ _ hG.bad GX.badF
    · have hkw : ykw b K.1.2.1 K.1.2.2 = 6 := by
        by_cases ht2 : t = 2
        · exact ykw_1 ((ytx_i htv).2.1 ht2).2.1.1
        · exfalso
          have y := ytx_i htv
          have y4 := (ytx_sg (s := v) htv)
          by_cases ht3 : t = 3
          · have := (y.2.2.1 ht3).1; omega
          · by_cases ht0 : t = 0
            · have := y.2.2.2 ht0; omega
            · exact absurd (ytx_w h1 htv) (by omega)
      rw [show pSt n b (a1 ||| a2) K = .error K.1.2.1 from by unfold pSt; exact if_pos (Or.inl hkw)] at hk
      refine q_aload_n d139_0 rfl ?_
      refine q_getv (c := 8) (f := 38) d139_1 ⟨rfl, by decide⟩ (xk_136 hG.1) hG.w ?_
      refine n0_eq 9 d139_4 (by decide) (by decide) (fun _ => ?_) (fun q => absurd q (by decide))
      refine q_aload_n d139_9 rfl ?_
      refine q_bipush (x := nI 33) d139_10 rfl ?_
      refine q_v1 d139_12 rfl rfl (xk_136 hG.1) (Nat.le_of_ble_eq_true rfl) (c140n hG hv (by decide) (by decide) (by omega) ?_)
      refine n0_eq 49 d139_15 (by decide) (by decide) (fun _ => ?_) (fun q => absurd q (by decide))
      refine q_aload_n d139_49 rfl ?_
      refine q_bipush (x := nI 123) d139_50 rfl ?_
      refine q_v1 d139_52 rfl rfl (xk_136 hG.1) (Nat.le_of_ble_eq_true rfl) (c140n hG hv (by decide) (by decide) (by omega) ?_)
      refine n0_eq 66 d139_55 (by decide) (by decide) (fun _ => ?_) (fun q => absurd q (by decide))
      refine q_aload_n d139_66 rfl ?_
      refine q_getv (c := 8) (f := 33) d139_67 ⟨rfl, by decide⟩ (xk_136 hG.1) h33 ?_
      refine q_iconstN (z := 1) d139_70 ?_
      refine nc_ne 83 d139_71 (by decide) (by omega) (by omega) (fun h71 => ?_) (fun h71 => (False.elim (ht h71)))
      refine q_aload_n d139_83 rfl ?_
      refine q_iconstN (z := 1) d139_84 ?_
      refine q_putz (c := 8) (f := 38) d139_85 ⟨rfl, rfl, by decide⟩ (xk_136 hG.1) (Or.inr rfl) ?_
      refine q_iconstN (z := 0) d139_88 ?_
      refine q_iret d139_89 rfl ?_
      exact hk _ _ hG.bad GX.badF
  · by_cases h2 : K.1.1 = 123
    · rw [show pPt n b (pB0 n b 0) (tq 0) (a1 ||| a2) K = pB0 n b 0 (a1 ||| a2) K from (if_neg h1).trans (if_pos h2)] at hk
      refine q_aload_n d139_0 rfl ?_
      refine q_getv (c := 8) (f := 38) d139_1 ⟨rfl, by decide⟩ (xk_136 hG.1) hG.w ?_
      refine n0_eq 9 d139_4 (by decide) (by decide) (fun _ => ?_) (fun q => absurd q (by decide))
      refine q_aload_n d139_9 rfl ?_
      refine q_bipush (x := nI 33) d139_10 rfl ?_
      refine q_v1 d139_12 rfl rfl (xk_136 hG.1) (Nat.le_of_ble_eq_true rfl) (c140n hG hv (by decide) (by decide) (by omega) ?_)
      refine n0_eq 49 d139_15 (by decide) (by decide) (fun _ => ?_) (fun q => absurd q (by decide))
      refine q_aload_n d139_49 rfl ?_
      refine q_bipush (x := nI 123) d139_50 rfl ?_
      refine q_v1 d139_52 rfl rfl (xk_136 hG.1) (Nat.le_of_ble_eq_true rfl) (c140t hG hv (by decide) (by decide) h2 ?_)
      refine n0_eq 66 d139_55 (by decide) (by decide) (fun q => absurd q (by decide)) (fun _ => ?_)
      refine q_aload_n d139_58 rfl ?_
      refine q_iload_n d139_59 rfl ?_
      refine q_iload_n d139_60 rfl ?_
      refine n_ior d139_61 ?_
      refine q_v1 d139_62 rfl rfl (xk_136 hG.1) (Nat.le_of_ble_eq_true rfl) (c141_0 hG ?_)
      refine q_iret d139_65 rfl ?_
      exact hk _ _ hG.bad GX.badF
    · by_cases h3 : K.1.1 = 33 ∧ tq 0 = true ∧ tp K.2 = -1
      · have hz : 0 = 3 := by have := h3.2.1; unfold tq at this; simp only [beq_iff_eq] at this; omega
        have ha0 := ha h3.2.1
        subst ha0
        rw [show pPt n b (pB0 n b 0) (tq 0) (0 ||| a2) K = .ok (0, (pAd n b K.1, pPi K.2 a2)) from (if_neg h1).trans ((if_neg h2).trans ((if_pos h3).trans (by rw [Nat.zero_or])))] at hk
        refine q_aload_n d139_0 rfl ?_
        refine q_getv (c := 8) (f := 38) d139_1 ⟨rfl, by decide⟩ (xk_136 hG.1) hG.w ?_
        refine n0_eq 9 d139_4 (by decide) (by decide) (fun _ => ?_) (fun q => absurd q (by decide))
        refine q_aload_n d139_9 rfl ?_
        refine q_bipush (x := nI 33) d139_10 rfl ?_
        refine q_v1 d139_12 rfl rfl (xk_136 hG.1) (Nat.le_of_ble_eq_true rfl) (c140t hG hv (by decide) (by decide) h3.1 ?_)
        refine n0_eq 49 d139_15 (by decide) (by decide) (fun q => absurd q (by decide)) (fun _ => ?_)
        refine q_aload_n d139_18 rfl ?_
        refine q_getv (c := 8) (f := 35) d139_19 ⟨rfl, by decide⟩ (xk_136 hG.1) hG.2.2.2.2.2.2.1 ?_
        refine n0_gt 33 d139_22 (by decide) (by omega) (fun h22 => (False.elim (by omega))) (fun h22 => ?_)
        refine q_aload_n d139_25 rfl ?_
        refine q_getv (c := 8) (f := 36) d139_26 ⟨rfl, by decide⟩ (xk_136 hG.1) hG.2.2.2.2.2.2.2.1 ?_
        refine q_iconst (x := (-1)) d139_29 rfl ?_
        refine ic_eq 38 d139_30 (by decide) (fun h30 => ?_) (fun h30 => (False.elim (h30 h3.2.2)))
        refine q_aload_n d139_38 rfl ?_
        refine q_iload_n d139_39 rfl ?_
        refine q_puti (c := 8) (f := 36) d139_40 ⟨rfl, rfl, by decide⟩ (xk_136 hG.1) ?_
        have hv9 : yQv n b (K.1, pPi K.2 a2) := ⟨hv.1, pPi_ok hv.2 ha2⟩
        refine q_aload_n d139_43 rfl ?_
        exact q_v0 d139_44 rfl rfl (xk_136 hG.pi.1) (Nat.le_of_ble_eq_true rfl) (c134g hG.pi hv9 (fun hn M1 hG1 f1 => q_iconstN (z := 0) d139_47 (q_iret d139_48 rfl (hk.1 hn M1 hG1 ((FJ_w (by decide) (by decide)).trans f1)))) (fun hn M1 hB1 f1 => q_iconstN (z := 0) d139_47 (q_iret d139_48 rfl (hk.2 hn _ M1 hB1 ((FJ_w (by decide) (by decide)).trans f1)))))
      · rw [show pPt n b (pB0 n b 0) (tq 0) (a1 ||| a2) K = .error K.1.2.1 from (if_neg h1).trans ((if_neg h2).trans (if_neg h3))] at hk
        by_cases h4 : K.1.1 = 33
        · skip
          refine q_aload_n d139_0 rfl ?_
          refine q_getv (c := 8) (f := 38) d139_1 ⟨rfl, by decide⟩ (xk_136 hG.1) hG.w ?_
          refine n0_eq 9 d139_4 (by decide) (by decide) (fun _ => ?_) (fun q => absurd q (by decide))
          refine q_aload_n d139_9 rfl ?_
          refine q_bipush (x := nI 33) d139_10 rfl ?_
          refine q_v1 d139_12 rfl rfl (xk_136 hG.1) (Nat.le_of_ble_eq_true rfl) (c140t hG hv (by decide) (by decide) h4 ?_)
          refine n0_eq 49 d139_15 (by decide) (by decide) (fun q => absurd q (by decide)) (fun _ => ?_)
          refine q_aload_n d139_18 rfl ?_
          refine q_getv (c := 8) (f := 35) d139_19 ⟨rfl, by decide⟩ (xk_136 hG.1) hG.2.2.2.2.2.2.1 ?_
          refine n0_gt 33 d139_22 (by decide) (by omega) (fun h22 => ?_) (fun h22 => ?_)
          · refine q_aload_n d139_33 rfl ?_
            refine q_iconstN (z := 1) d139_34 ?_
            refine q_putz (c := 8) (f := 38) d139_35 ⟨rfl, rfl, by decide⟩ (xk_136 hG.1) (Or.inr rfl) ?_
            refine q_aload_n d139_38 rfl ?_
            refine q_iload_n d139_39 rfl ?_
            refine q_puti (c := 8) (f := 36) d139_40 ⟨rfl, rfl, by decide⟩ (xk_136 hG.1) ?_
            have hB9 : BX (zwi (zwi M 136 38 (nI 1)) 136 36 (nI a2)) c n b K.1.2.1 := hG.bad.row ((Fi.refl _ _).wi (Or.inl ⟨rfl, by omega⟩))
            refine q_aload_n d139_43 rfl ?_
            refine q_v0 d139_44 rfl rfl (xk_136 hB9.1) (Nat.le_of_ble_eq_true rfl) (c134b hB9 ?_)
            refine q_iconstN (z := 0) d139_47 ?_
            refine q_iret d139_48 rfl ?_
            exact hk _ _ hB9 (GX.badF.trans (FJ_w (by decide) (by decide)))
          · refine q_aload_n d139_25 rfl ?_
            refine q_getv (c := 8) (f := 36) d139_26 ⟨rfl, by decide⟩ (xk_136 hG.1) hG.2.2.2.2.2.2.2.1 ?_
            refine q_iconst (x := (-1)) d139_29 rfl ?_
            refine ic_eq 38 d139_30 (by decide) (fun h30 => (False.elim (h3 ⟨h4, by unfold tq; rw [beq_iff_eq]; omega, h30⟩))) (fun h30 => ?_)
            refine q_aload_n d139_33 rfl ?_
            refine q_iconstN (z := 1) d139_34 ?_
            refine q_putz (c := 8) (f := 38) d139_35 ⟨rfl, rfl, by decide⟩ (xk_136 hG.1) (Or.inr rfl) ?_
            refine q_aload_n d139_38 rfl ?_
            refine q_iload_n d139_39 rfl ?_
            refine q_puti (c := 8) (f := 36) d139_40 ⟨rfl, rfl, by decide⟩ (xk_136 hG.1) ?_
            have hB9 : BX (zwi (zwi M 136 38 (nI 1)) 136 36 (nI a2)) c n b K.1.2.1 := hG.bad.row ((Fi.refl _ _).wi (Or.inl ⟨rfl, by omega⟩))
            refine q_aload_n d139_43 rfl ?_
            refine q_v0 d139_44 rfl rfl (xk_136 hB9.1) (Nat.le_of_ble_eq_true rfl) (c134b hB9 ?_)
            refine q_iconstN (z := 0) d139_47 ?_
            refine q_iret d139_48 rfl ?_
            exact hk _ _ hB9 (GX.badF.trans (FJ_w (by decide) (by decide)))
        · skip
          refine q_aload_n d139_0 rfl ?_
          refine q_getv (c := 8) (f := 38) d139_1 ⟨rfl, by decide⟩ (xk_136 hG.1) hG.w ?_
          refine n0_eq 9 d139_4 (by decide) (by decide) (fun _ => ?_) (fun q => absurd q (by decide))
          refine q_aload_n d139_9 rfl ?_
          refine q_bipush (x := nI 33) d139_10 rfl ?_
          refine q_v1 d139_12 rfl rfl (xk_136 hG.1) (Nat.le_of_ble_eq_true rfl) (c140n hG hv (by decide) (by decide) (by omega) ?_)
          refine n0_eq 49 d139_15 (by decide) (by decide) (fun _ => ?_) (fun q => absurd q (by decide))
          refine q_aload_n d139_49 rfl ?_
          refine q_bipush (x := nI 123) d139_50 rfl ?_
          refine q_v1 d139_52 rfl rfl (xk_136 hG.1) (Nat.le_of_ble_eq_true rfl) (c140n hG hv (by decide) (by decide) (by omega) ?_)
          refine n0_eq 66 d139_55 (by decide) (by decide) (fun _ => ?_) (fun q => absurd q (by decide))
          refine q_aload_n d139_66 rfl ?_
          refine q_getv (c := 8) (f := 33) d139_67 ⟨rfl, by decide⟩ (xk_136 hG.1) h33 ?_
          refine q_iconstN (z := 1) d139_70 ?_
          refine nc_ne 83 d139_71 (by decide) (by omega) (by omega) (fun h71 => ?_) (fun h71 => (False.elim (h1 ((ytx_i htv).1 h71).1)))
          refine q_aload_n d139_83 rfl ?_
          refine q_iconstN (z := 1) d139_84 ?_
          refine q_putz (c := 8) (f := 38) d139_85 ⟨rfl, rfl, by decide⟩ (xk_136 hG.1) (Or.inr rfl) ?_
          refine q_iconstN (z := 0) d139_88 ?_
          refine q_iret d139_89 rfl ?_
          exact hk _ _ hG.bad GX.badF
theorem c139_S (m : Nat) (hm2 : m ≤ 2) (hBr : cBX m) : cPX (m + 1) := by
  intro d M Q K a1 a2 c n b hG hv ha1 ha2 ha hk
  rw [show d + 3 * (m + 1) + 13 = d + 3 * m + 15 + 1 by omega]
  refine qC_of (by decide) (Nat.le_of_ble_eq_true rfl) ?_
  have hc := hG.2.1
  have h120 := hG.2.2.2.1.1
  have hk1 := hv.1.1.1
  have hk2 := hv.1.1.2.1
  have hk3 := hv.1.1.2.2.1
  have ht12 := hv.2.1
  obtain ⟨t, v, htv, h33, h34, h38⟩ := hG.2.2.2.2.2.1
  have ht4 := ytx_t4 htv hk3
  by_cases h1 : K.1.1 = 1
  · rw [show pPt n b (pB0 n b (m + 1)) (tq (m + 1)) (a1 ||| a2) K = pSt n b (a1 ||| a2) K from if_pos h1] at hk
    by_cases ht : t = 1
    · subst ht
      by_cases h12 : tn K.2 < 12
      · skip
        refine q_aload_n d139_0 rfl ?_
        refine q_getv (c := 8) (f := 38) d139_1 ⟨rfl, by decide⟩ (xk_136 hG.1) hG.w ?_
        refine n0_eq 9 d139_4 (by decide) (by decide) (fun _ => ?_) (fun q => absurd q (by decide))
        refine q_aload_n d139_9 rfl ?_
        refine q_bipush (x := nI 33) d139_10 rfl ?_
        refine q_v1 d139_12 rfl rfl (xk_136 hG.1) (Nat.le_of_ble_eq_true rfl) (c140n hG hv (by decide) (by decide) (by omega) ?_)
        refine n0_eq 49 d139_15 (by decide) (by decide) (fun _ => ?_) (fun q => absurd q (by decide))
        refine q_aload_n d139_49 rfl ?_
        refine q_bipush (x := nI 123) d139_50 rfl ?_
        refine q_v1 d139_52 rfl rfl (xk_136 hG.1) (Nat.le_of_ble_eq_true rfl) (c140n hG hv (by decide) (by decide) (by omega) ?_)
        refine n0_eq 66 d139_55 (by decide) (by decide) (fun _ => ?_) (fun q => absurd q (by decide))
        refine q_aload_n d139_66 rfl ?_
        refine q_getv (c := 8) (f := 33) d139_67 ⟨rfl, by decide⟩ (xk_136 hG.1) h33 ?_
        refine q_iconstN (z := 1) d139_70 ?_
        refine nc_ne 83 d139_71 (by decide) (by omega) (by omega) (fun h71 => (False.elim (h71 rfl))) (fun h71 => ?_)
        refine q_aload_n d139_74 rfl ?_
        refine q_getv (c := 8) (f := 37) d139_75 ⟨rfl, by decide⟩ (xk_136 hG.1) hG.2.2.2.2.2.2.2.2.1 ?_
        refine q_bipush (x := nI 12) d139_78 rfl ?_
        refine nc_ne 90 d139_80 (by decide) (by omega) (by omega) (fun h80 => ?_) (fun h80 => (False.elim (by omega)))
        refine q_aload_n d139_90 rfl ?_
        refine q_iload_n d139_91 rfl ?_
        refine q_iload_n d139_92 rfl ?_
        refine n_ior d139_93 ?_
        refine q_v1 d139_94 rfl rfl (xk_136 hG.1) (Nat.le_of_ble_eq_true rfl) (c142 hG hv htv h12 ?_)
        exact cOX_w hk (Fi.refl _ _) (fun v M1 q => q_iret d139_97 rfl q)
      · rw [show pSt n b (a1 ||| a2) K = .error K.1.2.1 from by unfold pSt; exact if_pos (Or.inr (by omega))] at hk
        refine q_aload_n d139_0 rfl ?_
        refine q_getv (c := 8) (f := 38) d139_1 ⟨rfl, by decide⟩ (xk_136 hG.1) hG.w ?_
        refine n0_eq 9 d139_4 (by decide) (by decide) (fun _ => ?_) (fun q => absurd q (by decide))
        refine q_aload_n d139_9 rfl ?_
        refine q_bipush (x := nI 33) d139_10 rfl ?_
        refine q_v1 d139_12 rfl rfl (xk_136 hG.1) (Nat.le_of_ble_eq_true rfl) (c140n hG hv (by decide) (by decide) (by omega) ?_)
        refine n0_eq 49 d139_15 (by decide) (by decide) (fun _ => ?_) (fun q => absurd q (by decide))
        refine q_aload_n d139_49 rfl ?_
        refine q_bipush (x := nI 123) d139_50 rfl ?_
        refine q_v1 d139_52 rfl rfl (xk_136 hG.1) (Nat.le_of_ble_eq_true rfl) (c140n hG hv (by decide) (by decide) (by omega) ?_)
        refine n0_eq 66 d139_55 (by decide) (by decide) (fun _ => ?_) (fun q => absurd q (by decide))
        refine q_aload_n d139_66 rfl ?_
        refine q_getv (c := 8) (f := 33) d139_67 ⟨rfl, by decide⟩ (xk_136 hG.1) h33 ?_
        refine q_iconstN (z := 1) d139_70 ?_
        refine nc_ne 83 d139_71 (by decide) (by omega) (by omega) (fun h71 => (False.elim (h71 rfl))) (fun h71 => ?_)
        refine q_aload_n d139_74 rfl ?_
        refine q_getv (c := 8) (f := 37) d139_75 ⟨rfl, by decide⟩ (xk_136 hG.1) hG.2.2.2.2.2.2.2.2.1 ?_
        refine q_bipush (x := nI 12) d139_78 rfl ?_
        refine nc_ne 90 d139_80 (by decide) (by omega) (by omega) (fun h80 => (False.elim (h80 (show tn K.2 = 12 by have := hv.2.1; omega)))) (fun h80 => ?_)
        refine q_aload_n d139_83 rfl ?_
        refine q_iconstN (z := 1) d139_84 ?_
        refine q_putz (c := 8) (f := 38) d139_85 ⟨rfl, rfl, by decide⟩ (xk_136 hG.1) (Or.inr rfl) ?_
        refine q_iconstN (z := 0) d139_88 ?_
        refine q_iret d139_89 rfl ?_
        exact hk _ _ hG.bad GX.badF
    · have hkw : ykw b K.1.2.1 K.1.2.2 = 6 := by
        by_cases ht2 : t = 2
        · exact ykw_1 ((ytx_i htv).2.1 ht2).2.1.1
        · exfalso
          have y := ytx_i htv
          have y4 := (ytx_sg (s := v) htv)
          by_cases ht3 : t = 3
          · have := (y.2.2.1 ht3).1; omega
          · by_cases ht0 : t = 0
            · have := y.2.2.2 ht0; omega
            · exact absurd (ytx_w h1 htv) (by omega)
      rw [show pSt n b (a1 ||| a2) K = .error K.1.2.1 from by unfold pSt; exact if_pos (Or.inl hkw)] at hk
      refine q_aload_n d139_0 rfl ?_
      refine q_getv (c := 8) (f := 38) d139_1 ⟨rfl, by decide⟩ (xk_136 hG.1) hG.w ?_
      refine n0_eq 9 d139_4 (by decide) (by decide) (fun _ => ?_) (fun q => absurd q (by decide))
      refine q_aload_n d139_9 rfl ?_
      refine q_bipush (x := nI 33) d139_10 rfl ?_
      refine q_v1 d139_12 rfl rfl (xk_136 hG.1) (Nat.le_of_ble_eq_true rfl) (c140n hG hv (by decide) (by decide) (by omega) ?_)
      refine n0_eq 49 d139_15 (by decide) (by decide) (fun _ => ?_) (fun q => absurd q (by decide))
      refine q_aload_n d139_49 rfl ?_
      refine q_bipush (x := nI 123) d139_50 rfl ?_
      refine q_v1 d139_52 rfl rfl (xk_136 hG.1) (Nat.le_of_ble_eq_true rfl) (c140n hG hv (by decide) (by decide) (by omega) ?_)
      refine n0_eq 66 d139_55 (by decide) (by decide) (fun _ => ?_) (fun q => absurd q (by decide))
      refine q_aload_n d139_66 rfl ?_
      refine q_getv (c := 8) (f := 33) d139_67 ⟨rfl, by decide⟩ (xk_136 hG.1) h33 ?_
      refine q_iconstN (z := 1) d139_70 ?_
      refine nc_ne 83 d139_71 (by decide) (by omega) (by omega) (fun h71 => ?_) (fun h71 => (False.elim (ht h71)))
      refine q_aload_n d139_83 rfl ?_
      refine q_iconstN (z := 1) d139_84 ?_
      refine q_putz (c := 8) (f := 38) d139_85 ⟨rfl, rfl, by decide⟩ (xk_136 hG.1) (Or.inr rfl) ?_
      refine q_iconstN (z := 0) d139_88 ?_
      refine q_iret d139_89 rfl ?_
      exact hk _ _ hG.bad GX.badF
  · by_cases h2 : K.1.1 = 123
    · rw [show pPt n b (pB0 n b (m + 1)) (tq (m + 1)) (a1 ||| a2) K = pB0 n b (m + 1) (a1 ||| a2) K from (if_neg h1).trans (if_pos h2)] at hk
      refine q_aload_n d139_0 rfl ?_
      refine q_getv (c := 8) (f := 38) d139_1 ⟨rfl, by decide⟩ (xk_136 hG.1) hG.w ?_
      refine n0_eq 9 d139_4 (by decide) (by decide) (fun _ => ?_) (fun q => absurd q (by decide))
      refine q_aload_n d139_9 rfl ?_
      refine q_bipush (x := nI 33) d139_10 rfl ?_
      refine q_v1 d139_12 rfl rfl (xk_136 hG.1) (Nat.le_of_ble_eq_true rfl) (c140n hG hv (by decide) (by decide) (by omega) ?_)
      refine n0_eq 49 d139_15 (by decide) (by decide) (fun _ => ?_) (fun q => absurd q (by decide))
      refine q_aload_n d139_49 rfl ?_
      refine q_bipush (x := nI 123) d139_50 rfl ?_
      refine q_v1 d139_52 rfl rfl (xk_136 hG.1) (Nat.le_of_ble_eq_true rfl) (c140t hG hv (by decide) (by decide) h2 ?_)
      refine n0_eq 66 d139_55 (by decide) (by decide) (fun q => absurd q (by decide)) (fun _ => ?_)
      refine q_aload_n d139_58 rfl ?_
      refine q_iload_n d139_59 rfl ?_
      refine q_iload_n d139_60 rfl ?_
      refine n_ior d139_61 ?_
      refine q_v1 d139_62 rfl rfl (xk_136 hG.1) (Nat.le_of_ble_eq_true rfl) (hBr (d + 0) _ _ _ _ _ _ _ hG hv (or_lt ha1 ha2) ?_)
      exact cOX_w hk (Fi.refl _ _) (fun v M1 q => q_iret d139_65 rfl q)
    · by_cases h3 : K.1.1 = 33 ∧ tq (m + 1) = true ∧ tp K.2 = -1
      · have hz : (m + 1) = 3 := by have := h3.2.1; unfold tq at this; simp only [beq_iff_eq] at this; omega
        have ha0 := ha h3.2.1
        subst ha0
        rw [show pPt n b (pB0 n b (m + 1)) (tq (m + 1)) (0 ||| a2) K = .ok (0, (pAd n b K.1, pPi K.2 a2)) from (if_neg h1).trans ((if_neg h2).trans ((if_pos h3).trans (by rw [Nat.zero_or])))] at hk
        refine q_aload_n d139_0 rfl ?_
        refine q_getv (c := 8) (f := 38) d139_1 ⟨rfl, by decide⟩ (xk_136 hG.1) hG.w ?_
        refine n0_eq 9 d139_4 (by decide) (by decide) (fun _ => ?_) (fun q => absurd q (by decide))
        refine q_aload_n d139_9 rfl ?_
        refine q_bipush (x := nI 33) d139_10 rfl ?_
        refine q_v1 d139_12 rfl rfl (xk_136 hG.1) (Nat.le_of_ble_eq_true rfl) (c140t hG hv (by decide) (by decide) h3.1 ?_)
        refine n0_eq 49 d139_15 (by decide) (by decide) (fun q => absurd q (by decide)) (fun _ => ?_)
        refine q_aload_n d139_18 rfl ?_
        refine q_getv (c := 8) (f := 35) d139_19 ⟨rfl, by decide⟩ (xk_136 hG.1) hG.2.2.2.2.2.2.1 ?_
        refine n0_gt 33 d139_22 (by decide) (by omega) (fun h22 => (False.elim (by omega))) (fun h22 => ?_)
        refine q_aload_n d139_25 rfl ?_
        refine q_getv (c := 8) (f := 36) d139_26 ⟨rfl, by decide⟩ (xk_136 hG.1) hG.2.2.2.2.2.2.2.1 ?_
        refine q_iconst (x := (-1)) d139_29 rfl ?_
        refine ic_eq 38 d139_30 (by decide) (fun h30 => ?_) (fun h30 => (False.elim (h30 h3.2.2)))
        refine q_aload_n d139_38 rfl ?_
        refine q_iload_n d139_39 rfl ?_
        refine q_puti (c := 8) (f := 36) d139_40 ⟨rfl, rfl, by decide⟩ (xk_136 hG.1) ?_
        have hv9 : yQv n b (K.1, pPi K.2 a2) := ⟨hv.1, pPi_ok hv.2 ha2⟩
        refine q_aload_n d139_43 rfl ?_
        exact q_v0 d139_44 rfl rfl (xk_136 hG.pi.1) (Nat.le_of_ble_eq_true rfl) (c134g hG.pi hv9 (fun hn M1 hG1 f1 => q_iconstN (z := 0) d139_47 (q_iret d139_48 rfl (hk.1 hn M1 hG1 ((FJ_w (by decide) (by decide)).trans f1)))) (fun hn M1 hB1 f1 => q_iconstN (z := 0) d139_47 (q_iret d139_48 rfl (hk.2 hn _ M1 hB1 ((FJ_w (by decide) (by decide)).trans f1)))))
      · rw [show pPt n b (pB0 n b (m + 1)) (tq (m + 1)) (a1 ||| a2) K = .error K.1.2.1 from (if_neg h1).trans ((if_neg h2).trans (if_neg h3))] at hk
        by_cases h4 : K.1.1 = 33
        · skip
          refine q_aload_n d139_0 rfl ?_
          refine q_getv (c := 8) (f := 38) d139_1 ⟨rfl, by decide⟩ (xk_136 hG.1) hG.w ?_
          refine n0_eq 9 d139_4 (by decide) (by decide) (fun _ => ?_) (fun q => absurd q (by decide))
          refine q_aload_n d139_9 rfl ?_
          refine q_bipush (x := nI 33) d139_10 rfl ?_
          refine q_v1 d139_12 rfl rfl (xk_136 hG.1) (Nat.le_of_ble_eq_true rfl) (c140t hG hv (by decide) (by decide) h4 ?_)
          refine n0_eq 49 d139_15 (by decide) (by decide) (fun q => absurd q (by decide)) (fun _ => ?_)
          refine q_aload_n d139_18 rfl ?_
          refine q_getv (c := 8) (f := 35) d139_19 ⟨rfl, by decide⟩ (xk_136 hG.1) hG.2.2.2.2.2.2.1 ?_
          refine n0_gt 33 d139_22 (by decide) (by omega) (fun h22 => ?_) (fun h22 => ?_)
          · refine q_aload_n d139_33 rfl ?_
            refine q_iconstN (z := 1) d139_34 ?_
            refine q_putz (c := 8) (f := 38) d139_35 ⟨rfl, rfl, by decide⟩ (xk_136 hG.1) (Or.inr rfl) ?_
            refine q_aload_n d139_38 rfl ?_
            refine q_iload_n d139_39 rfl ?_
            refine q_puti (c := 8) (f := 36) d139_40 ⟨rfl, rfl, by decide⟩ (xk_136 hG.1) ?_
            have hB9 : BX (zwi (zwi M 136 38 (nI 1)) 136 36 (nI a2)) c n b K.1.2.1 := hG.bad.row ((Fi.refl _ _).wi (Or.inl ⟨rfl, by omega⟩))
            refine q_aload_n d139_43 rfl ?_
            refine q_v0 d139_44 rfl rfl (xk_136 hB9.1) (Nat.le_of_ble_eq_true rfl) (c134b hB9 ?_)
            refine q_iconstN (z := 0) d139_47 ?_
            refine q_iret d139_48 rfl ?_
            exact hk _ _ hB9 (GX.badF.trans (FJ_w (by decide) (by decide)))
          · refine q_aload_n d139_25 rfl ?_
            refine q_getv (c := 8) (f := 36) d139_26 ⟨rfl, by decide⟩ (xk_136 hG.1) hG.2.2.2.2.2.2.2.1 ?_
            refine q_iconst (x := (-1)) d139_29 rfl ?_
            refine ic_eq 38 d139_30 (by decide) (fun h30 => (False.elim (h3 ⟨h4, by unfold tq; rw [beq_iff_eq]; omega, h30⟩))) (fun h30 => ?_)
            refine q_aload_n d139_33 rfl ?_
            refine q_iconstN (z := 1) d139_34 ?_
            refine q_putz (c := 8) (f := 38) d139_35 ⟨rfl, rfl, by decide⟩ (xk_136 hG.1) (Or.inr rfl) ?_
            refine q_aload_n d139_38 rfl ?_
            refine q_iload_n d139_39 rfl ?_
            refine q_puti (c := 8) (f := 36) d139_40 ⟨rfl, rfl, by decide⟩ (xk_136 hG.1) ?_
            have hB9 : BX (zwi (zwi M 136 38 (nI 1)) 136 36 (nI a2)) c n b K.1.2.1 := hG.bad.row ((Fi.refl _ _).wi (Or.inl ⟨rfl, by omega⟩))
            refine q_aload_n d139_43 rfl ?_
            refine q_v0 d139_44 rfl rfl (xk_136 hB9.1) (Nat.le_of_ble_eq_true rfl) (c134b hB9 ?_)
            refine q_iconstN (z := 0) d139_47 ?_
            refine q_iret d139_48 rfl ?_
            exact hk _ _ hB9 (GX.badF.trans (FJ_w (by decide) (by decide)))
        · skip
          refine q_aload_n d139_0 rfl ?_
          refine q_getv (c := 8) (f := 38) d139_1 ⟨rfl, by decide⟩ (xk_136 hG.1) hG.w ?_
          refine n0_eq 9 d139_4 (by decide) (by decide) (fun _ => ?_) (fun q => absurd q (by decide))
          refine q_aload_n d139_9 rfl ?_
          refine q_bipush (x := nI 33) d139_10 rfl ?_
          refine q_v1 d139_12 rfl rfl (xk_136 hG.1) (Nat.le_of_ble_eq_true rfl) (c140n hG hv (by decide) (by decide) (by omega) ?_)
          refine n0_eq 49 d139_15 (by decide) (by decide) (fun _ => ?_) (fun q => absurd q (by decide))
          refine q_aload_n d139_49 rfl ?_
          refine q_bipush (x := nI 123) d139_50 rfl ?_
          refine q_v1 d139_52 rfl rfl (xk_136 hG.1) (Nat.le_of_ble_eq_true rfl) (c140n hG hv (by decide) (by decide) (by omega) ?_)
          refine n0_eq 66 d139_55 (by decide) (by decide) (fun _ => ?_) (fun q => absurd q (by decide))
          refine q_aload_n d139_66 rfl ?_
          refine q_getv (c := 8) (f := 33) d139_67 ⟨rfl, by decide⟩ (xk_136 hG.1) h33 ?_
          refine q_iconstN (z := 1) d139_70 ?_
          refine nc_ne 83 d139_71 (by decide) (by omega) (by omega) (fun h71 => ?_) (fun h71 => (False.elim (h1 ((ytx_i htv).1 h71).1)))
          refine q_aload_n d139_83 rfl ?_
          refine q_iconstN (z := 1) d139_84 ?_
          refine q_putz (c := 8) (f := 38) d139_85 ⟨rfl, rfl, by decide⟩ (xk_136 hG.1) (Or.inr rfl) ?_
          refine q_iconstN (z := 0) d139_88 ?_
          refine q_iret d139_89 rfl ?_
          exact hk _ _ hG.bad GX.badF
