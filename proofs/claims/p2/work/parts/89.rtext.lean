/-! ===== the reference: text ===== -/
/-! the reference: a text -/
def FTx (c : Nat) : Nat → Nat → Prop := fun a k => (a = 136 ∧ (k = 0 ∨ (29 < k ∧ k < 39))) ∨ ((a = 137 ∨ a = 138) ∧ k = c) ∨ a = 140 + c ∨ a = 147 + c ∨ a = 154 + c ∨ a = 161 + c ∨ a = 168 + c
theorem FJ_T {c a k : Nat} (h : FJ c a k) : FTx c a k := by unfold FJ at h; unfold FTx; omega
theorem XT1_T {M M' : zM} {i c : Nat} {T : yT} (h : XT1 M i T) (hi : i < c) (hc : c < 6) (f : Fi (FTx c) M M') : XT1 M' i T :=
  ⟨(f.1 _ _ (by unfold FTx; omega)).trans h.1, (f.1 _ _ (by unfold FTx; omega)).trans h.2.1, fun k hk => ⟨(f.1 _ _ (by unfold FTx; omega)).trans (h.2.2 k hk).1, (f.1 _ _ (by unfold FTx; omega)).trans (h.2.2 k hk).2.1, (f.1 _ _ (by unfold FTx; omega)).trans (h.2.2 k hk).2.2.1, (f.1 _ _ (by unfold FTx; omega)).trans (h.2.2 k hk).2.2.2.1, (f.1 _ _ (by unfold FTx; omega)).trans (h.2.2 k hk).2.2.2.2⟩⟩
theorem RX.txE {M M' : zM} {D : yD} {κ : Nat} (h : RX M D κ) (hc : dc D < 6) (f : Fi (FTx (dc D)) M M') (h0 : zi M' 136 0 = nI (dc D)) (h30 : zi M' 136 30 = nI 0) : RX M' (dtS D 0 (db D)) κ := by
  obtain ⟨⟨h1, h2, h3, h4, h5, h6, h7, h8⟩, a2, a3, ⟨a4, a5, a6⟩, a7⟩ := h
  have b21 : zi M' 136 21 = -1 := (f.1 _ _ (by unfold FTx; omega)).trans a2
  exact ⟨⟨SX_fi h1 f, fun i hi => XT1_T (h2 i hi) hi hc f, h3, XPu_fi h4 f (fun b k q1 q2 => by unfold GP at q1; unfold FTx at q2; omega), fun s hs => (h5 s hs).fi f (fun b k q1 q2 => by unfold GS at q1; unfold FTx at q2; omega), (f.1 _ _ (by unfold FTx; omega)).trans h6, h7.fi f (fun b k q => by unfold GL at q; unfold FTx; omega), ⟨none, b21, fun s hs h0 k hk => rfl⟩⟩, b21, h0, ⟨Nat.zero_le _, h30, fun k hk => absurd hk (Nat.not_lt_zero _)⟩, fun i hi => ⟨(f.1 _ _ (by unfold FTx; omega)).trans (a7 i hi).1, (f.1 _ _ (by unfold FTx; omega)).trans (a7 i hi).2⟩⟩
theorem RX.txO {M M' : zM} {D : yD} {κ : Nat} {T : yT} (h : RX M D κ) (hc : dc D < 6) (hT : OKT T) (f : Fi (FTx (dc D)) M M') (h0 : zi M' 136 0 = nI (dc D + 1)) (h30 : zi M' 136 30 = nI 0) (hx : XT1 M' (dc D) T) : RX M' (dc D + 1, yu (dT D) (dc D) T, 0, D.2.2.2) κ := by
  obtain ⟨⟨h1, h2, h3, h4, h5, h6, h7, h8⟩, a2, a3, ⟨a4, a5, a6⟩, a7⟩ := h
  have b21 : zi M' 136 21 = -1 := (f.1 _ _ (by unfold FTx; omega)).trans a2
  refine ⟨⟨SX_fi h1 f, fun i hi => ?_, OKW_T h3 hT hc, XPu_fi h4 f (fun b k q1 q2 => by unfold GP at q1; unfold FTx at q2; omega), fun s hs => (h5 s hs).fi f (fun b k q1 q2 => by unfold GS at q1; unfold FTx at q2; omega), (f.1 _ _ (by unfold FTx; omega)).trans h6, h7.fi f (fun b k q => by unfold GL at q; unfold FTx; omega), ⟨none, b21, fun s hs h0 k hk => rfl⟩⟩, b21, h0, ⟨Nat.zero_le _, h30, fun k hk => absurd hk (Nat.not_lt_zero _)⟩, fun i hi => ⟨(f.1 _ _ (by unfold FTx; omega)).trans (a7 i hi).1, (f.1 _ _ (by unfold FTx; omega)).trans (a7 i hi).2⟩⟩
  show XT1 M' i (yu (dT D) (dc D) T i)
  by_cases e : i = dc D
  · subst e; rw [yu_s]; exact hx
  · rw [yu_n e]
    have hi : i < dc D + 1 := hi
    exact XT1_T (h2 i (by omega)) (by omega) hc f
theorem d133_0 : decode (zB 133) 0 = .ok (.aload_n 0, 1) := by decide +kernel
theorem d133_1 : decode (zB 133) 1 = .ok (.getfield 116, 3) := by decide +kernel
theorem d133_4 : decode (zB 133) 4 = .ok (.bipush 6, 2) := by decide +kernel
theorem d133_6 : decode (zB 133) 6 = .ok (.if_icmp .ne 6, 3) := by decide +kernel
theorem d133_9 : decode (zB 133) 9 = .ok (.bipush (-4), 2) := by decide +kernel
theorem d133_11 : decode (zB 133) 11 = .ok (.ireturn, 1) := by decide +kernel
theorem d133_12 : decode (zB 133) 12 = .ok (.aload_n 0, 1) := by decide +kernel
theorem d133_13 : decode (zB 133) 13 = .ok (.iconst 0, 1) := by decide +kernel
theorem d133_14 : decode (zB 133) 14 = .ok (.putfield 132, 3) := by decide +kernel
theorem d133_17 : decode (zB 133) 17 = .ok (.aload_n 0, 1) := by decide +kernel
theorem d133_18 : decode (zB 133) 18 = .ok (.iconst 0, 1) := by decide +kernel
theorem d133_19 : decode (zB 133) 19 = .ok (.putfield 185, 3) := by decide +kernel
theorem d133_22 : decode (zB 133) 22 = .ok (.aload_n 0, 1) := by decide +kernel
theorem d133_23 : decode (zB 133) 23 = .ok (.iconst (-1), 1) := by decide +kernel
theorem d133_24 : decode (zB 133) 24 = .ok (.putfield 188, 3) := by decide +kernel
theorem d133_27 : decode (zB 133) 27 = .ok (.aload_n 0, 1) := by decide +kernel
theorem d133_28 : decode (zB 133) 28 = .ok (.iconst 0, 1) := by decide +kernel
theorem d133_29 : decode (zB 133) 29 = .ok (.putfield 194, 3) := by decide +kernel
theorem d133_32 : decode (zB 133) 32 = .ok (.aload_n 0, 1) := by decide +kernel
theorem d133_33 : decode (zB 133) 33 = .ok (.iconst 0, 1) := by decide +kernel
theorem d133_34 : decode (zB 133) 34 = .ok (.putfield 162, 3) := by decide +kernel
theorem d133_37 : decode (zB 133) 37 = .ok (.aload_n 0, 1) := by decide +kernel
theorem d133_38 : decode (zB 133) 38 = .ok (.invokevirtual 175, 3) := by decide +kernel
theorem d133_41 : decode (zB 133) 41 = .ok (.aload_n 0, 1) := by decide +kernel
theorem d133_42 : decode (zB 133) 42 = .ok (.iconst 0, 1) := by decide +kernel
theorem d133_43 : decode (zB 133) 43 = .ok (.invokevirtual 200, 3) := by decide +kernel
theorem d133_46 : decode (zB 133) 46 = .ok (.istore_n 1, 1) := by decide +kernel
theorem d133_47 : decode (zB 133) 47 = .ok (.aload_n 0, 1) := by decide +kernel
theorem d133_48 : decode (zB 133) 48 = .ok (.dup, 1) := by decide +kernel
theorem d133_49 : decode (zB 133) 49 = .ok (.getfield 162, 3) := by decide +kernel
theorem d133_52 : decode (zB 133) 52 = .ok (.aload_n 0, 1) := by decide +kernel
theorem d133_53 : decode (zB 133) 53 = .ok (.getfield 166, 3) := by decide +kernel
theorem d133_56 : decode (zB 133) 56 = .ok (.ifCond .eq 7, 3) := by decide +kernel
theorem d133_59 : decode (zB 133) 59 = .ok (.iconst 1, 1) := by decide +kernel
theorem d133_60 : decode (zB 133) 60 = .ok (.goto 4, 3) := by decide +kernel
theorem d133_63 : decode (zB 133) 63 = .ok (.iconst 0, 1) := by decide +kernel
theorem d133_64 : decode (zB 133) 64 = .ok (.ior, 1) := by decide +kernel
theorem d133_65 : decode (zB 133) 65 = .ok (.putfield 162, 3) := by decide +kernel
theorem d133_68 : decode (zB 133) 68 = .ok (.aload_n 0, 1) := by decide +kernel
theorem d133_69 : decode (zB 133) 69 = .ok (.getfield 123, 3) := by decide +kernel
theorem d133_72 : decode (zB 133) 72 = .ok (.istore_n 2, 1) := by decide +kernel
theorem d133_73 : decode (zB 133) 73 = .ok (.aload_n 0, 1) := by decide +kernel
theorem d133_74 : decode (zB 133) 74 = .ok (.iconst 0, 1) := by decide +kernel
theorem d133_75 : decode (zB 133) 75 = .ok (.putfield 123, 3) := by decide +kernel
theorem d133_78 : decode (zB 133) 78 = .ok (.aload_n 0, 1) := by decide +kernel
theorem d133_79 : decode (zB 133) 79 = .ok (.getfield 162, 3) := by decide +kernel
theorem d133_82 : decode (zB 133) 82 = .ok (.ifCond .eq 11, 3) := by decide +kernel
theorem d133_85 : decode (zB 133) 85 = .ok (.bipush (-100), 2) := by decide +kernel
theorem d133_87 : decode (zB 133) 87 = .ok (.aload_n 0, 1) := by decide +kernel
theorem d133_88 : decode (zB 133) 88 = .ok (.getfield 135, 3) := by decide +kernel
theorem d133_91 : decode (zB 133) 91 = .ok (.isub, 1) := by decide +kernel
theorem d133_92 : decode (zB 133) 92 = .ok (.ireturn, 1) := by decide +kernel
theorem d133_93 : decode (zB 133) 93 = .ok (.aload_n 0, 1) := by decide +kernel
theorem d133_94 : decode (zB 133) 94 = .ok (.getfield 194, 3) := by decide +kernel
theorem d133_97 : decode (zB 133) 97 = .ok (.ifCond .ne 8, 3) := by decide +kernel
theorem d133_100 : decode (zB 133) 100 = .ok (.bipush (-100), 2) := by decide +kernel
theorem d133_102 : decode (zB 133) 102 = .ok (.iload_n 2, 1) := by decide +kernel
theorem d133_103 : decode (zB 133) 103 = .ok (.isub, 1) := by decide +kernel
theorem d133_104 : decode (zB 133) 104 = .ok (.ireturn, 1) := by decide +kernel
theorem d133_105 : decode (zB 133) 105 = .ok (.aload_n 0, 1) := by decide +kernel
theorem d133_106 : decode (zB 133) 106 = .ok (.getfield 9, 3) := by decide +kernel
theorem d133_109 : decode (zB 133) 109 = .ok (.aload_n 0, 1) := by decide +kernel
theorem d133_110 : decode (zB 133) 110 = .ok (.getfield 116, 3) := by decide +kernel
theorem d133_113 : decode (zB 133) 113 = .ok (.aload_n 0, 1) := by decide +kernel
theorem d133_114 : decode (zB 133) 114 = .ok (.getfield 194, 3) := by decide +kernel
theorem d133_117 : decode (zB 133) 117 = .ok (.iastore, 1) := by decide +kernel
theorem d133_118 : decode (zB 133) 118 = .ok (.aload_n 0, 1) := by decide +kernel
theorem d133_119 : decode (zB 133) 119 = .ok (.getfield 13, 3) := by decide +kernel
theorem d133_122 : decode (zB 133) 122 = .ok (.aload_n 0, 1) := by decide +kernel
theorem d133_123 : decode (zB 133) 123 = .ok (.getfield 116, 3) := by decide +kernel
theorem d133_126 : decode (zB 133) 126 = .ok (.aload_n 0, 1) := by decide +kernel
theorem d133_127 : decode (zB 133) 127 = .ok (.getfield 188, 3) := by decide +kernel
theorem d133_130 : decode (zB 133) 130 = .ok (.iastore, 1) := by decide +kernel
theorem d133_131 : decode (zB 133) 131 = .ok (.aload_n 0, 1) := by decide +kernel
theorem d133_132 : decode (zB 133) 132 = .ok (.dup, 1) := by decide +kernel
theorem d133_133 : decode (zB 133) 133 = .ok (.getfield 116, 3) := by decide +kernel
theorem d133_136 : decode (zB 133) 136 = .ok (.iconst 1, 1) := by decide +kernel
theorem d133_137 : decode (zB 133) 137 = .ok (.iadd, 1) := by decide +kernel
theorem d133_138 : decode (zB 133) 138 = .ok (.putfield 116, 3) := by decide +kernel
theorem d133_141 : decode (zB 133) 141 = .ok (.aload_n 0, 1) := by decide +kernel
theorem d133_142 : decode (zB 133) 142 = .ok (.getfield 116, 3) := by decide +kernel
theorem d133_145 : decode (zB 133) 145 = .ok (.iconst 1, 1) := by decide +kernel
theorem d133_146 : decode (zB 133) 146 = .ok (.isub, 1) := by decide +kernel
theorem d133_147 : decode (zB 133) 147 = .ok (.ireturn, 1) := by decide +kernel
/-- behind a fault -/
theorem z133b {d f : Nat} {M1 : zM} {Q : Option Value → zM → Prop} {v : Int32} {D : yD} {κ : Nat} {M0 : zM} (hR : RX M0 D κ) (hc : dc D < 6) (F : Fi (FJ (dc D)) M0 M1) (hB : BX M1 (dc D) (dn D) (db D) f) (e : pTx (dn D) (db D) = .error f) (k : ∀ M' κ', κ' ≤ κ + 240 → RX M' (sText D).2 κ' → Fi FY M0 M' → Q (some (.int (sText D).1)) M') : qW (zEv (d + 23)) 133 Q 47 [(1, .int v), (0, .ref 136)] [] M1 := by
  refine q_aload_n d133_47 rfl ?_
  refine q_dup d133_48 rfl ?_
  refine q_getv (c := 8) (f := 38) d133_49 ⟨rfl, by decide⟩ (xk_136 hB.1) hB.f0 ?_
  refine q_aload_n d133_52 rfl ?_
  refine q_getv (c := 8) (f := 33) d133_53 ⟨rfl, by decide⟩ (xk_136 hB.1) rfl ?_
  refine i0_eq 63 d133_56 (by decide) (fun h56 => ?_) (fun h56 => ?_)
  · refine q_iconstN (z := 0) d133_63 ?_
    refine n_ior d133_64 ?_
    refine q_putz (c := 8) (f := 38) d133_65 ⟨rfl, rfl, by decide⟩ (xk_136 hB.1) (Or.inr rfl) ?_
    refine q_aload_n d133_68 rfl ?_
    refine q_getv (c := 8) (f := 30) d133_69 ⟨rfl, by decide⟩ (xk_136 hB.1) (Eq.trans (by (repeat (first | rw [wi_n (Or.inl (by omega))] | rw [wi_n (Or.inr (by omega))] | rw [wi_s] | rw [wr_i] | rw [cp_n (by omega)]))) hB.2.2.2.1.2.1) ?_
    refine q_istore_n d133_72 (by decide) rfl ?_
    refine q_aload_n d133_73 rfl ?_
    refine q_iconstN (z := 0) d133_74 ?_
    refine q_puti (c := 8) (f := 30) d133_75 ⟨rfl, rfl, by decide⟩ (xk_136 hB.1) ?_
    refine q_aload_n d133_78 rfl ?_
    refine q_getv (c := 8) (f := 38) d133_79 ⟨rfl, by decide⟩ (xk_136 hB.1) (by (repeat (first | rw [wi_n (Or.inl (by omega))] | rw [wi_n (Or.inr (by omega))] | rw [wi_s] | rw [wr_i] | rw [cp_n (by omega)] | rw [cp_0 (by omega)]))) ?_
    refine n0_eq 93 d133_82 (by decide) (by decide) (fun q => absurd q (by decide)) (fun _ => ?_)
    refine q_bipush (x := (-100)) d133_85 rfl ?_
    refine q_aload_n d133_87 rfl ?_
    refine q_getv (c := 8) (f := 32) d133_88 ⟨rfl, by decide⟩ (xk_136 hB.1) (Eq.trans (by (repeat (first | rw [wi_n (Or.inl (by omega))] | rw [wi_n (Or.inr (by omega))] | rw [wi_s] | rw [wr_i] | rw [cp_n (by omega)]))) hB.2.2.2.2.2) ?_
    refine q_isub d133_91 ?_
    refine q_iret d133_92 rfl ?_
    have h0 := hB.2.2.1
    have e9 : sText D = (-100 - nI f, dtS D 0 (db D)) := by unfold sText; rw [if_neg (by omega), e]
    rw [e9] at k
    exact k _ κ (Nat.le_add_right _ _) (hR.txE hc (((F.mono (fun a j q => FJ_T q)).wi (Or.inl ⟨rfl, by omega⟩)).wi (Or.inl ⟨rfl, by omega⟩)) (by (repeat (first | rw [wi_n (Or.inl (by omega))] | rw [wi_n (Or.inr (by omega))] | rw [wi_s] | rw [wr_i] | rw [cp_n (by omega)] | rw [cp_0 (by omega)])); exact h0) (by (repeat (first | rw [wi_n (Or.inl (by omega))] | rw [wi_n (Or.inr (by omega))] | rw [wi_s] | rw [wr_i] | rw [cp_n (by omega)] | rw [cp_0 (by omega)])))) ((((F.mono (fun a j q => FJ_T q)).wi (Or.inl ⟨rfl, by omega⟩)).wi (Or.inl ⟨rfl, by omega⟩)).mono (fun a j q => by unfold FTx at q; unfold FY; omega))
  · refine q_iconstN (z := 1) d133_59 ?_
    refine q_goto 64 d133_60 (by decide) ?_
    refine n_ior d133_64 ?_
    refine q_putz (c := 8) (f := 38) d133_65 ⟨rfl, rfl, by decide⟩ (xk_136 hB.1) (Or.inr rfl) ?_
    refine q_aload_n d133_68 rfl ?_
    refine q_getv (c := 8) (f := 30) d133_69 ⟨rfl, by decide⟩ (xk_136 hB.1) (Eq.trans (by (repeat (first | rw [wi_n (Or.inl (by omega))] | rw [wi_n (Or.inr (by omega))] | rw [wi_s] | rw [wr_i] | rw [cp_n (by omega)]))) hB.2.2.2.1.2.1) ?_
    refine q_istore_n d133_72 (by decide) rfl ?_
    refine q_aload_n d133_73 rfl ?_
    refine q_iconstN (z := 0) d133_74 ?_
    refine q_puti (c := 8) (f := 30) d133_75 ⟨rfl, rfl, by decide⟩ (xk_136 hB.1) ?_
    refine q_aload_n d133_78 rfl ?_
    refine q_getv (c := 8) (f := 38) d133_79 ⟨rfl, by decide⟩ (xk_136 hB.1) (by (repeat (first | rw [wi_n (Or.inl (by omega))] | rw [wi_n (Or.inr (by omega))] | rw [wi_s] | rw [wr_i] | rw [cp_n (by omega)] | rw [cp_0 (by omega)]))) ?_
    refine n0_eq 93 d133_82 (by decide) (by decide) (fun q => absurd q (by decide)) (fun _ => ?_)
    refine q_bipush (x := (-100)) d133_85 rfl ?_
    refine q_aload_n d133_87 rfl ?_
    refine q_getv (c := 8) (f := 32) d133_88 ⟨rfl, by decide⟩ (xk_136 hB.1) (Eq.trans (by (repeat (first | rw [wi_n (Or.inl (by omega))] | rw [wi_n (Or.inr (by omega))] | rw [wi_s] | rw [wr_i] | rw [cp_n (by omega)]))) hB.2.2.2.2.2) ?_
    refine q_isub d133_91 ?_
    refine q_iret d133_92 rfl ?_
    have h0 := hB.2.2.1
    have e9 : sText D = (-100 - nI f, dtS D 0 (db D)) := by unfold sText; rw [if_neg (by omega), e]
    rw [e9] at k
    exact k _ κ (Nat.le_add_right _ _) (hR.txE hc (((F.mono (fun a j q => FJ_T q)).wi (Or.inl ⟨rfl, by omega⟩)).wi (Or.inl ⟨rfl, by omega⟩)) (by (repeat (first | rw [wi_n (Or.inl (by omega))] | rw [wi_n (Or.inr (by omega))] | rw [wi_s] | rw [wr_i] | rw [cp_n (by omega)] | rw [cp_0 (by omega)])); exact h0) (by (repeat (first | rw [wi_n (Or.inl (by omega))] | rw [wi_n (Or.inr (by omega))] | rw [wi_s] | rw [wr_i] | rw [cp_n (by omega)] | rw [cp_0 (by omega)])))) ((((F.mono (fun a j q => FJ_T q)).wi (Or.inl ⟨rfl, by omega⟩)).wi (Or.inl ⟨rfl, by omega⟩)).mono (fun a j q => by unfold FTx at q; unfold FY; omega))
/-- all is read -/
theorem z133g {d : Nat} {M1 : zM} {Q : Option Value → zM → Prop} {v : Int32} {K : yQ} {D : yD} {κ : Nat} {M0 : zM} (hR : RX M0 D κ) (hc : dc D < 6) (F : Fi (FJ (dc D)) M0 M1) (hG : GX M1 (dc D) (dn D) (db D) 0 K) (hv : yQv (dn D) (db D) K) {w9 : Nat} (eL : pLd (dn D) (db D) 3 true 0 (ltk (dn D) (db D) 0, yT0) = .ok (w9, K)) (k : ∀ M' κ', κ' ≤ κ + 240 → RX M' (sText D).2 κ' → Fi FY M0 M' → Q (some (.int (sText D).1)) M') : qW (zEv (d + 23)) 133 Q 47 [(1, .int v), (0, .ref 136)] [] M1 := by
  have hc6 := hG.2.1
  have h0 := hG.2.2.1
  have hk1 := hv.1.1.1
  have hk2 := hv.1.1.2.1
  have hk3 := hv.1.1.2.2.1
  have h120 := hG.2.2.2.1.1
  have h12 := hv.2.1
  obtain ⟨t, v9, htv, h33, h34, h38⟩ := hG.2.2.2.2.2.1
  have ht4 := ytx_t4 htv hk3
  have ht0 : t = 0 ↔ K.1.1 = 0 := ⟨fun q => (ytx_i htv).2.2.2 q, fun q => by unfold ytx at htv; rw [if_pos q] at htv; cases htv; rfl⟩
  by_cases h1 : K.1.1 ≠ 0
  · have e : pTx (dn D) (db D) = .error K.1.2.1 := by unfold pTx; rw [eL]; exact if_pos h1
    refine q_aload_n d133_47 rfl ?_
    refine q_dup d133_48 rfl ?_
    refine q_getv (c := 8) (f := 38) d133_49 ⟨rfl, by decide⟩ (xk_136 hG.1) hG.w ?_
    refine q_aload_n d133_52 rfl ?_
    refine q_getv (c := 8) (f := 33) d133_53 ⟨rfl, by decide⟩ (xk_136 hG.1) h33 ?_
    refine n0_eq 63 d133_56 (by decide) (by omega) (fun h56 => (False.elim (h1 (ht0.mp h56)))) (fun h56 => ?_)
    refine q_iconstN (z := 1) d133_59 ?_
    refine q_goto 64 d133_60 (by decide) ?_
    refine n_ior d133_64 ?_
    refine q_putz (c := 8) (f := 38) d133_65 ⟨rfl, rfl, by decide⟩ (xk_136 hG.1) (Or.inr rfl) ?_
    refine q_aload_n d133_68 rfl ?_
    refine q_getv (c := 8) (f := 30) d133_69 ⟨rfl, by decide⟩ (xk_136 hG.1) (Eq.trans (by (repeat (first | rw [wi_n (Or.inl (by omega))] | rw [wi_n (Or.inr (by omega))] | rw [wi_s] | rw [wr_i] | rw [cp_n (by omega)]))) hG.2.2.2.1.2.1) ?_
    refine q_istore_n d133_72 (by decide) rfl ?_
    refine q_aload_n d133_73 rfl ?_
    refine q_iconstN (z := 0) d133_74 ?_
    refine q_puti (c := 8) (f := 30) d133_75 ⟨rfl, rfl, by decide⟩ (xk_136 hG.1) ?_
    refine q_aload_n d133_78 rfl ?_
    refine q_getv (c := 8) (f := 38) d133_79 ⟨rfl, by decide⟩ (xk_136 hG.1) (by (repeat (first | rw [wi_n (Or.inl (by omega))] | rw [wi_n (Or.inr (by omega))] | rw [wi_s] | rw [wr_i] | rw [cp_n (by omega)] | rw [cp_0 (by omega)]))) ?_
    refine n0_eq 93 d133_82 (by decide) (by decide) (fun q => absurd q (by decide)) (fun _ => ?_)
    refine q_bipush (x := (-100)) d133_85 rfl ?_
    refine q_aload_n d133_87 rfl ?_
    refine q_getv (c := 8) (f := 32) d133_88 ⟨rfl, by decide⟩ (xk_136 hG.1) (Eq.trans (by (repeat (first | rw [wi_n (Or.inl (by omega))] | rw [wi_n (Or.inr (by omega))] | rw [wi_s] | rw [wr_i] | rw [cp_n (by omega)]))) hG.2.2.2.2.1.2) ?_
    refine q_isub d133_91 ?_
    refine q_iret d133_92 rfl ?_
    have e9 : sText D = (-100 - nI K.1.2.1, dtS D 0 (db D)) := by unfold sText; rw [if_neg (by omega), e]
    rw [e9] at k
    exact k _ κ (Nat.le_add_right _ _) (hR.txE hc (((F.mono (fun a j q => FJ_T q)).wi (Or.inl ⟨rfl, by omega⟩)).wi (Or.inl ⟨rfl, by omega⟩)) (by (repeat (first | rw [wi_n (Or.inl (by omega))] | rw [wi_n (Or.inr (by omega))] | rw [wi_s] | rw [wr_i] | rw [cp_n (by omega)] | rw [cp_0 (by omega)])); exact h0) (by (repeat (first | rw [wi_n (Or.inl (by omega))] | rw [wi_n (Or.inr (by omega))] | rw [wi_s] | rw [wr_i] | rw [cp_n (by omega)] | rw [cp_0 (by omega)])))) ((((F.mono (fun a j q => FJ_T q)).wi (Or.inl ⟨rfl, by omega⟩)).wi (Or.inl ⟨rfl, by omega⟩)).mono (fun a j q => by unfold FTx at q; unfold FY; omega))
  · have ht : t = 0 := ht0.mpr (by omega)
    by_cases h2 : tn K.2 = 0
    · have e : pTx (dn D) (db D) = .error (dn D) := by unfold pTx; rw [eL]; exact (if_neg h1).trans (if_pos h2)
      refine q_aload_n d133_47 rfl ?_
      refine q_dup d133_48 rfl ?_
      refine q_getv (c := 8) (f := 38) d133_49 ⟨rfl, by decide⟩ (xk_136 hG.1) hG.w ?_
      refine q_aload_n d133_52 rfl ?_
      refine q_getv (c := 8) (f := 33) d133_53 ⟨rfl, by decide⟩ (xk_136 hG.1) h33 ?_
      refine n0_eq 63 d133_56 (by decide) (by omega) (fun h56 => ?_) (fun h56 => (False.elim (h56 ht)))
      refine q_iconstN (z := 0) d133_63 ?_
      refine n_ior d133_64 ?_
      refine q_putz (c := 8) (f := 38) d133_65 ⟨rfl, rfl, by decide⟩ (xk_136 hG.1) (Or.inl rfl) ?_
      refine q_aload_n d133_68 rfl ?_
      refine q_getv (c := 8) (f := 30) d133_69 ⟨rfl, by decide⟩ (xk_136 hG.1) (Eq.trans (by (repeat (first | rw [wi_n (Or.inl (by omega))] | rw [wi_n (Or.inr (by omega))] | rw [wi_s] | rw [wr_i] | rw [cp_n (by omega)]))) hG.2.2.2.1.2.1) ?_
      refine q_istore_n d133_72 (by decide) rfl ?_
      refine q_aload_n d133_73 rfl ?_
      refine q_iconstN (z := 0) d133_74 ?_
      refine q_puti (c := 8) (f := 30) d133_75 ⟨rfl, rfl, by decide⟩ (xk_136 hG.1) ?_
      refine q_aload_n d133_78 rfl ?_
      refine q_getv (c := 8) (f := 38) d133_79 ⟨rfl, by decide⟩ (xk_136 hG.1) (by (repeat (first | rw [wi_n (Or.inl (by omega))] | rw [wi_n (Or.inr (by omega))] | rw [wi_s] | rw [wr_i] | rw [cp_n (by omega)] | rw [cp_0 (by omega)]))) ?_
      refine n0_eq 93 d133_82 (by decide) (by decide) (fun _ => ?_) (fun q => absurd q (by decide))
      refine q_aload_n d133_93 rfl ?_
      refine q_getv (c := 8) (f := 37) d133_94 ⟨rfl, by decide⟩ (xk_136 hG.1) (Eq.trans (by (repeat (first | rw [wi_n (Or.inl (by omega))] | rw [wi_n (Or.inr (by omega))] | rw [wi_s] | rw [wr_i] | rw [cp_n (by omega)]))) hG.2.2.2.2.2.2.2.2.1) ?_
      refine n0_ne 105 d133_97 (by decide) (by omega) (fun h97 => (False.elim (h97 h2))) (fun h97 => ?_)
      refine q_bipush (x := (-100)) d133_100 rfl ?_
      refine q_iload_n d133_102 rfl ?_
      refine q_isub d133_103 ?_
      refine q_iret d133_104 rfl ?_
      have e9 : sText D = (-100 - nI (dn D), dtS D 0 (db D)) := by unfold sText; rw [if_neg (by omega), e]
      rw [e9] at k
      exact k _ κ (Nat.le_add_right _ _) (hR.txE hc (((F.mono (fun a j q => FJ_T q)).wi (Or.inl ⟨rfl, by omega⟩)).wi (Or.inl ⟨rfl, by omega⟩)) (by (repeat (first | rw [wi_n (Or.inl (by omega))] | rw [wi_n (Or.inr (by omega))] | rw [wi_s] | rw [wr_i] | rw [cp_n (by omega)] | rw [cp_0 (by omega)])); exact h0) (by (repeat (first | rw [wi_n (Or.inl (by omega))] | rw [wi_n (Or.inr (by omega))] | rw [wi_s] | rw [wr_i] | rw [cp_n (by omega)] | rw [cp_0 (by omega)])))) ((((F.mono (fun a j q => FJ_T q)).wi (Or.inl ⟨rfl, by omega⟩)).wi (Or.inl ⟨rfl, by omega⟩)).mono (fun a j q => by unfold FTx at q; unfold FY; omega))
    · have e : pTx (dn D) (db D) = .ok K.2 := by unfold pTx; rw [eL]; exact (if_neg h1).trans (if_neg h2)
      have hT : OKT K.2 := hv.2.t h2
      refine q_aload_n d133_47 rfl ?_
      refine q_dup d133_48 rfl ?_
      refine q_getv (c := 8) (f := 38) d133_49 ⟨rfl, by decide⟩ (xk_136 hG.1) hG.w ?_
      refine q_aload_n d133_52 rfl ?_
      refine q_getv (c := 8) (f := 33) d133_53 ⟨rfl, by decide⟩ (xk_136 hG.1) h33 ?_
      refine n0_eq 63 d133_56 (by decide) (by omega) (fun h56 => ?_) (fun h56 => (False.elim (h56 ht)))
      refine q_iconstN (z := 0) d133_63 ?_
      refine n_ior d133_64 ?_
      refine q_putz (c := 8) (f := 38) d133_65 ⟨rfl, rfl, by decide⟩ (xk_136 hG.1) (Or.inl rfl) ?_
      refine q_aload_n d133_68 rfl ?_
      refine q_getv (c := 8) (f := 30) d133_69 ⟨rfl, by decide⟩ (xk_136 hG.1) (Eq.trans (by (repeat (first | rw [wi_n (Or.inl (by omega))] | rw [wi_n (Or.inr (by omega))] | rw [wi_s] | rw [wr_i] | rw [cp_n (by omega)]))) hG.2.2.2.1.2.1) ?_
      refine q_istore_n d133_72 (by decide) rfl ?_
      refine q_aload_n d133_73 rfl ?_
      refine q_iconstN (z := 0) d133_74 ?_
      refine q_puti (c := 8) (f := 30) d133_75 ⟨rfl, rfl, by decide⟩ (xk_136 hG.1) ?_
      refine q_aload_n d133_78 rfl ?_
      refine q_getv (c := 8) (f := 38) d133_79 ⟨rfl, by decide⟩ (xk_136 hG.1) (by (repeat (first | rw [wi_n (Or.inl (by omega))] | rw [wi_n (Or.inr (by omega))] | rw [wi_s] | rw [wr_i] | rw [cp_n (by omega)] | rw [cp_0 (by omega)]))) ?_
      refine n0_eq 93 d133_82 (by decide) (by decide) (fun _ => ?_) (fun q => absurd q (by decide))
      refine q_aload_n d133_93 rfl ?_
      refine q_getv (c := 8) (f := 37) d133_94 ⟨rfl, by decide⟩ (xk_136 hG.1) (Eq.trans (by (repeat (first | rw [wi_n (Or.inl (by omega))] | rw [wi_n (Or.inr (by omega))] | rw [wi_s] | rw [wr_i] | rw [cp_n (by omega)]))) hG.2.2.2.2.2.2.2.2.1) ?_
      refine n0_ne 105 d133_97 (by decide) (by omega) (fun h97 => ?_) (fun h97 => (False.elim (by omega)))
      refine q_aload_n d133_105 rfl ?_
      refine q_getr (c := 8) (f := 1) d133_106 ⟨rfl, rfl⟩ (xk_136 hG.1) (xf_stepMany hG.1) ?_
      refine q_aload_n d133_109 rfl ?_
      refine q_getv (c := 8) (f := 0) d133_110 ⟨rfl, by decide⟩ (xk_136 hG.1) (Eq.trans (by (repeat (first | rw [wi_n (Or.inl (by omega))] | rw [wi_n (Or.inr (by omega))] | rw [wi_s] | rw [wr_i] | rw [cp_n (by omega)]))) hG.2.2.1) ?_
      refine q_aload_n d133_113 rfl ?_
      refine q_getv (c := 8) (f := 37) d133_114 ⟨rfl, by decide⟩ (xk_136 hG.1) (Eq.trans (by (repeat (first | rw [wi_n (Or.inl (by omega))] | rw [wi_n (Or.inr (by omega))] | rw [wi_s] | rw [wr_i] | rw [cp_n (by omega)]))) hG.2.2.2.2.2.2.2.2.1) ?_
      refine n_iast d133_117 (xk_stepMany hG.1) (by omega) (by decide) ?_
      refine q_aload_n d133_118 rfl ?_
      refine q_getr (c := 8) (f := 2) d133_119 ⟨rfl, rfl⟩ (xk_136 hG.1) (xf_pivots hG.1) ?_
      refine q_aload_n d133_122 rfl ?_
      refine q_getv (c := 8) (f := 0) d133_123 ⟨rfl, by decide⟩ (xk_136 hG.1) (Eq.trans (by (repeat (first | rw [wi_n (Or.inl (by omega))] | rw [wi_n (Or.inr (by omega))] | rw [wi_s] | rw [wr_i] | rw [cp_n (by omega)]))) hG.2.2.1) ?_
      refine q_aload_n d133_126 rfl ?_
      refine q_getv (c := 8) (f := 36) d133_127 ⟨rfl, by decide⟩ (xk_136 hG.1) (Eq.trans (by (repeat (first | rw [wi_n (Or.inl (by omega))] | rw [wi_n (Or.inr (by omega))] | rw [wi_s] | rw [wr_i] | rw [cp_n (by omega)]))) hG.2.2.2.2.2.2.2.1) ?_
      refine n_iast d133_130 (xk_pivots hG.1) (by omega) (by decide) ?_
      refine q_aload_n d133_131 rfl ?_
      refine q_dup d133_132 rfl ?_
      refine q_getv (c := 8) (f := 0) d133_133 ⟨rfl, by decide⟩ (xk_136 hG.1) (Eq.trans (by (repeat (first | rw [wi_n (Or.inl (by omega))] | rw [wi_n (Or.inr (by omega))] | rw [wi_s] | rw [wr_i] | rw [cp_n (by omega)]))) hG.2.2.1) ?_
      refine q_iconstN (z := 1) d133_136 ?_
      refine n_iadd d133_137 ?_
      refine q_puti (c := 8) (f := 0) d133_138 ⟨rfl, rfl, by decide⟩ (xk_136 hG.1) ?_
      refine q_aload_n d133_141 rfl ?_
      refine q_getv (c := 8) (f := 0) d133_142 ⟨rfl, by decide⟩ (xk_136 hG.1) (wi_s _ _ _ _) ?_
      refine q_iconstN (z := 1) d133_145 ?_
      refine n_isub d133_146 (by omega) ?_
      refine q_iret d133_147 rfl ?_
      have e9 : sText D = (nI (dc D), (dc D + 1, yu (dT D) (dc D) K.2, 0, D.2.2.2)) := by unfold sText; rw [if_neg (by omega), e]
      rw [e9] at k
      rw [show dc D + 1 - 1 = dc D by omega]
      refine k _ κ (Nat.le_add_right _ _) (hR.txO hc hT (((((((F.mono (fun a j q => FJ_T q)).wi (Or.inl ⟨rfl, by omega⟩)).wi (Or.inl ⟨rfl, by omega⟩)).wi (Or.inr (Or.inl ⟨Or.inl rfl, rfl⟩))).wi (Or.inr (Or.inl ⟨Or.inr rfl, rfl⟩))).wi (Or.inl ⟨rfl, Or.inl rfl⟩))) (by (repeat (first | rw [wi_n (Or.inl (by omega))] | rw [wi_n (Or.inr (by omega))] | rw [wi_s] | rw [wr_i] | rw [cp_n (by omega)] | rw [cp_0 (by omega)]))) (by (repeat (first | rw [wi_n (Or.inl (by omega))] | rw [wi_n (Or.inr (by omega))] | rw [wi_s] | rw [wr_i] | rw [cp_n (by omega)] | rw [cp_0 (by omega)]))) ⟨by (repeat (first | rw [wi_n (Or.inl (by omega))] | rw [wi_n (Or.inr (by omega))] | rw [wi_s] | rw [wr_i] | rw [cp_n (by omega)] | rw [cp_0 (by omega)])), by (repeat (first | rw [wi_n (Or.inl (by omega))] | rw [wi_n (Or.inr (by omega))] | rw [wi_s] | rw [wr_i] | rw [cp_n (by omega)] | rw [cp_0 (by omega)])), fun j hj => ?_⟩) ((((((((F.mono (fun a j q => FJ_T q)).wi (Or.inl ⟨rfl, by omega⟩)).wi (Or.inl ⟨rfl, by omega⟩)).wi (Or.inr (Or.inl ⟨Or.inl rfl, rfl⟩))).wi (Or.inr (Or.inl ⟨Or.inr rfl, rfl⟩))).wi (Or.inl ⟨rfl, Or.inl rfl⟩))).mono (fun a j q => by unfold FTx at q; unfold FY; omega))
      have hr := hG.2.2.2.2.2.2.2.2.2 j hj
      exact ⟨by (repeat (first | rw [wi_n (Or.inl (by omega))] | rw [wi_n (Or.inr (by omega))] | rw [wi_s] | rw [wr_i] | rw [cp_n (by omega)] | rw [cp_0 (by omega)])); exact hr.1, by (repeat (first | rw [wi_n (Or.inl (by omega))] | rw [wi_n (Or.inr (by omega))] | rw [wi_s] | rw [wr_i] | rw [cp_n (by omega)] | rw [cp_0 (by omega)])); exact hr.2.1, by (repeat (first | rw [wi_n (Or.inl (by omega))] | rw [wi_n (Or.inr (by omega))] | rw [wi_s] | rw [wr_i] | rw [cp_n (by omega)] | rw [cp_0 (by omega)])); exact hr.2.2.1, by (repeat (first | rw [wi_n (Or.inl (by omega))] | rw [wi_n (Or.inr (by omega))] | rw [wi_s] | rw [wr_i] | rw [cp_n (by omega)] | rw [cp_0 (by omega)])); exact hr.2.2.2.1, by (repeat (first | rw [wi_n (Or.inl (by omega))] | rw [wi_n (Or.inr (by omega))] | rw [wi_s] | rw [wr_i] | rw [cp_n (by omega)] | rw [cp_0 (by omega)])); exact hr.2.2.2.2⟩
theorem x133 {d : Nat} {M : zM} {Q : Option Value → zM → Prop} {D : yD} {κ : Nat} (hR : RX M D κ) (hb9 : ∀ i, i < dn D → db D i < 256) (k : ∀ M' κ', κ' ≤ κ + 240 → RX M' (sText D).2 κ' → Fi FY M M' → Q (some (.int (sText D).1)) M') : qC (d + 24) 133 [.ref 136] M Q := by
  refine qC_of (by decide) (Nat.le_of_ble_eq_true rfl) ?_
  have hC := hR.1
  have hX := hC.1
  have hO : OKW (dT D) (dc D) (dW D) := hC.2.2.1
  have hc6 := hO.1.1
  have hL : XLo [] M (some (dL D)) := hC.2.2.2.2.2.2.1
  have hSa : ∀ s, s < 3 → XSa M s (dS D s) κ := hC.2.2.2.2.1
  have hTk := hC.k
  have hck := hC.2.2.2.2.2.1
  have hb : ∀ i, i < dn D → db D i < 256 := hb9
  have ht0 : TXp M (dn D) (db D) := ⟨hR.2.2.2.1.1, hR.2.2.2.1.2.1, fun i hi => ⟨hR.2.2.2.1.2.2 i hi, hb i hi⟩⟩
  by_cases h6 : 6 ≤ dc D
  · rw [show sText D = (-4, D) from if_pos h6] at k
    refine q_aload_n d133_0 rfl ?_
    refine q_getv (c := 8) (f := 0) d133_1 ⟨rfl, by decide⟩ (xk_136 hX) hR.2.2.1 ?_
    refine q_bipush (x := nI 6) d133_4 rfl ?_
    refine nc_ne 12 d133_6 (by decide) (by omega) (by omega) (fun h6 => (False.elim (absurd h6 (by omega)))) (fun h6 => ?_)
    refine q_bipush (x := (-4)) d133_9 rfl ?_
    refine q_iret d133_11 rfl ?_
    exact k _ κ (Nat.le_add_right _ _) hR (Fi.refl _ _)
  · have hc : dc D < 6 := by omega
    refine q_aload_n d133_0 rfl ?_
    refine q_getv (c := 8) (f := 0) d133_1 ⟨rfl, by decide⟩ (xk_136 hX) hR.2.2.1 ?_
    refine q_bipush (x := nI 6) d133_4 rfl ?_
    refine nc_ne 12 d133_6 (by decide) (by omega) (by omega) (fun h6 => ?_) (fun h6 => (False.elim (absurd h6 (by omega))))
    refine q_aload_n d133_12 rfl ?_
    refine q_iconstN (z := 0) d133_13 ?_
    refine q_puti (c := 8) (f := 31) d133_14 ⟨rfl, rfl, by decide⟩ (xk_136 hX) ?_
    refine q_aload_n d133_17 rfl ?_
    refine q_iconstN (z := 0) d133_18 ?_
    refine q_puti (c := 8) (f := 35) d133_19 ⟨rfl, rfl, by decide⟩ (xk_136 hX) ?_
    refine q_aload_n d133_22 rfl ?_
    refine q_iconst (x := (-1)) d133_23 rfl ?_
    refine q_puti (c := 8) (f := 36) d133_24 ⟨rfl, rfl, by decide⟩ (xk_136 hX) ?_
    refine q_aload_n d133_27 rfl ?_
    refine q_iconstN (z := 0) d133_28 ?_
    refine q_puti (c := 8) (f := 37) d133_29 ⟨rfl, rfl, by decide⟩ (xk_136 hX) ?_
    refine q_aload_n d133_32 rfl ?_
    refine q_iconstN (z := 0) d133_33 ?_
    refine q_putz (c := 8) (f := 38) d133_34 ⟨rfl, rfl, by decide⟩ (xk_136 hX) (Or.inl rfl) ?_
    have f1 : Fi (FJ (dc D)) M (zwi (zwi (zwi (zwi (zwi M 136 31 (nI 0)) 136 35 (nI 0)) 136 36 (-1)) 136 37 (nI 0)) 136 38 (nI 0)) := (((((Fi.refl _ _).wi (Or.inl ⟨rfl, by omega⟩)).wi (Or.inl ⟨rfl, by omega⟩)).wi (Or.inl ⟨rfl, by omega⟩)).wi (Or.inl ⟨rfl, by omega⟩)).wi (Or.inl ⟨rfl, by omega⟩)
    have hX1 := SX_fi hX f1
    have ht1 := TXp_fi ht0 f1 (FJ_t hc)
    refine q_aload_n d133_37 rfl ?_
    refine q_v0 d133_38 rfl rfl (xk_136 hX1) (Nat.le_of_ble_eq_true rfl) (c134 hX1 ht1 (p := 0) (by (repeat (first | rw [wi_n (Or.inl (by omega))] | rw [wi_n (Or.inr (by omega))] | rw [wi_s] | rw [wr_i] | rw [cp_n (by omega)] | rw [cp_0 (by omega)]))) (Nat.zero_le _) (by (repeat (first | rw [wi_n (Or.inl (by omega))] | rw [wi_n (Or.inr (by omega))] | rw [wi_s] | rw [wr_i] | rw [cp_n (by omega)] | rw [cp_0 (by omega)]))) (fun M2 ha2 hb2 hk2 f2 => ?_))
    have hX2 := SX_fi hX1 f2
    have ht2 := TXp_fi ht1 f2 FN_t
    have f12 : Fi (FJ (dc D)) M M2 := f1.trans (f2.mono (fun a j q => FN_J q))
    have h02 : zi M2 136 0 = nI (dc D) := (f12.1 _ _ (by unfold FJ; omega)).trans hR.2.2.1
    have hlt := ltk_v (n := dn D) (p := 0) (b := db D) (Nat.zero_le _) hb
    cases ey : ytx (db D) (ltk (dn D) (db D) 0) with
    | none =>
      have hB : BX M2 (dc D) (dn D) (db D) (ltk (dn D) (db D) 0).2.1 := ⟨hX2, hc, h02, ht2, hk2.2 ey, hb2⟩
      have e : pTx (dn D) (db D) = .error (ltk (dn D) (db D) 0).2.1 := by unfold pTx; rw [pLd_b (K := (ltk (dn D) (db D) 0, yT0)) ey]
      refine q_aload_n d133_41 rfl ?_
      refine q_iconstN (z := 0) d133_42 ?_
      refine q_v1 d133_43 rfl rfl (xk_136 hX2) (Nat.le_of_ble_eq_true rfl) (c138f hB (fun v8 => ?_))
      refine q_istore_n d133_46 (by decide) rfl ?_
      exact z133b hR hc f12 hB e k
    | some tv =>
      have hG : GX M2 (dc D) (dn D) (db D) 0 (ltk (dn D) (db D) 0, yT0) := ⟨hX2, hc, h02, ht2, ⟨ha2, hb2⟩, ⟨tv.1, tv.2, ey, hk2.1 tv.1 tv.2 ey⟩, (f2.1 _ _ (by unfold FN; omega)).trans (by (repeat (first | rw [wi_n (Or.inl (by omega))] | rw [wi_n (Or.inr (by omega))] | rw [wi_s] | rw [wr_i] | rw [cp_n (by omega)] | rw [cp_0 (by omega)]))), (f2.1 _ _ (by unfold FN; omega)).trans (by (repeat (first | rw [wi_n (Or.inl (by omega))] | rw [wi_n (Or.inr (by omega))] | rw [wi_s] | rw [wr_i] | rw [cp_n (by omega)] | rw [cp_0 (by omega)])); rfl), (f2.1 _ _ (by unfold FN; omega)).trans (by (repeat (first | rw [wi_n (Or.inl (by omega))] | rw [wi_n (Or.inr (by omega))] | rw [wi_s] | rw [wr_i] | rw [cp_n (by omega)] | rw [cp_0 (by omega)])); rfl), fun j hj => absurd hj (Nat.not_lt_zero _)⟩
      have hv : yQv (dn D) (db D) (ltk (dn D) (db D) 0, yT0) := ⟨hlt.1, OKB_0⟩
      have hp := pLd_v hb 3 true 0 (ltk (dn D) (db D) 0, yT0) hv (by show 0 < 2 ^ 0; decide)
      cases eL : pLd (dn D) (db D) 3 true 0 (ltk (dn D) (db D) 0, yT0) with
      | error f =>
        have e : pTx (dn D) (db D) = .error f := by unfold pTx; rw [eL]
        refine q_aload_n d133_41 rfl ?_
        refine q_iconstN (z := 0) d133_42 ?_
        refine q_v1 d133_43 rfl rfl (xk_136 hX2) (Nat.le_of_ble_eq_true rfl) (cLX_3 _ _ _ _ 0 _ _ _ hG hv (by show 0 < 2 ^ 0; decide) (fun _ => rfl) (cOX_e eL (fun v3 M3 hB3 f3 => ?_)))
        refine q_istore_n d133_46 (by decide) rfl ?_
        exact z133b hR hc (f12.trans f3) hB3 e k
      | ok r9 =>
        obtain ⟨w, K1⟩ := r9
        rw [eL] at hp
        refine q_aload_n d133_41 rfl ?_
        refine q_iconstN (z := 0) d133_42 ?_
        refine q_v1 d133_43 rfl rfl (xk_136 hX2) (Nat.le_of_ble_eq_true rfl) (cLX_3 _ _ _ _ 0 _ _ _ hG hv (by show 0 < 2 ^ 0; decide) (fun _ => rfl) (cOX_o eL (fun hn M3 hG3 f3 => ?_) (fun hn v3 M3 hB3 f3 => ?_)))
        · refine q_istore_n d133_46 (by decide) rfl ?_
          exact z133g hR hc (f12.trans f3) hG3 hp.1 eL k
        · have e : pTx (dn D) (db D) = .error K1.1.2.1 := by
            have h1 : K1.1.1 ≠ 0 := by rcases ytx_n hn with ⟨h1, h2⟩ | h1 <;> omega
            unfold pTx; rw [eL]; exact if_pos h1
          refine q_istore_n d133_46 (by decide) rfl ?_
          exact z133b hR hc (f12.trans f3) hB3 e k
