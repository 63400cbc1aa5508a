/-! ===== the reference: lines and branches are read ===== -/
theorem l138b {d c n f : Nat} {b : Nat → Nat} {Q : Option Value → zM → Prop} {M1 : zM} {v9 x : Int32} (hB : BX M1 c n b f) (k : Q (some (.int v9)) M1) : qW (zEv (d + 1)) 138 Q 7 [(2, .int v9), (0, .ref 136), (1, .int x)] [] M1 := by
  refine q_aload_n d138_7 rfl ?_
  refine q_bipush (x := nI 59) d138_8 rfl ?_
  refine q_v1 d138_10 rfl rfl (xk_136 hB.1) (Nat.le_of_ble_eq_true rfl) (c140f hB ?_)
  refine n0_eq 32 d138_13 (by decide) (by decide) (fun _ => ?_) (fun q => absurd q (by decide))
  refine q_iload_n d138_32 rfl ?_
  refine q_iret d138_33 rfl ?_
  exact k
theorem l138 {d m : Nat} {Q : Option Value → zM → Prop} {ah c n : Nat} {b : Nat → Nat} (hP : cPX m) : ∀ (r i own : Nat) (K1 : yQ) (M1 : zM), i ≤ 120 → 120 < i + r → i ≤ K1.1.2.1 → GX M1 c n b (3 - m) K1 → yQv n b K1 → ah < 2 ^ tn K1.2 → own < 2 ^ tn K1.2 → (tq m = true → ah = 0) → cOX Q M1 c n b (3 - m) (pRe n b (pPt n b (pB0 n b m) (tq m)) ah (120 - i) own K1) →
    qW (zEv (d + 3 * m + 13)) 138 Q 7 [(2, .int (nI own)), (0, .ref 136), (1, .int (nI ah))] [] M1 := by
  intro r
  induction r with
  | zero => intros; omega
  | succ r ih =>
    intro i own K1 M1 h1 h2 hpos hG1 hv1 hah hown h0 hk
    have hc := hG1.2.1
    have h120 := hG1.2.2.2.1.1
    have hk1 := hv1.1.1.1
    have hk2 := hv1.1.1.2.1
    have hk3 := hv1.1.1.2.2.1
    have hk4 := hv1.1.1.2.2.2
    by_cases ht : K1.1.1 = 59
    · have hi : i < 120 := by have := hk4 (by omega); omega
      rw [show 120 - i = (120 - (i + 1)) + 1 by omega] at hk
      refine q_aload_n d138_7 rfl ?_
      refine q_bipush (x := nI 59) d138_8 rfl ?_
      refine q_v1 d138_10 rfl rfl (xk_136 hG1.1) (Nat.le_of_ble_eq_true rfl) (c140t hG1 hv1 (by decide) (by decide) ht ?_)
      refine n0_eq 32 d138_13 (by decide) (by decide) (fun q => absurd q (by decide)) (fun _ => ?_)
      refine q_aload_n d138_16 rfl ?_
      refine q_v0 d138_17 rfl rfl (xk_136 hG1.1) (Nat.le_of_ble_eq_true rfl) (c134g hG1 hv1 (fun hn M2 hG2 f2 => ?_) (fun hn M2 hB2 f2 => ?_))
      · have hv2 : yQv n b (pAd n b K1.1, K1.2) := ⟨(pAd_v hv1.1 hG1.bb).1, hv1.2⟩
        have hpd := (pAd_v hv1.1 hG1.bb).2
        cases e : pPt n b (pB0 n b m) (tq m) (ah ||| own) (pAd n b K1.1, K1.2) with
        | error f =>
          rw [pRe_er ht e] at hk
          refine q_iload_n d138_20 rfl ?_
          refine q_aload_n d138_21 rfl ?_
          refine q_iload_n d138_22 rfl ?_
          refine q_iload_n d138_23 rfl ?_
          refine q_v2 d138_24 rfl rfl (xk_136 hG2.1) (Nat.le_of_ble_eq_true rfl) (hP _ _ _ _ _ _ _ _ _ hG2 hv2 hah hown h0 (cOX_e e (fun v3 M3 hB3 f3 => ?_)))
          refine q_ior d138_27 ?_
          refine q_istore_n d138_28 (by decide) rfl ?_
          refine q_goto 7 d138_29 (by decide) ?_
          exact l138b hB3 (hk _ _ hB3 (f2.trans f3))
        | ok r9 =>
          obtain ⟨w, K2⟩ := r9
          rw [pRe_ok ht e] at hk
          have h9 := pPt_v (top := tq m) hG1.bb (pB0_v hG1.bb m) (ah ||| own) (pAd n b K1.1, K1.2) hv2 (or_lt hah hown)
          rw [e] at h9
          obtain ⟨p1, p2, p3, p4, p5⟩ := h9
          have p2 : tn K1.2 ≤ tn K2.2 := p2
          have p4 : (pAd n b K1.1).2.1 ≤ K2.1.2.1 := p4
          have hw : 2 ^ tn K1.2 ≤ 2 ^ tn K2.2 := Nat.pow_le_pow_right (by omega) p2
          refine q_iload_n d138_20 rfl ?_
          refine q_aload_n d138_21 rfl ?_
          refine q_iload_n d138_22 rfl ?_
          refine q_iload_n d138_23 rfl ?_
          refine q_v2 d138_24 rfl rfl (xk_136 hG2.1) (Nat.le_of_ble_eq_true rfl) (hP _ _ _ _ _ _ _ _ _ hG2 hv2 hah hown h0 (cOX_o e (fun hn M3 hG3 f3 => ?_) (fun hn v3 M3 hB3 f3 => ?_)))
          · refine n_ior d138_27 ?_
            refine q_istore_n d138_28 (by decide) rfl ?_
            refine q_goto 7 d138_29 (by decide) ?_
            exact ih (i + 1) _ _ _ (by omega) (by omega) (by have := hk4 (by omega); omega) hG3 p1 (by omega) (or_lt (by omega) p3) h0 (cOX_w hk (f2.trans f3) (fun _ _ q => q))
          · refine q_ior d138_27 ?_
            refine q_istore_n d138_28 (by decide) rfl ?_
            refine q_goto 7 d138_29 (by decide) ?_
            exact l138b hB3 (by rw [pRe_b hn] at hk; exact hk.2 hn _ _ hB3 (f2.trans f3))
      · rw [pRe_er ht (pPt_b (K := (pAd n b K1.1, K1.2)) hn)] at hk
        refine q_iload_n d138_20 rfl ?_
        refine q_aload_n d138_21 rfl ?_
        refine q_iload_n d138_22 rfl ?_
        refine q_iload_n d138_23 rfl ?_
        refine q_v2 d138_24 rfl rfl (xk_136 hB2.1) (Nat.le_of_ble_eq_true rfl) (c139f hB2 ?_)
        refine n_ior d138_27 ?_
        refine q_istore_n d138_28 (by decide) rfl ?_
        refine q_goto 7 d138_29 (by decide) ?_
        exact l138b hB2 (hk _ _ hB2 f2)
    · rw [pRe_no ht] at hk
      refine q_aload_n d138_7 rfl ?_
      refine q_bipush (x := nI 59) d138_8 rfl ?_
      refine q_v1 d138_10 rfl rfl (xk_136 hG1.1) (Nat.le_of_ble_eq_true rfl) (c140n hG1 hv1 (by decide) (by decide) ht ?_)
      refine n0_eq 32 d138_13 (by decide) (by decide) (fun _ => ?_) (fun q => absurd q (by decide))
      refine q_iload_n d138_32 rfl ?_
      refine q_iret d138_33 rfl ?_
      exact hk.1 hG1.n _ hG1 (Fi.refl _ _)
theorem c138_of (m : Nat) (hP : cPX m) : cLX m := by
  intro d M Q K ah c n b hG hv hah h0 hk
  refine qC_of (d := d + 3 * m + 13) (by decide) (Nat.le_of_ble_eq_true rfl) ?_
  rw [pLd_eq] at hk
  unfold pLn at hk
  cases e : pPt n b (pB0 n b m) (tq m) ah K with
  | error f =>
    rw [e] at hk
    simp only [] at hk
    rw [← Nat.or_zero ah] at e
    refine q_aload_n d138_0 rfl ?_
    refine q_iload_n d138_1 rfl ?_
    refine q_iconstN (z := 0) d138_2 ?_
    refine q_v2 d138_3 rfl rfl (xk_136 hG.1) (Nat.le_of_ble_eq_true rfl) (hP _ _ _ _ _ _ _ _ _ hG hv hah (Nat.two_pow_pos _) h0 (cOX_e e (fun v3 M3 hB3 f3 => ?_)))
    refine q_istore_n d138_6 (by decide) rfl ?_
    exact l138b hB3 (hk _ _ hB3 f3)
  | ok r9 =>
    obtain ⟨w, K2⟩ := r9
    rw [e] at hk
    simp only [] at hk
    have h9 := pPt_v (top := tq m) hG.bb (pB0_v hG.bb m) ah K hv hah
    rw [e] at h9
    obtain ⟨p1, p2, p3, p4, p5⟩ := h9
    have hw : 2 ^ tn K.2 ≤ 2 ^ tn K2.2 := Nat.pow_le_pow_right (by omega) p2
    rw [← Nat.or_zero ah] at e
    refine q_aload_n d138_0 rfl ?_
    refine q_iload_n d138_1 rfl ?_
    refine q_iconstN (z := 0) d138_2 ?_
    refine q_v2 d138_3 rfl rfl (xk_136 hG.1) (Nat.le_of_ble_eq_true rfl) (hP _ _ _ _ _ _ _ _ _ hG hv hah (Nat.two_pow_pos _) h0 (cOX_o e (fun hn M3 hG3 f3 => ?_) (fun hn v3 M3 hB3 f3 => ?_)))
    · refine q_istore_n d138_6 (by decide) rfl ?_
      exact l138 hP 121 0 _ _ _ (by omega) (by omega) (Nat.zero_le _) hG3 p1 (by omega) p3 h0 (cOX_w hk f3 (fun _ _ q => q))
    · refine q_istore_n d138_6 (by decide) rfl ?_
      exact l138b hB3 (by rw [pRe_b hn] at hk; exact hk.2 hn _ _ hB3 f3)
theorem x141 {d c n f mm : Nat} {b : Nat → Nat} {Q : Option Value → zM → Prop} {M1 : zM} {v9 x : Int32} (hB : BX M1 c n b f) (hm : mm < 5) (k : ∀ v M', BX M' c n b f → Fi (FJ c) M1 M' → Q (some (.int v)) M') : qW (zEv (d + 2)) 141 Q 37 [(0, .ref 136), (1, .int x), (2, .int v9), (3, .int (nI mm))] [] M1 := by
  refine q_aload_n d141_37 rfl ?_
  refine q_bipush (x := nI 124) d141_38 rfl ?_
  refine q_v1 d141_40 rfl rfl (xk_136 hB.1) (Nat.le_of_ble_eq_true rfl) (c140f hB ?_)
  refine n0_eq 69 d141_43 (by decide) (by decide) (fun _ => ?_) (fun q => absurd q (by decide))
  refine q_iload_n d141_69 rfl ?_
  refine q_iconstN (z := 2) d141_70 ?_
  refine nc_lt 83 d141_71 (by decide) (by omega) (by omega) (fun h71 => ?_) (fun h71 => ?_)
  · refine q_aload_n d141_83 rfl ?_
    refine q_iconstN (z := 1) d141_84 ?_
    refine q_putz (c := 8) (f := 38) d141_85 ⟨rfl, rfl, by decide⟩ (xk_136 hB.1) (Or.inr rfl) ?_
    refine q_iconstN (z := 0) d141_88 ?_
    refine q_iret d141_89 rfl ?_
    exact k _ _ hB.bad GX.badF
  · refine q_aload_n d141_74 rfl ?_
    refine q_bipush (x := nI 125) d141_75 rfl ?_
    refine q_v1 d141_77 rfl rfl (xk_136 hB.1) (Nat.le_of_ble_eq_true rfl) (c140f hB ?_)
    refine n0_ne 90 d141_80 (by decide) (by decide) (fun q => absurd q (by decide)) (fun _ => ?_)
    refine q_aload_n d141_83 rfl ?_
    refine q_iconstN (z := 1) d141_84 ?_
    refine q_putz (c := 8) (f := 38) d141_85 ⟨rfl, rfl, by decide⟩ (xk_136 hB.1) (Or.inr rfl) ?_
    refine q_iconstN (z := 0) d141_88 ?_
    refine q_iret d141_89 rfl ?_
    exact k _ _ hB.bad GX.badF
/-- branches, from behind their second line; from behind their first -/
def pBt (n : Nat) (b : Nat → Nat) (ln : pFn) (ah own : Nat) (K : yQ) : Except Nat (Nat × yQ) := match pB3 n b ln ah own K with
  | .error f => .error f
  | .ok (o3, Q4) => pEx n b 125 o3 Q4
def pBu (n : Nat) (b : Nat → Nat) (ln : pFn) (ah own : Nat) (K : yQ) : Except Nat (Nat × yQ) := match pEx n b 124 own K with
  | .error f => .error f
  | .ok (_, Q2) => match ln ah Q2 with
    | .error f => .error f
    | .ok (o2, Q3) => pBt n b ln ah (own ||| o2) Q3
theorem pBt_b {n ah own : Nat} {b : Nat → Nat} {ln : pFn} {K : yQ} (h : ytx b K.1 = none) : pBt n b ln ah own K = .error K.1.2.1 := by
  unfold pBt pB3
  rw [if_neg (by rcases ytx_n h with ⟨h1, h2⟩ | h1 <;> omega)]
  exact pEx_b h (by decide)
theorem pBu_b {n ah own : Nat} {b : Nat → Nat} {ln : pFn} {K : yQ} (h : ytx b K.1 = none) : pBu n b ln ah own K = .error K.1.2.1 := by
  unfold pBu
  rw [pEx_b h (by decide)]
theorem pBr_u {n ah : Nat} {b : Nat → Nat} {ln : pFn} {K : yQ} : pBr n b ln ah K = match ln ah (pAd n b K.1, K.2) with
    | .error f => .error f
    | .ok (o1, Q1) => pBu n b ln ah o1 Q1 := rfl
theorem e141 {d m : Nat} {Q : Option Value → zM → Prop} {ah own c n mm : Nat} {b : Nat → Nat} {K1 : yQ} {M1 : zM} (hm : m ≤ 2) (hL : cLX m) (hG1 : GX M1 c n b (3 - m) K1) (hv1 : yQv n b K1) (h2 : 2 ≤ mm) (h3 : mm ≤ 3) (k : cOX Q M1 c n b (3 - (m + 1)) (pEx n b 125 own K1)) : qW (zEv (d + 3 * m + 14)) 141 Q 69 [(0, .ref 136), (1, .int (nI ah)), (2, .int (nI own)), (3, .int (nI mm))] [] M1 := by
  have hc := hG1.2.1
  have h120 := hG1.2.2.2.1.1
  have hk1 := hv1.1.1.1
  have hk2 := hv1.1.1.2.1
  have hk3 := hv1.1.1.2.2.1
  have hk4 := hv1.1.1.2.2.2
  by_cases ht : K1.1.1 = 125
  · rw [show pEx n b 125 own K1 = .ok (own, (pAd n b K1.1, K1.2)) from if_pos ht] at k
    refine q_iload_n d141_69 rfl ?_
    refine q_iconstN (z := 2) d141_70 ?_
    refine nc_lt 83 d141_71 (by decide) (by omega) (by omega) (fun h71 => (False.elim (by omega))) (fun h71 => ?_)
    refine q_aload_n d141_74 rfl ?_
    refine q_bipush (x := nI 125) d141_75 rfl ?_
    refine q_v1 d141_77 rfl rfl (xk_136 hG1.1) (Nat.le_of_ble_eq_true rfl) (c140t hG1 hv1 (by decide) (by decide) ht ?_)
    refine n0_ne 90 d141_80 (by decide) (by decide) (fun _ => ?_) (fun q => absurd q (by decide))
    refine q_aload_n d141_90 rfl ?_
    refine q_dup d141_91 rfl ?_
    refine q_getv (c := 8) (f := 35) d141_92 ⟨rfl, by decide⟩ (xk_136 hG1.1) hG1.2.2.2.2.2.2.1 ?_
    refine q_iconstN (z := 1) d141_95 ?_
    refine n_isub d141_96 (by omega) ?_
    refine q_puti (c := 8) (f := 35) d141_97 ⟨rfl, rfl, by decide⟩ (xk_136 hG1.1) ?_
    have hG2 : GX (zwi M1 136 35 (nI (3 - m - 1))) c n b (3 - (m + 1)) K1 := by rw [show 3 - m - 1 = 3 - (m + 1) by omega]; exact hG1.op
    refine q_aload_n d141_100 rfl ?_
    exact q_v0 d141_101 rfl rfl (xk_136 hG2.1) (Nat.le_of_ble_eq_true rfl) (c134g hG2 hv1 (fun hn M2 hG3 f2 => q_iload_n d141_104 rfl (q_iret d141_105 rfl (k.1 hn M2 hG3 ((FJ_w (by decide) (by decide)).trans f2)))) (fun hn M2 hB3 f2 => q_iload_n d141_104 rfl (q_iret d141_105 rfl (k.2 hn _ M2 hB3 ((FJ_w (by decide) (by decide)).trans f2)))))
  · rw [show pEx n b 125 own K1 = .error K1.1.2.1 from if_neg ht] at k
    refine q_iload_n d141_69 rfl ?_
    refine q_iconstN (z := 2) d141_70 ?_
    refine nc_lt 83 d141_71 (by decide) (by omega) (by omega) (fun h71 => (False.elim (by omega))) (fun h71 => ?_)
    refine q_aload_n d141_74 rfl ?_
    refine q_bipush (x := nI 125) d141_75 rfl ?_
    refine q_v1 d141_77 rfl rfl (xk_136 hG1.1) (Nat.le_of_ble_eq_true rfl) (c140n hG1 hv1 (by decide) (by decide) ht ?_)
    refine n0_ne 90 d141_80 (by decide) (by decide) (fun q => absurd q (by decide)) (fun _ => ?_)
    refine q_aload_n d141_83 rfl ?_
    refine q_iconstN (z := 1) d141_84 ?_
    refine q_putz (c := 8) (f := 38) d141_85 ⟨rfl, rfl, by decide⟩ (xk_136 hG1.1) (Or.inr rfl) ?_
    refine q_iconstN (z := 0) d141_88 ?_
    refine q_iret d141_89 rfl ?_
    exact k _ _ hG1.bad GX.badF
theorem t141c {d m : Nat} {Q : Option Value → zM → Prop} {ah own c n : Nat} {b : Nat → Nat} {K1 : yQ} {M1 : zM} (hm : m ≤ 2) (hL : cLX m) (hG1 : GX M1 c n b (3 - m) K1) (hv1 : yQv n b K1) (k : cOX Q M1 c n b (3 - (m + 1)) (pEx n b 125 own K1)) : qW (zEv (d + 3 * m + 14)) 141 Q 37 [(0, .ref 136), (1, .int (nI ah)), (2, .int (nI own)), (3, .int (nI 3))] [] M1 := by
  have hc := hG1.2.1
  have h120 := hG1.2.2.2.1.1
  have hk1 := hv1.1.1.1
  have hk2 := hv1.1.1.2.1
  have hk3 := hv1.1.1.2.2.1
  have hk4 := hv1.1.1.2.2.2
  by_cases ht : K1.1.1 = 124
  · skip
    refine q_aload_n d141_37 rfl ?_
    refine q_bipush (x := nI 124) d141_38 rfl ?_
    refine q_v1 d141_40 rfl rfl (xk_136 hG1.1) (Nat.le_of_ble_eq_true rfl) (c140t hG1 hv1 (by decide) (by decide) ht ?_)
    refine n0_eq 69 d141_43 (by decide) (by decide) (fun q => absurd q (by decide)) (fun _ => ?_)
    refine q_iload_n d141_46 rfl ?_
    refine q_iconstN (z := 3) d141_47 ?_
    refine nc_ge 69 d141_48 (by decide) (by decide) (by decide) (fun _ => ?_) (fun q => absurd q (by decide))
    exact e141 hm hL hG1 hv1 (by decide) (by decide) k
  · skip
    refine q_aload_n d141_37 rfl ?_
    refine q_bipush (x := nI 124) d141_38 rfl ?_
    refine q_v1 d141_40 rfl rfl (xk_136 hG1.1) (Nat.le_of_ble_eq_true rfl) (c140n hG1 hv1 (by decide) (by decide) ht ?_)
    refine n0_eq 69 d141_43 (by decide) (by decide) (fun _ => ?_) (fun q => absurd q (by decide))
    exact e141 hm hL hG1 hv1 (by decide) (by decide) k
theorem t141b {d m : Nat} {Q : Option Value → zM → Prop} {ah own c n : Nat} {b : Nat → Nat} {K1 : yQ} {M1 : zM} (hm : m ≤ 2) (hL : cLX m) (hG1 : GX M1 c n b (3 - m) K1) (hv1 : yQv n b K1) (hah : ah < 2 ^ tn K1.2) (hown : own < 2 ^ tn K1.2) (h0 : tq m = true → ah = 0) (k : cOX Q M1 c n b (3 - (m + 1)) (pBt n b (pLd n b m (tq m)) ah own K1)) : qW (zEv (d + 3 * m + 14)) 141 Q 37 [(0, .ref 136), (1, .int (nI ah)), (2, .int (nI own)), (3, .int (nI 2))] [] M1 := by
  have hc := hG1.2.1
  have h120 := hG1.2.2.2.1.1
  have hk1 := hv1.1.1.1
  have hk2 := hv1.1.1.2.1
  have hk3 := hv1.1.1.2.2.1
  have hk4 := hv1.1.1.2.2.2
  by_cases ht : K1.1.1 = 124
  · skip
    refine q_aload_n d141_37 rfl ?_
    refine q_bipush (x := nI 124) d141_38 rfl ?_
    refine q_v1 d141_40 rfl rfl (xk_136 hG1.1) (Nat.le_of_ble_eq_true rfl) (c140t hG1 hv1 (by decide) (by decide) ht ?_)
    refine n0_eq 69 d141_43 (by decide) (by decide) (fun q => absurd q (by decide)) (fun _ => ?_)
    refine q_iload_n d141_46 rfl ?_
    refine q_iconstN (z := 3) d141_47 ?_
    refine nc_ge 69 d141_48 (by decide) (by decide) (by decide) (fun q => absurd q (by decide)) (fun _ => ?_)
    refine q_aload_n d141_51 rfl ?_
    refine q_v0 d141_52 rfl rfl (xk_136 hG1.1) (Nat.le_of_ble_eq_true rfl) (c134g hG1 hv1 (fun hn M2 hG2 f2 => ?_) (fun hn M2 hB2 f2 => ?_))
    · have hv2 : yQv n b (pAd n b K1.1, K1.2) := ⟨(pAd_v hv1.1 hG1.bb).1, hv1.2⟩
      cases e : pLd n b m (tq m) ah (pAd n b K1.1, K1.2) with
      | error f =>
        have ke : ∀ v M', BX M' c n b f → Fi (FJ c) M1 M' → Q (some (.int v)) M' := k.e (by unfold pBt pB3; rw [if_pos ht, e])
        refine q_iload_n d141_55 rfl ?_
        refine q_aload_n d141_56 rfl ?_
        refine q_iload_n d141_57 rfl ?_
        refine q_v1 d141_58 rfl rfl (xk_136 hG2.1) (Nat.le_of_ble_eq_true rfl) (hL _ _ _ _ _ _ _ _ hG2 hv2 hah h0 (cOX_e e (fun v3 M3 hB3 f3 => ?_)))
        refine q_ior d141_61 ?_
        refine q_istore_n d141_62 (by decide) rfl ?_
        refine n_iinc 1 d141_63 (by decide) rfl rfl ?_
        refine q_goto 37 d141_66 (by decide) ?_
        refine qW_srt rfl rfl ?_
        exact x141 hB3 (by decide) (fun v M' g1 g2 => ke v M' g1 ((f2.trans f3).trans g2))
      | ok r9 =>
        obtain ⟨w, K2⟩ := r9
        have h9 := pLd_v hG1.bb m (tq m) ah (pAd n b K1.1, K1.2) hv2 hah
        rw [e] at h9
        obtain ⟨p1, p2, p3, p4, p5⟩ := h9
        have p2 : tn K1.2 ≤ tn K2.2 := p2
        have hw : 2 ^ tn K1.2 ≤ 2 ^ tn K2.2 := Nat.pow_le_pow_right (by omega) p2
        have ko : ytx b K2.1 = none → ∀ v M', BX M' c n b K2.1.2.1 → Fi (FJ c) M1 M' → Q (some (.int v)) M' := fun hn => k.e (by unfold pBt pB3; rw [if_pos ht, e]; exact pEx_b hn (by decide))
        have kg : cOX Q M1 c n b (3 - (m + 1)) (pEx n b 125 (own ||| w) K2) := by
          have e8 : pBt n b (pLd n b m (tq m)) ah own K1 = pEx n b 125 (own ||| w) K2 := by unfold pBt pB3; rw [if_pos ht, e]
          rw [e8] at k; exact k
        refine q_iload_n d141_55 rfl ?_
        refine q_aload_n d141_56 rfl ?_
        refine q_iload_n d141_57 rfl ?_
        refine q_v1 d141_58 rfl rfl (xk_136 hG2.1) (Nat.le_of_ble_eq_true rfl) (hL _ _ _ _ _ _ _ _ hG2 hv2 hah h0 (cOX_o e (fun hn9 M3 hG3 f3 => ?_) (fun hn9 v3 M3 hB3 f3 => ?_)))
        · refine n_ior d141_61 ?_
          refine q_istore_n d141_62 (by decide) rfl ?_
          refine n_iinc 1 d141_63 (by decide) rfl rfl ?_
          refine q_goto 37 d141_66 (by decide) ?_
          refine qW_srt rfl rfl ?_
          exact t141c hm hL hG3 p1 (cOX_w kg (f2.trans f3) (fun _ _ q => q))
        · refine q_ior d141_61 ?_
          refine q_istore_n d141_62 (by decide) rfl ?_
          refine n_iinc 1 d141_63 (by decide) rfl rfl ?_
          refine q_goto 37 d141_66 (by decide) ?_
          refine qW_srt rfl rfl ?_
          exact x141 hB3 (by decide) (fun v M' g1 g2 => ko hn9 v M' g1 ((f2.trans f3).trans g2))
    · have ke : ∀ v M', BX M' c n b (pAd n b K1.1).2.1 → Fi (FJ c) M1 M' → Q (some (.int v)) M' := k.e (by unfold pBt pB3; rw [if_pos ht, pLd_b (K := (pAd n b K1.1, K1.2)) hn])
      refine q_iload_n d141_55 rfl ?_
      refine q_aload_n d141_56 rfl ?_
      refine q_iload_n d141_57 rfl ?_
      refine q_v1 d141_58 rfl rfl (xk_136 hB2.1) (Nat.le_of_ble_eq_true rfl) (c138f hB2 (fun v8 => ?_))
      refine q_ior d141_61 ?_
      refine q_istore_n d141_62 (by decide) rfl ?_
      refine n_iinc 1 d141_63 (by decide) rfl rfl ?_
      refine q_goto 37 d141_66 (by decide) ?_
      refine qW_srt rfl rfl ?_
      exact x141 hB2 (by decide) (fun v M' g1 g2 => ke v M' g1 (f2.trans g2))
  · rw [show pBt n b (pLd n b m (tq m)) ah own K1 = pEx n b 125 own K1 by unfold pBt pB3; rw [if_neg ht]] at k
    refine q_aload_n d141_37 rfl ?_
    refine q_bipush (x := nI 124) d141_38 rfl ?_
    refine q_v1 d141_40 rfl rfl (xk_136 hG1.1) (Nat.le_of_ble_eq_true rfl) (c140n hG1 hv1 (by decide) (by decide) ht ?_)
    refine n0_eq 69 d141_43 (by decide) (by decide) (fun _ => ?_) (fun q => absurd q (by decide))
    exact e141 hm hL hG1 hv1 (by decide) (by decide) k
theorem t141a {d m : Nat} {Q : Option Value → zM → Prop} {ah own c n : Nat} {b : Nat → Nat} {K1 : yQ} {M1 : zM} (hm : m ≤ 2) (hL : cLX m) (hG1 : GX M1 c n b (3 - m) K1) (hv1 : yQv n b K1) (hah : ah < 2 ^ tn K1.2) (hown : own < 2 ^ tn K1.2) (h0 : tq m = true → ah = 0) (k : cOX Q M1 c n b (3 - (m + 1)) (pBu n b (pLd n b m (tq m)) ah own K1)) : qW (zEv (d + 3 * m + 14)) 141 Q 37 [(0, .ref 136), (1, .int (nI ah)), (2, .int (nI own)), (3, .int (nI 1))] [] M1 := by
  have hc := hG1.2.1
  have h120 := hG1.2.2.2.1.1
  have hk1 := hv1.1.1.1
  have hk2 := hv1.1.1.2.1
  have hk3 := hv1.1.1.2.2.1
  have hk4 := hv1.1.1.2.2.2
  by_cases ht : K1.1.1 = 124
  · skip
    refine q_aload_n d141_37 rfl ?_
    refine q_bipush (x := nI 124) d141_38 rfl ?_
    refine q_v1 d141_40 rfl rfl (xk_136 hG1.1) (Nat.le_of_ble_eq_true rfl) (c140t hG1 hv1 (by decide) (by decide) ht ?_)
    refine n0_eq 69 d141_43 (by decide) (by decide) (fun q => absurd q (by decide)) (fun _ => ?_)
    refine q_iload_n d141_46 rfl ?_
    refine q_iconstN (z := 3) d141_47 ?_
    refine nc_ge 69 d141_48 (by decide) (by decide) (by decide) (fun q => absurd q (by decide)) (fun _ => ?_)
    refine q_aload_n d141_51 rfl ?_
    refine q_v0 d141_52 rfl rfl (xk_136 hG1.1) (Nat.le_of_ble_eq_true rfl) (c134g hG1 hv1 (fun hn M2 hG2 f2 => ?_) (fun hn M2 hB2 f2 => ?_))
    · have hv2 : yQv n b (pAd n b K1.1, K1.2) := ⟨(pAd_v hv1.1 hG1.bb).1, hv1.2⟩
      cases e : pLd n b m (tq m) ah (pAd n b K1.1, K1.2) with
      | error f =>
        have ke : ∀ v M', BX M' c n b f → Fi (FJ c) M1 M' → Q (some (.int v)) M' := k.e (by unfold pBu pEx; rw [if_pos ht]; show (match pLd n b m (tq m) ah (pAd n b K1.1, K1.2) with | .error f => Except.error f | .ok (o2, Q3) => pBt n b (pLd n b m (tq m)) ah (own ||| o2) Q3) = _; rw [e])
        refine q_iload_n d141_55 rfl ?_
        refine q_aload_n d141_56 rfl ?_
        refine q_iload_n d141_57 rfl ?_
        refine q_v1 d141_58 rfl rfl (xk_136 hG2.1) (Nat.le_of_ble_eq_true rfl) (hL _ _ _ _ _ _ _ _ hG2 hv2 hah h0 (cOX_e e (fun v3 M3 hB3 f3 => ?_)))
        refine q_ior d141_61 ?_
        refine q_istore_n d141_62 (by decide) rfl ?_
        refine n_iinc 1 d141_63 (by decide) rfl rfl ?_
        refine q_goto 37 d141_66 (by decide) ?_
        refine qW_srt rfl rfl ?_
        exact x141 hB3 (by decide) (fun v M' g1 g2 => ke v M' g1 ((f2.trans f3).trans g2))
      | ok r9 =>
        obtain ⟨w, K2⟩ := r9
        have h9 := pLd_v hG1.bb m (tq m) ah (pAd n b K1.1, K1.2) hv2 hah
        rw [e] at h9
        obtain ⟨p1, p2, p3, p4, p5⟩ := h9
        have p2 : tn K1.2 ≤ tn K2.2 := p2
        have hw : 2 ^ tn K1.2 ≤ 2 ^ tn K2.2 := Nat.pow_le_pow_right (by omega) p2
        have ko : ytx b K2.1 = none → ∀ v M', BX M' c n b K2.1.2.1 → Fi (FJ c) M1 M' → Q (some (.int v)) M' := fun hn => k.e (by unfold pBu pEx; rw [if_pos ht]; show (match pLd n b m (tq m) ah (pAd n b K1.1, K1.2) with | .error f => Except.error f | .ok (o2, Q3) => pBt n b (pLd n b m (tq m)) ah (own ||| o2) Q3) = _; rw [e]; exact pBt_b hn)
        have kg : cOX Q M1 c n b (3 - (m + 1)) (pBt n b (pLd n b m (tq m)) ah (own ||| w) K2) := by
          have e8 : pBu n b (pLd n b m (tq m)) ah own K1 = pBt n b (pLd n b m (tq m)) ah (own ||| w) K2 := by
            unfold pBu pEx; rw [if_pos ht]
            show (match pLd n b m (tq m) ah (pAd n b K1.1, K1.2) with | .error f => Except.error f | .ok (o2, Q3) => pBt n b (pLd n b m (tq m)) ah (own ||| o2) Q3) = _
            rw [e]
          rw [e8] at k; exact k
        refine q_iload_n d141_55 rfl ?_
        refine q_aload_n d141_56 rfl ?_
        refine q_iload_n d141_57 rfl ?_
        refine q_v1 d141_58 rfl rfl (xk_136 hG2.1) (Nat.le_of_ble_eq_true rfl) (hL _ _ _ _ _ _ _ _ hG2 hv2 hah h0 (cOX_o e (fun hn9 M3 hG3 f3 => ?_) (fun hn9 v3 M3 hB3 f3 => ?_)))
        · refine n_ior d141_61 ?_
          refine q_istore_n d141_62 (by decide) rfl ?_
          refine n_iinc 1 d141_63 (by decide) rfl rfl ?_
          refine q_goto 37 d141_66 (by decide) ?_
          refine qW_srt rfl rfl ?_
          exact t141b hm hL hG3 p1 (by omega) (or_lt (by omega) p3) h0 (cOX_w kg (f2.trans f3) (fun _ _ q => q))
        · refine q_ior d141_61 ?_
          refine q_istore_n d141_62 (by decide) rfl ?_
          refine n_iinc 1 d141_63 (by decide) rfl rfl ?_
          refine q_goto 37 d141_66 (by decide) ?_
          refine qW_srt rfl rfl ?_
          exact x141 hB3 (by decide) (fun v M' g1 g2 => ko hn9 v M' g1 ((f2.trans f3).trans g2))
    · have ke : ∀ v M', BX M' c n b (pAd n b K1.1).2.1 → Fi (FJ c) M1 M' → Q (some (.int v)) M' := k.e (by unfold pBu pEx; rw [if_pos ht]; show (match pLd n b m (tq m) ah (pAd n b K1.1, K1.2) with | .error f => Except.error f | .ok (o2, Q3) => pBt n b (pLd n b m (tq m)) ah (own ||| o2) Q3) = _; rw [pLd_b (K := (pAd n b K1.1, K1.2)) hn])
      refine q_iload_n d141_55 rfl ?_
      refine q_aload_n d141_56 rfl ?_
      refine q_iload_n d141_57 rfl ?_
      refine q_v1 d141_58 rfl rfl (xk_136 hB2.1) (Nat.le_of_ble_eq_true rfl) (c138f hB2 (fun v8 => ?_))
      refine q_ior d141_61 ?_
      refine q_istore_n d141_62 (by decide) rfl ?_
      refine n_iinc 1 d141_63 (by decide) rfl rfl ?_
      refine q_goto 37 d141_66 (by decide) ?_
      refine qW_srt rfl rfl ?_
      exact x141 hB2 (by decide) (fun v M' g1 g2 => ke v M' g1 (f2.trans g2))
  · rw [show pBu n b (pLd n b m (tq m)) ah own K1 = .error K1.1.2.1 by unfold pBu pEx; rw [if_neg ht]] at k
    refine q_aload_n d141_37 rfl ?_
    refine q_bipush (x := nI 124) d141_38 rfl ?_
    refine q_v1 d141_40 rfl rfl (xk_136 hG1.1) (Nat.le_of_ble_eq_true rfl) (c140n hG1 hv1 (by decide) (by decide) ht ?_)
    refine n0_eq 69 d141_43 (by decide) (by decide) (fun _ => ?_) (fun q => absurd q (by decide))
    refine q_iload_n d141_69 rfl ?_
    refine q_iconstN (z := 2) d141_70 ?_
    refine nc_lt 83 d141_71 (by decide) (by decide) (by decide) (fun _ => ?_) (fun q => absurd q (by decide))
    refine q_aload_n d141_83 rfl ?_
    refine q_iconstN (z := 1) d141_84 ?_
    refine q_putz (c := 8) (f := 38) d141_85 ⟨rfl, rfl, by decide⟩ (xk_136 hG1.1) (Or.inr rfl) ?_
    refine q_iconstN (z := 0) d141_88 ?_
    refine q_iret d141_89 rfl ?_
    exact k _ _ hG1.bad GX.badF
theorem c141_of (m : Nat) (hm : m ≤ 2) (hL : cLX m) : cBX m := by
  intro d M Q K ah c n b hG hv hah hk
  have hq : tq m = false := by unfold tq; exact beq_false_of_ne (by omega)
  have h0 : tq m = true → ah = 0 := fun q => by rw [hq] at q; cases q
  refine qC_of (d := d + 3 * m + 14) (by decide) (Nat.le_of_ble_eq_true rfl) ?_
  refine q_aload_n d141_0 rfl ?_
  refine q_getv (c := 8) (f := 35) d141_1 ⟨rfl, by decide⟩ (xk_136 hG.1) hG.2.2.2.2.2.2.1 ?_
  refine q_iconstN (z := 3) d141_4 ?_
  refine nc_ne 15 d141_5 (by decide) (by omega) (by omega) (fun h5 => ?_) (fun h5 => (False.elim (by omega)))
  refine q_aload_n d141_15 rfl ?_
  refine q_dup d141_16 rfl ?_
  refine q_getv (c := 8) (f := 35) d141_17 ⟨rfl, by decide⟩ (xk_136 hG.1) hG.2.2.2.2.2.2.1 ?_
  refine q_iconstN (z := 1) d141_20 ?_
  refine n_iadd d141_21 ?_
  refine q_puti (c := 8) (f := 35) d141_22 ⟨rfl, rfl, by decide⟩ (xk_136 hG.1) ?_
  have hG2 : GX (zwi M 136 35 (nI (3 - (m + 1) + 1))) c n b (3 - m) K := by rw [show 3 - (m + 1) + 1 = 3 - m by omega]; exact hG.op
  have f1 : Fi (FJ c) M (zwi M 136 35 (nI (3 - (m + 1) + 1))) := FJ_w (by decide) (by decide)
  refine q_aload_n d141_25 rfl ?_
  refine q_v0 d141_26 rfl rfl (xk_136 hG2.1) (Nat.le_of_ble_eq_true rfl) (c134g hG2 hv (fun hn M2 hG3 f2 => ?_) (fun hn M2 hB2 f2 => ?_))
  · have hv2 : yQv n b (pAd n b K.1, K.2) := ⟨(pAd_v hv.1 hG.bb).1, hv.2⟩
    cases e : pLd n b m (tq m) ah (pAd n b K.1, K.2) with
    | error f =>
      have ke : ∀ v M', BX M' c n b f → Fi (FJ c) M M' → Q (some (.int v)) M' := hk.e (by rw [pBr_u, ← hq, e])
      refine q_aload_n d141_29 rfl ?_
      refine q_iload_n d141_30 rfl ?_
      refine q_v1 d141_31 rfl rfl (xk_136 hG3.1) (Nat.le_of_ble_eq_true rfl) (hL _ _ _ _ _ _ _ _ hG3 hv2 hah h0 (cOX_e e (fun v3 M3 hB3 f3 => ?_)))
      refine q_istore_n d141_34 (by decide) rfl ?_
      refine q_iconstN (z := 1) d141_35 ?_
      refine q_istore_n d141_36 (by decide) rfl ?_
      refine qW_srt rfl rfl ?_
      exact x141 hB3 (by decide) (fun v M' g1 g2 => ke v M' g1 ((f1.trans (f2.trans f3)).trans g2))
    | ok r9 =>
      obtain ⟨w, K2⟩ := r9
      have h9 := pLd_v hG.bb m (tq m) ah (pAd n b K.1, K.2) hv2 hah
      rw [e] at h9
      obtain ⟨p1, p2, p3, p4, p5⟩ := h9
      have p2 : tn K.2 ≤ tn K2.2 := p2
      have hw : 2 ^ tn K.2 ≤ 2 ^ tn K2.2 := Nat.pow_le_pow_right (by omega) p2
      have kg : cOX Q M c n b (3 - (m + 1)) (pBu n b (pLd n b m (tq m)) ah w K2) := by
        rw [pBr_u, ← hq, e] at hk; exact hk
      refine q_aload_n d141_29 rfl ?_
      refine q_iload_n d141_30 rfl ?_
      refine q_v1 d141_31 rfl rfl (xk_136 hG3.1) (Nat.le_of_ble_eq_true rfl) (hL _ _ _ _ _ _ _ _ hG3 hv2 hah h0 (cOX_o e (fun hn9 M3 hG4 f3 => ?_) (fun hn9 v3 M3 hB3 f3 => ?_)))
      · refine q_istore_n d141_34 (by decide) rfl ?_
        refine q_iconstN (z := 1) d141_35 ?_
        refine q_istore_n d141_36 (by decide) rfl ?_
        refine qW_srt rfl rfl ?_
        exact t141a hm hL hG4 p1 (by omega) p3 h0 (cOX_w kg (f1.trans (f2.trans f3)) (fun _ _ q => q))
      · refine q_istore_n d141_34 (by decide) rfl ?_
        refine q_iconstN (z := 1) d141_35 ?_
        refine q_istore_n d141_36 (by decide) rfl ?_
        refine qW_srt rfl rfl ?_
        exact x141 hB3 (by decide) (fun v M' g1 g2 => kg.e (pBu_b hn9) v M' g1 ((f1.trans (f2.trans f3)).trans g2))
  · have ke : ∀ v M', BX M' c n b (pAd n b K.1).2.1 → Fi (FJ c) M M' → Q (some (.int v)) M' := hk.e (by rw [pBr_u, ← hq, pLd_b (K := (pAd n b K.1, K.2)) hn])
    refine q_aload_n d141_29 rfl ?_
    refine q_iload_n d141_30 rfl ?_
    refine q_v1 d141_31 rfl rfl (xk_136 hB2.1) (Nat.le_of_ble_eq_true rfl) (c138f hB2 (fun v8 => ?_))
    refine q_istore_n d141_34 (by decide) rfl ?_
    refine q_iconstN (z := 1) d141_35 ?_
    refine q_istore_n d141_36 (by decide) rfl ?_
    refine qW_srt rfl rfl ?_
    exact x141 hB2 (by decide) (fun v M' g1 g2 => ke v M' g1 ((f1.trans f2).trans g2))
theorem cLX_0 : cLX 0 := c138_of 0 c139_0
theorem cLX_1 : cLX 1 := c138_of 1 (c139_S 0 (by omega) (c141_of 0 (by omega) cLX_0))
theorem cLX_2 : cLX 2 := c138_of 2 (c139_S 1 (by omega) (c141_of 1 (by omega) cLX_1))
theorem cLX_3 : cLX 3 := c138_of 3 (c139_S 2 (by omega) (c141_of 2 (by omega) cLX_2))
