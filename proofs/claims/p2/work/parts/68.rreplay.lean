/-! ===== the reference: replays ===== -/
/-! the reference's replays -/
theorem XLg_fb {M M' : zM} {L : List yL} (h : XLg M L) (f : Fi FB M M') : XLg M' L :=
  ⟨(f.1 _ _ (by unfold FB; omega)).trans h.1, fun k hk => ⟨(f.1 _ _ (by unfold FB; omega)).trans (h.2 k hk).1, (f.1 _ _ (by unfold FB; omega)).trans (h.2 k hk).2.1, (f.1 _ _ (by unfold FB; omega)).trans (h.2 k hk).2.2⟩⟩
theorem yZ_0 : yZ yW0 := fun _ _ => ⟨rfl, rfl, rfl⟩
theorem d193_0 : decode (zB 193) 0 = .ok (.iconst 0, 1) := by decide +kernel
theorem d193_1 : decode (zB 193) 1 = .ok (.istore_n 2, 1) := by decide +kernel
theorem d193_2 : decode (zB 193) 2 = .ok (.iload_n 2, 1) := by decide +kernel
theorem d193_3 : decode (zB 193) 3 = .ok (.bipush 6, 2) := by decide +kernel
theorem d193_5 : decode (zB 193) 5 = .ok (.if_icmp .ge 17, 3) := by decide +kernel
theorem d193_8 : decode (zB 193) 8 = .ok (.aload_n 0, 1) := by decide +kernel
theorem d193_9 : decode (zB 193) 9 = .ok (.getfield 33, 3) := by decide +kernel
theorem d193_12 : decode (zB 193) 12 = .ok (.iload_n 2, 1) := by decide +kernel
theorem d193_13 : decode (zB 193) 13 = .ok (.bipush 100, 2) := by decide +kernel
theorem d193_15 : decode (zB 193) 15 = .ok (.iastore, 1) := by decide +kernel
theorem d193_16 : decode (zB 193) 16 = .ok (.iinc 2 1, 3) := by decide +kernel
theorem d193_19 : decode (zB 193) 19 = .ok (.goto (-17), 3) := by decide +kernel
theorem d193_22 : decode (zB 193) 22 = .ok (.aload_n 0, 1) := by decide +kernel
theorem d193_23 : decode (zB 193) 23 = .ok (.iconst 0, 1) := by decide +kernel
theorem d193_24 : decode (zB 193) 24 = .ok (.putfield 276, 3) := by decide +kernel
theorem d193_27 : decode (zB 193) 27 = .ok (.aload_n 0, 1) := by decide +kernel
theorem d193_28 : decode (zB 193) 28 = .ok (.iconst 0, 1) := by decide +kernel
theorem d193_29 : decode (zB 193) 29 = .ok (.putfield 282, 3) := by decide +kernel
theorem d193_32 : decode (zB 193) 32 = .ok (.iconst 0, 1) := by decide +kernel
theorem d193_33 : decode (zB 193) 33 = .ok (.istore_n 2, 1) := by decide +kernel
theorem d193_34 : decode (zB 193) 34 = .ok (.iload_n 2, 1) := by decide +kernel
theorem d193_35 : decode (zB 193) 35 = .ok (.iconst 3, 1) := by decide +kernel
theorem d193_36 : decode (zB 193) 36 = .ok (.if_icmp .ge 22, 3) := by decide +kernel
theorem d193_39 : decode (zB 193) 39 = .ok (.aload_n 0, 1) := by decide +kernel
theorem d193_40 : decode (zB 193) 40 = .ok (.iload_n 2, 1) := by decide +kernel
theorem d193_41 : decode (zB 193) 41 = .ok (.iconst (-1), 1) := by decide +kernel
theorem d193_42 : decode (zB 193) 42 = .ok (.invokevirtual 348, 3) := by decide +kernel
theorem d193_45 : decode (zB 193) 45 = .ok (.aload_n 0, 1) := by decide +kernel
theorem d193_46 : decode (zB 193) 46 = .ok (.getfield 36, 3) := by decide +kernel
theorem d193_49 : decode (zB 193) 49 = .ok (.iload_n 2, 1) := by decide +kernel
theorem d193_50 : decode (zB 193) 50 = .ok (.iconst 0, 1) := by decide +kernel
theorem d193_51 : decode (zB 193) 51 = .ok (.iastore, 1) := by decide +kernel
theorem d193_52 : decode (zB 193) 52 = .ok (.iinc 2 1, 3) := by decide +kernel
theorem d193_55 : decode (zB 193) 55 = .ok (.goto (-21), 3) := by decide +kernel
theorem d193_58 : decode (zB 193) 58 = .ok (.iconst 0, 1) := by decide +kernel
theorem d193_59 : decode (zB 193) 59 = .ok (.istore_n 2, 1) := by decide +kernel
theorem d193_60 : decode (zB 193) 60 = .ok (.iload_n 2, 1) := by decide +kernel
theorem d193_61 : decode (zB 193) 61 = .ok (.iload_n 1, 1) := by decide +kernel
theorem d193_62 : decode (zB 193) 62 = .ok (.if_icmp .ge 31, 3) := by decide +kernel
theorem d193_65 : decode (zB 193) 65 = .ok (.aload_n 0, 1) := by decide +kernel
theorem d193_66 : decode (zB 193) 66 = .ok (.aload_n 0, 1) := by decide +kernel
theorem d193_67 : decode (zB 193) 67 = .ok (.getfield 67, 3) := by decide +kernel
theorem d193_70 : decode (zB 193) 70 = .ok (.iload_n 2, 1) := by decide +kernel
theorem d193_71 : decode (zB 193) 71 = .ok (.iaload, 1) := by decide +kernel
theorem d193_72 : decode (zB 193) 72 = .ok (.aload_n 0, 1) := by decide +kernel
theorem d193_73 : decode (zB 193) 73 = .ok (.getfield 70, 3) := by decide +kernel
theorem d193_76 : decode (zB 193) 76 = .ok (.iload_n 2, 1) := by decide +kernel
theorem d193_77 : decode (zB 193) 77 = .ok (.iaload, 1) := by decide +kernel
theorem d193_78 : decode (zB 193) 78 = .ok (.aload_n 0, 1) := by decide +kernel
theorem d193_79 : decode (zB 193) 79 = .ok (.getfield 73, 3) := by decide +kernel
theorem d193_82 : decode (zB 193) 82 = .ok (.iload_n 2, 1) := by decide +kernel
theorem d193_83 : decode (zB 193) 83 = .ok (.iaload, 1) := by decide +kernel
theorem d193_84 : decode (zB 193) 84 = .ok (.invokevirtual 360, 3) := by decide +kernel
theorem d193_87 : decode (zB 193) 87 = .ok (.iinc 2 1, 3) := by decide +kernel
theorem d193_90 : decode (zB 193) 90 = .ok (.goto (-30), 3) := by decide +kernel
theorem d193_93 : decode (zB 193) 93 = .ok (.return_, 1) := by decide +kernel
theorem l193a {d : Nat} {Q : Option Value → zM → Prop} {M0 : zM} {n : Nat} (hX0 : SX M0) (k : ∀ M1, XPu M1 yP0 → Fi FB M0 M1 → zi M1 136 20 = zi M0 136 20 → qW (zEv (d + 4)) 193 Q 34 [(0, .ref 136), (1, .int (nI n)), (2, .int (nI 0))] [] M1) : ∀ (r i : Nat) (M1 : zM), i ≤ 6 → 6 < i + r →  Fi FB M0 M1 → zi M1 136 20 = zi M0 136 20 → (∀ j, j < i → zi M1 174 j = nI 100) → qW (zEv (d + 4)) 193 Q 2 [(0, .ref 136), (1, .int (nI n)), (2, .int (nI i))] [] M1 := by
  intro r
  induction r with
  | zero => intros; omega
  | succ r ih =>
    intro i M1 h1 h2 hf hc hb
    have hX := SX_fi hX0 hf
    refine q_iload_n d193_2 rfl ?_
    refine q_bipush (x := nI 6) d193_3 rfl ?_
    refine nc_ge 22 d193_5 (by decide) (by omega) (by omega) (fun h5 => ?_) (fun h5 => ?_)
    · refine q_aload_n d193_22 rfl ?_
      refine q_iconstN (z := 0) d193_23 ?_
      refine q_puti (c := 8) (f := 9) d193_24 ⟨rfl, rfl, by decide⟩ (xk_136 hX) ?_
      refine q_aload_n d193_27 rfl ?_
      refine q_iconstN (z := 0) d193_28 ?_
      refine q_puti (c := 8) (f := 10) d193_29 ⟨rfl, rfl, by decide⟩ (xk_136 hX) ?_
      refine q_iconstN (z := 0) d193_32 ?_
      refine q_istore_n d193_33 (by decide) rfl ?_
      refine qW_srt rfl rfl ?_
      exact k _ ⟨fun j hj => (wi_n (by omega)).trans ((wi_n (by omega)).trans (hb j (by omega))), (wi_n (by omega)).trans (wi_s _ _ _ _), wi_s _ _ _ _⟩ ((hf.wi (by unfold FB; omega)).wi (by unfold FB; omega)) ((wi_n (by omega)).trans ((wi_n (by omega)).trans hc))
    · refine q_aload_n d193_8 rfl ?_
      refine q_getr (c := 8) (f := 8) d193_9 ⟨rfl, rfl⟩ (xk_136 hX) (xf_balances hX) ?_
      refine q_iload_n d193_12 rfl ?_
      refine q_bipush (x := nI 100) d193_13 rfl ?_
      refine n_iast d193_15 (xk_balances hX) (by omega) (by decide) ?_
      refine n_iinc 1 d193_16 (by decide) rfl rfl ?_
      refine q_goto 2 d193_19 (by decide) ?_
      refine qW_srt rfl rfl ?_
      exact ih (i + 1) _ (by omega) (by omega) (hf.wi (by unfold FB; omega)) ((wi_n (by omega)).trans hc) (fun j hj => by by_cases e : j = i; (subst e; exact wi_s _ _ _ _); (rw [wi_n (by omega)]; exact hb j (by omega)))
theorem l193b {d : Nat} {Q : Option Value → zM → Prop} {M0 : zM} {n κ : Nat} (hX0 : SX M0) (k : ∀ M1, XPu M1 yP0 → Fi FB M0 M1 → zi M1 136 20 = zi M0 136 20 → (∀ r, r < 3 → XSa M1 r yS0 κ) → qW (zEv (d + 4)) 193 Q 60 [(0, .ref 136), (1, .int (nI n)), (2, .int (nI 0))] [] M1) : ∀ (r i : Nat) (M1 : zM), i ≤ 3 → 3 < i + r →  XPu M1 yP0 → Fi FB M0 M1 → zi M1 136 20 = zi M0 136 20 → (∀ r, r < i → XSa M1 r yS0 κ) → qW (zEv (d + 4)) 193 Q 34 [(0, .ref 136), (1, .int (nI n)), (2, .int (nI i))] [] M1 := by
  intro r
  induction r with
  | zero => intros; omega
  | succ r ih =>
    intro i M1 h1 h2 hP hf hc hb
    have hX := SX_fi hX0 hf
    refine q_iload_n d193_34 rfl ?_
    refine q_iconstN (z := 3) d193_35 ?_
    refine nc_ge 58 d193_36 (by decide) (by omega) (by omega) (fun h36 => ?_) (fun h36 => ?_)
    · refine q_iconstN (z := 0) d193_58 ?_
      refine q_istore_n d193_59 (by decide) rfl ?_
      refine qW_srt rfl rfl ?_
      exact k _ hP hf hc (fun r hr => hb r (by omega))
    · refine q_aload_n d193_39 rfl ?_
      refine q_iload_n d193_40 rfl ?_
      refine q_iconst (x := (-1)) d193_41 rfl ?_
      refine q_v2 d193_42 rfl rfl (xk_136 hX) (Nat.le_of_ble_eq_true rfl) (c170 hX (by omega) (fun M2 q1 q2 f2 => ?_))
      have hX2 := SX_fi hX f2
      refine q_aload_n d193_45 rfl ?_
      refine q_getr (c := 8) (f := 11) d193_46 ⟨rfl, rfl⟩ (xk_136 hX2) (xf_states hX2) ?_
      refine q_iload_n d193_49 rfl ?_
      refine q_iconstN (z := 0) d193_50 ?_
      refine n_iast d193_51 (xk_states hX2) (by omega) (by decide) ?_
      refine n_iinc 1 d193_52 (by decide) rfl rfl ?_
      refine q_goto 34 d193_55 (by decide) ?_
      refine qW_srt rfl rfl ?_
      have f3 : Fi (GS i) M1 (zwi M2 175 i (nI 0)) := f2.wi (by unfold GS; omega)
      exact ih (i + 1) _ (by omega) (by omega) (XPu_fi hP f3 (fun b k q1 q2 => by unfold GP at q1; unfold GS at q2; omega)) (hf.trans (f3.mono (fun b k q => by unfold GS at q; unfold FB; omega))) ((f3.1 _ _ (by unfold GS; omega)).trans hc) (fun r hr => by
        by_cases e : r = i
        · subst e
          exact begins_Sa (t := 0) (g := 0) (wi_s _ _ _ _) ((wi_n (by omega)).trans q1.2) (fun a ha k hk => (wi_n (by omega)).trans (q2 a ha k hk))
        · exact (hb r (by omega)).fi f3 (fun b k q1 q2 => by unfold GS at q1 q2; omega))
theorem l193c {d : Nat} {Q : Option Value → zM → Prop} {M0 : zM} {T : Nat → yT} {c n κ : Nat} {L : List yL} (hL : XLg M0 L) (hn : n ≤ L.length) (hlen : L.length ≤ 240) (hv : yva T c L) (hκ : κ + 240 < 2147483648) (k : ∀ M' κ', κ' ≤ κ + 240 → WX M' T c (yre T (L.take n)) κ' → Fi FB M0 M' → Q none M') : ∀ (r i : Nat) (κ1 : Nat) (M1 : zM), i ≤ n → n < i + r →  WX M1 T c (yre T (L.take i)) κ1 → Fi FB M0 M1 → κ1 ≤ κ + i → yZ (yre T (L.take i)) → qW (zEv (d + 4)) 193 Q 60 [(0, .ref 136), (1, .int (nI n)), (2, .int (nI i))] [] M1 := by
  intro r
  induction r with
  | zero => intros; omega
  | succ r ih =>
    intro i κ1 M1 h1 h2 hW hf hk1 hZ
    have hL1 := XLg_fb hL hf
    refine q_iload_n d193_60 rfl ?_
    refine q_iload_n d193_61 rfl ?_
    refine nc_ge 93 d193_62 (by decide) (by omega) (by omega) (fun h62 => ?_) (fun h62 => ?_)
    · refine q_ret d193_93 rfl ?_
      have e : i = n := by omega
      subst e
      exact k _ κ1 (by omega) hW hf
    · have hl := hv i (by omega)
      refine q_aload_n d193_65 rfl ?_
      refine q_aload_n d193_66 rfl ?_
      refine q_getr (c := 8) (f := 26) d193_67 ⟨rfl, rfl⟩ (xk_136 hW.1) (xf_acts hW.1) ?_
      refine q_iload_n d193_70 rfl ?_
      refine n_iald d193_71 (xk_acts hW.1) (by omega) (by decide) (hL1.2 _ (by omega)).1 ?_
      refine q_aload_n d193_72 rfl ?_
      refine q_getr (c := 8) (f := 27) d193_73 ⟨rfl, rfl⟩ (xk_136 hW.1) (xf_whose hW.1) ?_
      refine q_iload_n d193_76 rfl ?_
      refine n_iald d193_77 (xk_whose hW.1) (by omega) (by decide) (hL1.2 _ (by omega)).2.1 ?_
      refine q_aload_n d193_78 rfl ?_
      refine q_getr (c := 8) (f := 28) d193_79 ⟨rfl, rfl⟩ (xk_136 hW.1) (xf_which hW.1) ?_
      refine q_iload_n d193_82 rfl ?_
      refine n_iald d193_83 (xk_which hW.1) (by omega) (by decide) (hL1.2 _ (by omega)).2.2 ?_
      refine q_v3 d193_84 rfl rfl (xk_136 hW.1) (Nat.le_of_ble_eq_true rfl) (c194 hW hZ hl (by omega) (fun M2 κ2 hk2 hW2 f2 => ?_))
      refine n_iinc 1 d193_87 (by decide) rfl rfl ?_
      refine q_goto 60 d193_90 (by decide) ?_
      refine qW_srt rfl rfl ?_
      have e := yre_S (T := T) (L := L) (i := i) (by omega)
      exact ih (i + 1) κ2 _ (by omega) (by omega) (by rw [e]; exact hW2) (hf.trans f2) (by omega) (by rw [e]; exact yag_z hZ hl)
/-- all is as the first lines say -/
theorem c193 {d : Nat} {M : zM} {Q : Option Value → zM → Prop} {T : Nat → yT} {c n κ : Nat} {L : List yL} (hX : SX M) (hT : XTx M T c) (hok : c ≤ 6 ∧ ∀ i, i < c → OKT (T i)) (hL : XLg M L) (hn : n ≤ L.length) (hlen : L.length ≤ 240) (hv : yva T c L) (hc : zi M 136 20 = nI κ) (hκ : κ + 240 < 2147483648) (k : ∀ M' κ', κ' ≤ κ + 240 → WX M' T c (yre T (L.take n)) κ' → Fi FB M M' → Q none M') : qC (d + 5) 193 [.ref 136, .int (nI n)] M Q := by
  refine qC_of (by decide) (Nat.le_of_ble_eq_true rfl) ?_
  refine q_iconstN (z := 0) d193_0 ?_
  refine q_istore_n d193_1 (by decide) rfl ?_
  refine qW_srt rfl rfl ?_
  exact l193a hX (fun M1 hP1 f1 c1 => l193b (κ := κ) (SX_fi hX f1) (fun M2 hP2 f2 c2 hS2 => by
    have f12 := f1.trans f2
    exact l193c (XLg_fb hL f12) hn hlen hv hκ (fun M' κ' q1 q2 q3 => k M' κ' q1 q2 (f12.trans q3)) (n + 1) 0 κ M2 (Nat.zero_le _) (by omega) ⟨SX_fi hX f12, XTx_fi hT hok.1 f12 (fun b k b1 b2 q => by unfold FB at q; omega), ⟨hok, OKP_0, fun _ _ => OKS_0⟩, hP2, hS2, c2.trans (c1.trans hc)⟩ (Fi.refl _ _) (Nat.le_refl _) yZ_0) 4 0 _ (by omega) (by omega) hP1 (Fi.refl _ _) rfl (fun r hr => by omega)) 7 0 _ (by omega) (by omega) (Fi.refl _ _) rfl (fun j hj => by omega)
