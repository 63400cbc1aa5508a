/-! ===== the reference: drawn ===== -/
theorem d203_0 : decode (zB 203) 0 = .ok (.iconst 0, 1) := by decide +kernel
theorem d203_1 : decode (zB 203) 1 = .ok (.istore_n 3, 1) := by decide +kernel
theorem d203_2 : decode (zB 203) 2 = .ok (.iload_n 3, 1) := by decide +kernel
theorem d203_3 : decode (zB 203) 3 = .ok (.bipush 12, 2) := by decide +kernel
theorem d203_5 : decode (zB 203) 5 = .ok (.if_icmp .ge 15, 3) := by decide +kernel
theorem d203_8 : decode (zB 203) 8 = .ok (.aload_n 2, 1) := by decide +kernel
theorem d203_9 : decode (zB 203) 9 = .ok (.iload_n 1, 1) := by decide +kernel
theorem d203_10 : decode (zB 203) 10 = .ok (.aaload, 1) := by decide +kernel
theorem d203_11 : decode (zB 203) 11 = .ok (.iload_n 3, 1) := by decide +kernel
theorem d203_12 : decode (zB 203) 12 = .ok (.iconst 0, 1) := by decide +kernel
theorem d203_13 : decode (zB 203) 13 = .ok (.iastore, 1) := by decide +kernel
theorem d203_14 : decode (zB 203) 14 = .ok (.iinc 3 1, 3) := by decide +kernel
theorem d203_17 : decode (zB 203) 17 = .ok (.goto (-15), 3) := by decide +kernel
theorem d203_20 : decode (zB 203) 20 = .ok (.return_, 1) := by decide +kernel
theorem l203 {d : Nat} {Q : Option Value → zM → Prop} {M0 : zM} {s b : Nat} (hX0 : SX M0) (hs : s < 3) (hb : b = 197 ∨ b = 201) (k : ∀ M', (∀ j, j < 12 → zi M' (b + 1 + s) j = nI 0) → Fi (fun x _ => x = b + 1 + s) M0 M' → Q none M') : ∀ (r i : Nat) (M1 : zM), i ≤ 12 → 12 < i + r →  Fi (fun x _ => x = b + 1 + s) M0 M1 → (∀ j, j < i → zi M1 (b + 1 + s) j = nI 0) → qW (zEv (d + 0)) 203 Q 2 [(3, .int (nI i)), (0, .ref 136), (1, .int (nI s)), (2, .ref b)] [] M1 := by
  intro r
  induction r with
  | zero => intros; omega
  | succ r ih =>
    intro i M1 h1 h2 hF hz
    have hX := SX_fi hX0 hF
    have hbk : zk M1 b = (25, 3) := by rcases hb with rfl | rfl; exact xk_plans hX; exact xk_undoPlans hX
    have hbr : zr M1 b s = some (b + 1 + s) := by rcases hb with rfl | rfl; exact xr_plans hX hs; exact xr_undoPlans hX hs
    have hba : zk M1 (b + 1 + s) = (20, 12) := by rcases hb with rfl | rfl; exact xa_plans hX hs; exact xa_undoPlans hX hs
    refine q_iload_n d203_2 rfl ?_
    refine q_bipush (x := nI 12) d203_3 rfl ?_
    refine nc_ge 20 d203_5 (by decide) (by omega) (by omega) (fun h5 => ?_) (fun h5 => ?_)
    · refine q_ret d203_20 rfl ?_
      exact k _ (fun j hj => hz j (by omega)) hF
    · refine q_aload_n d203_8 rfl ?_
      refine q_iload_n d203_9 rfl ?_
      refine n_aald d203_10 hbk (by decide) (by omega) (by decide) hbr ?_
      refine q_iload_n d203_11 rfl ?_
      refine q_iconstN (z := 0) d203_12 ?_
      refine n_iast d203_13 hba (by omega) (by decide) ?_
      refine n_iinc 1 d203_14 (by decide) rfl rfl ?_
      refine q_goto 2 d203_17 (by decide) ?_
      exact ih (i + 1) _ (by omega) (by omega) (hF.wi rfl) (fun j hj => by by_cases e : j = i; (subst e; exact wi_s _ _ _ _); (rw [wi_n (by omega)]; exact hz j (by omega)))
theorem c203 {d : Nat} {M : zM} {Q : Option Value → zM → Prop} {s b : Nat} (hX : SX M) (hs : s < 3) (hb : b = 197 ∨ b = 201) (k : ∀ M', (∀ j, j < 12 → zi M' (b + 1 + s) j = nI 0) → Fi (fun x _ => x = b + 1 + s) M M' → Q none M') : qC (d + 1) 203 [.ref 136, .int (nI s), .ref b] M Q := by
  refine qC_of (by decide) (Nat.le_of_ble_eq_true rfl) ?_
  refine q_iconstN (z := 0) d203_0 ?_
  refine q_istore_n d203_1 (by decide) rfl ?_
  exact l203 hX hs hb k 13 0 M (by omega) (by omega) (Fi.refl _ _) (fun j hj => by omega)
/-- a saga's plans are others -/
theorem CX.pl {G : List yL} {M M' : zM} {T : Nat → yT} {c s κ : Nat} {nm : Nat → Nat → Int32} {X : yX} {p q : Nat → Int32} (h : CX G M T c nm X κ) (hs : s < 3) (f : Fi (fun b _ => b = 198 + s ∨ b = 202 + s) M M') (hp : ∀ j, j < 12 → zi M' (198 + s) j = p j) (hq : ∀ j, j < 12 → zi M' (202 + s) j = q j) : CX G M' T c nm (yss X s (gqS (gpS (yxs X s) p) q)) κ := by
  obtain ⟨h1, h2, h3, h4, h5, h6, h7, h8⟩ := h
  refine ⟨SX_fi h1 f, XTx_fi h2 h3.1.1 f (fun b k b1 b2 q => by omega), OKW_ss h3 (S := gqS (gpS (yxs X s) p) q) (h3.2.2 s hs), XPu_fi h4 f (fun b k q1 q2 => by unfold GP at q1; omega), fun r hr => ?_, (f.1 _ _ (by omega)).trans h6, h7.fi f (fun b k q => by unfold GL at q; omega), h8.fi (fun k hk => f.1 _ _ (by omega)) (fun r hr hg => ?_)⟩
  · show XSa M' r (yu X.1.2 s (gqS (gpS (yxs X s) p) q) r) κ
    by_cases e : r = s
    · subst e
      rw [yu_s]
      obtain ⟨⟨a1, a2⟩, a3, a4, w, a5, a6⟩ := h5 r hr
      exact ⟨⟨(f.1 _ _ (by omega)).trans a1, (f.1 _ _ (by omega)).trans a2⟩, fun k hk => ⟨(f.1 _ _ (by omega)).trans (a3 k hk).1, (f.1 _ _ (by omega)).trans (a3 k hk).2.1, (f.1 _ _ (by omega)).trans (a3 k hk).2.2.1, hp k hk, hq k hk⟩, fun k hk q => (f.1 _ _ (by omega)).trans (a4 k hk q), w, fun i hi => ⟨(f.1 _ _ (by omega)).trans (a5 i hi).1, (a5 i hi).2⟩, a6⟩
    · rw [yu_n e]
      exact (h5 r hr).fi f (fun b k q1 q2 => by unfold GS at q1; omega)
  · have hg : gt (yu X.1.2 s (gqS (gpS (yxs X s) p) q) r) ≠ 0 := hg
    show gt (X.1.2 r) ≠ 0 ∧ gx (yu X.1.2 s (gqS (gpS (yxs X s) p) q) r) = gx (X.1.2 r)
    by_cases e : r = s
    · subst e; rw [yu_s] at hg ⊢; exact ⟨hg, rfl⟩
    · rw [yu_n e] at hg ⊢; exact ⟨hg, rfl⟩
theorem CX.dr {G : List yL} {M M' : zM} {T : Nat → yT} {c i κ : Nat} {nm : Nat → Nat → Int32} {X : yX} (h : CX G M T c nm (ydp i X) κ) (hi : i < 3) (f : Fi (fun b _ => b = 198 + i ∨ b = 202 + i) M M') (hp : ∀ j, j < 12 → zi M' (198 + i) j = nI 0) (hq : ∀ j, j < 12 → zi M' (202 + i) j = nI 0) : CX G M' T c nm (ydp (i + 1) X) κ := by
  have e : yxs (ydp i X) i = X.1.2 i := if_neg (Nat.lt_irrefl i)
  have h1 := h.pl (p := fun _ => 0) (q := fun _ => 0) hi f hp hq
  rw [e] at h1
  rw [← ydp_S]
  exact h1
theorem CX.zs {G : List yL} {M : zM} {T : Nat → yT} {c s i κ : Nat} {z : Int32} {nm : Nat → Nat → Int32} {X : yX} (h : CX G M T c nm (yzX X s z i) κ) (hs : s < 3) (hi : i < 12) : CX G (zwi M (198 + s) i (yzp (yzs z (i + 1)))) T c nm (yzX X s z (i + 1)) κ := by
  have hsa := h.2.2.2.2.1 s hs
  have e : (yzX X s z i).1.2 s = gpS (yxs X s) (yzq z i) := yu_s _ _ _
  have h1 := h.pl (M' := zwi M (198 + s) i (yzp (yzs z (i + 1)))) (p := yzq z (i + 1)) (q := gq (yxs (yzX X s z i) s)) hs ((Fi.refl _ _).wi (Or.inl rfl)) (fun j hj => by
    rw [← yzq_s]
    have h2 := (hsa.2.1 j hj).2.2.2.1
    rw [e] at h2
    exact wi_or rfl h2) (fun j hj => (wi_n (by omega)).trans (hsa.2.1 j hj).2.2.2.2)
  unfold yzX at h1
  rw [yxs_s, yss_yss] at h1
  exact h1
theorem d202_0 : decode (zB 202) 0 = .ok (.aload_n 0, 1) := by decide +kernel
theorem d202_1 : decode (zB 202) 1 = .ok (.invokevirtual 372, 3) := by decide +kernel
theorem d202_4 : decode (zB 202) 4 = .ok (.iconst 0, 1) := by decide +kernel
theorem d202_5 : decode (zB 202) 5 = .ok (.istore_n 3, 1) := by decide +kernel
theorem d202_6 : decode (zB 202) 6 = .ok (.iload_n 3, 1) := by decide +kernel
theorem d202_7 : decode (zB 202) 7 = .ok (.iconst 3, 1) := by decide +kernel
theorem d202_8 : decode (zB 202) 8 = .ok (.if_icmp .ge 27, 3) := by decide +kernel
theorem d202_11 : decode (zB 202) 11 = .ok (.aload_n 0, 1) := by decide +kernel
theorem d202_12 : decode (zB 202) 12 = .ok (.iload_n 3, 1) := by decide +kernel
theorem d202_13 : decode (zB 202) 13 = .ok (.aload_n 0, 1) := by decide +kernel
theorem d202_14 : decode (zB 202) 14 = .ok (.getfield 57, 3) := by decide +kernel
theorem d202_17 : decode (zB 202) 17 = .ok (.invokevirtual 378, 3) := by decide +kernel
theorem d202_20 : decode (zB 202) 20 = .ok (.aload_n 0, 1) := by decide +kernel
theorem d202_21 : decode (zB 202) 21 = .ok (.iload_n 3, 1) := by decide +kernel
theorem d202_22 : decode (zB 202) 22 = .ok (.aload_n 0, 1) := by decide +kernel
theorem d202_23 : decode (zB 202) 23 = .ok (.getfield 60, 3) := by decide +kernel
theorem d202_26 : decode (zB 202) 26 = .ok (.invokevirtual 378, 3) := by decide +kernel
theorem d202_29 : decode (zB 202) 29 = .ok (.iinc 3 1, 3) := by decide +kernel
theorem d202_32 : decode (zB 202) 32 = .ok (.goto (-26), 3) := by decide +kernel
theorem d202_35 : decode (zB 202) 35 = .ok (.iload_n 2, 1) := by decide +kernel
theorem d202_36 : decode (zB 202) 36 = .ok (.istore_n 3, 1) := by decide +kernel
theorem d202_37 : decode (zB 202) 37 = .ok (.iconst 0, 1) := by decide +kernel
theorem d202_38 : decode (zB 202) 38 = .ok (.istore 4, 2) := by decide +kernel
theorem d202_40 : decode (zB 202) 40 = .ok (.iload 4, 2) := by decide +kernel
theorem d202_42 : decode (zB 202) 42 = .ok (.aload_n 0, 1) := by decide +kernel
theorem d202_43 : decode (zB 202) 43 = .ok (.getfield 9, 3) := by decide +kernel
theorem d202_46 : decode (zB 202) 46 = .ok (.aload_n 0, 1) := by decide +kernel
theorem d202_47 : decode (zB 202) 47 = .ok (.getfield 39, 3) := by decide +kernel
theorem d202_50 : decode (zB 202) 50 = .ok (.iload_n 1, 1) := by decide +kernel
theorem d202_51 : decode (zB 202) 51 = .ok (.iaload, 1) := by decide +kernel
theorem d202_52 : decode (zB 202) 52 = .ok (.iaload, 1) := by decide +kernel
theorem d202_53 : decode (zB 202) 53 = .ok (.if_icmp .ge 42, 3) := by decide +kernel
theorem d202_56 : decode (zB 202) 56 = .ok (.iload_n 3, 1) := by decide +kernel
theorem d202_57 : decode (zB 202) 57 = .ok (.ldc_w 382, 3) := by decide +kernel
theorem d202_60 : decode (zB 202) 60 = .ok (.imul, 1) := by decide +kernel
theorem d202_61 : decode (zB 202) 61 = .ok (.sipush 12345, 3) := by decide +kernel
theorem d202_64 : decode (zB 202) 64 = .ok (.iadd, 1) := by decide +kernel
theorem d202_65 : decode (zB 202) 65 = .ok (.istore_n 3, 1) := by decide +kernel
theorem d202_66 : decode (zB 202) 66 = .ok (.aload_n 0, 1) := by decide +kernel
theorem d202_67 : decode (zB 202) 67 = .ok (.getfield 57, 3) := by decide +kernel
theorem d202_70 : decode (zB 202) 70 = .ok (.iload_n 1, 1) := by decide +kernel
theorem d202_71 : decode (zB 202) 71 = .ok (.aaload, 1) := by decide +kernel
theorem d202_72 : decode (zB 202) 72 = .ok (.iload 4, 2) := by decide +kernel
theorem d202_74 : decode (zB 202) 74 = .ok (.iload_n 3, 1) := by decide +kernel
theorem d202_75 : decode (zB 202) 75 = .ok (.bipush 9, 2) := by decide +kernel
theorem d202_77 : decode (zB 202) 77 = .ok (.iushr, 1) := by decide +kernel
theorem d202_78 : decode (zB 202) 78 = .ok (.iconst 4, 1) := by decide +kernel
theorem d202_79 : decode (zB 202) 79 = .ok (.irem, 1) := by decide +kernel
theorem d202_80 : decode (zB 202) 80 = .ok (.ifCond .ne 7, 3) := by decide +kernel
theorem d202_83 : decode (zB 202) 83 = .ok (.iconst 1, 1) := by decide +kernel
theorem d202_84 : decode (zB 202) 84 = .ok (.goto 4, 3) := by decide +kernel
theorem d202_87 : decode (zB 202) 87 = .ok (.iconst 0, 1) := by decide +kernel
theorem d202_88 : decode (zB 202) 88 = .ok (.iastore, 1) := by decide +kernel
theorem d202_89 : decode (zB 202) 89 = .ok (.iinc 4 1, 3) := by decide +kernel
theorem d202_92 : decode (zB 202) 92 = .ok (.goto (-52), 3) := by decide +kernel
theorem d202_95 : decode (zB 202) 95 = .ok (.iconst 0, 1) := by decide +kernel
theorem d202_96 : decode (zB 202) 96 = .ok (.istore 4, 2) := by decide +kernel
theorem d202_98 : decode (zB 202) 98 = .ok (.iload 4, 2) := by decide +kernel
theorem d202_100 : decode (zB 202) 100 = .ok (.bipush 40, 2) := by decide +kernel
theorem d202_102 : decode (zB 202) 102 = .ok (.if_icmp .ge 13, 3) := by decide +kernel
theorem d202_105 : decode (zB 202) 105 = .ok (.aload_n 0, 1) := by decide +kernel
theorem d202_106 : decode (zB 202) 106 = .ok (.invokevirtual 354, 3) := by decide +kernel
theorem d202_109 : decode (zB 202) 109 = .ok (.iinc 4 1, 3) := by decide +kernel
theorem d202_112 : decode (zB 202) 112 = .ok (.goto (-14), 3) := by decide +kernel
theorem d202_115 : decode (zB 202) 115 = .ok (.aload_n 0, 1) := by decide +kernel
theorem d202_116 : decode (zB 202) 116 = .ok (.getfield 36, 3) := by decide +kernel
theorem d202_119 : decode (zB 202) 119 = .ok (.iload_n 1, 1) := by decide +kernel
theorem d202_120 : decode (zB 202) 120 = .ok (.iaload, 1) := by decide +kernel
theorem d202_121 : decode (zB 202) 121 = .ok (.istore 4, 2) := by decide +kernel
theorem d202_123 : decode (zB 202) 123 = .ok (.aload_n 0, 1) := by decide +kernel
theorem d202_124 : decode (zB 202) 124 = .ok (.invokevirtual 375, 3) := by decide +kernel
theorem d202_127 : decode (zB 202) 127 = .ok (.iload 4, 2) := by decide +kernel
theorem d202_129 : decode (zB 202) 129 = .ok (.ireturn, 1) := by decide +kernel
theorem l202c {d : Nat} {Q : Option Value → zM → Prop} {D : yD} {M0 : zM} {s κ : Nat} {z v : Int32} {XF : yX} (hR : RX M0 D κ) (hκ : κ + 4000 < 2147483648) (hs : s < 3) (k : gt (yxs XF s) ≤ 5 → ∀ M', RX M' D κ → Fi FY M0 M' → Q (some (.int (nI (gt (yxs XF s))))) M') : ∀ (r i : Nat) (κ1 : Nat) (M1 : zM) (X1 : yX), i ≤ 40 → 40 < i + r →  CX (dL D) M1 (dT D) (dc D) (dnm D) X1 κ1 → zi M1 136 25 = nI 1 → zi M1 136 21 = -1 → KA M0 M1 0 → Fi FZ M0 M1 → κ1 ≤ κ + 36 * i → ytn (dT D) (dnm D) (40 - i) X1 = XF → qW (zEv (d + 6)) 202 Q 98 [(4, .int (nI i)), (3, .int v), (0, .ref 136), (1, .int (nI s)), (2, .int z)] [] M1 := by
  intro r
  induction r with
  | zero => intros; omega
  | succ r ih =>
    intro i κ1 M1 X1 h1 h2 hC1 h25 h21 hK hF hk1 hy
    refine q_iload d202_98 rfl ?_
    refine q_bipush (x := nI 40) d202_100 rfl ?_
    refine nc_ge 115 d202_102 (by decide) (by omega) (by omega) (fun h102 => ?_) (fun h102 => ?_)
    · refine q_aload_n d202_115 rfl ?_
      refine q_getr (c := 8) (f := 11) d202_116 ⟨rfl, rfl⟩ (xk_136 hC1.1) (xf_states hC1.1) ?_
      refine q_iload_n d202_119 rfl ?_
      refine n_iald d202_120 (xk_states hC1.1) (by omega) (by decide) (hC1.2.2.2.2.1 _ (by omega)).1.1 ?_
      refine q_istore d202_121 (by decide) rfl ?_
      refine q_aload_n d202_123 rfl ?_
      refine q_v0 d202_124 rfl rfl (xk_136 hC1.1) (Nat.le_of_ble_eq_true rfl) (c199 hC1.1 hK (fun M2 hK2 q25 f2 => ?_))
      refine q_iload d202_127 rfl ?_
      refine q_iret d202_129 rfl ?_
      have e : X1 = XF := by rw [show 40 - i = 0 by omega] at hy; exact hy
      subst e
      have hLo : XLo (dL D) M1 X1.2 := hC1.2.2.2.2.2.2.1
      rw [hC1.l0 h25] at hLo
      have hw := hR.wake hF h21 hLo.2 hK2 q25 f2
      exact k (hC1.2.2.1.2.2 s hs).1 _ hw.1 hw.2
    · refine q_aload_n d202_105 rfl ?_
      refine q_v0 d202_106 rfl rfl (xk_136 hC1.1) (Nat.le_of_ble_eq_true rfl) (c175 hC1 (by rw [hC1.l0 h25]; show 0 + 39 ≤ 240; omega) (by omega) (fun M2 κ2 hk2 hC2 f2 => ?_))
      refine n_iinc 1 d202_109 (by decide) rfl rfl ?_
      refine q_goto 98 d202_112 (by decide) ?_
      exact ih (i + 1) κ2 _ _ (by omega) (by omega) hC2 ((f2.1 _ _ (by unfold FX; omega)).trans h25) ((f2.1 _ _ (by unfold FX; omega)).trans h21) (hK.fi f2 (fun b k q1 q2 => by unfold FA at q1; unfold FX at q2; omega)) (hF.trans (f2.mono (fun b k q => FX_Z q))) (by omega) (by rw [show 40 - i = (40 - (i + 1)) + 1 by omega, ytn] at hy; exact hy)
theorem l202b {d : Nat} {Q : Option Value → zM → Prop} {D : yD} {M0 : zM} {s κ : Nat} {z : Int32} (hR : RX M0 D κ) (hκ : κ + 4000 < 2147483648) (hs : s < 3) (h0 : gt (dS D s) ≠ 0) (k : gt (yxs (ytn (dT D) (dnm D) 40 (yzX (ydp 3 (dW D, none)) s z (tn (dT D (gx (dS D s)))))) s) ≤ 5 → ∀ M', RX M' D κ → Fi FY M0 M' → Q (some (.int (nI (gt (yxs (ytn (dT D) (dnm D) 40 (yzX (ydp 3 (dW D, none)) s z (tn (dT D (gx (dS D s)))))) s))))) M') : ∀ (r i : Nat) (κ1 : Nat) (M1 : zM), i ≤ tn (dT D (gx (dS D s))) → tn (dT D (gx (dS D s))) < i + r →  CX (dL D) M1 (dT D) (dc D) (dnm D) (yzX (ydp 3 (dW D, none)) s z i) κ1 → zi M1 136 25 = nI 1 → zi M1 136 21 = -1 → KA M0 M1 0 → Fi FZ M0 M1 → κ1 ≤ κ → qW (zEv (d + 6)) 202 Q 40 [(4, .int (nI i)), (3, .int (yzs z i)), (0, .ref 136), (1, .int (nI s)), (2, .int z)] [] M1 := by
  intro r
  induction r with
  | zero => intros; omega
  | succ r ih =>
    intro i κ1 M1 h1 h2 hC1 h25 h21 hK hF hk1
    have hO : OKW (dT D) (dc D) (dW D) := hR.1.2.2.1
    have hgx : gx (dS D s) < dc D := (hO.2.2 s hs).2.1 h0
    have hn := (hO.1.2 _ hgx).n
    have hc6 := hO.1.1
    have e1 : (yzX (ydp 3 (dW D, none)) s z i).1.2 s = gpS (ydr (dS D s)) (yzq z i) := by
      have q : (yzX (ydp 3 (dW D, none)) s z i).1.2 s = gpS (yxs (ydp 3 (dW D, none)) s) (yzq z i) := yu_s _ _ _
      rw [q]
      show gpS (if s < 3 then ydr ((dW D).2 s) else (dW D).2 s) (yzq z i) = _
      rw [if_pos hs]; rfl
    have hx1 : zi M1 176 s = nI (gx (dS D s)) := by
      have q := (hC1.2.2.2.2.1 s hs).1.2
      rw [e1] at q
      exact q.trans (if_neg h0)
    refine q_iload d202_40 rfl ?_
    refine q_aload_n d202_42 rfl ?_
    refine q_getr (c := 8) (f := 1) d202_43 ⟨rfl, rfl⟩ (xk_136 hC1.1) (xf_stepMany hC1.1) ?_
    refine q_aload_n d202_46 rfl ?_
    refine q_getr (c := 8) (f := 12) d202_47 ⟨rfl, rfl⟩ (xk_136 hC1.1) (xf_textOf hC1.1) ?_
    refine q_iload_n d202_50 rfl ?_
    refine n_iald d202_51 (xk_textOf hC1.1) (by omega) (by decide) hx1 ?_
    refine n_iald d202_52 (xk_stepMany hC1.1) (by omega) (by decide) (hC1.2.1 _ hgx).1 ?_
    refine nc_ge 95 d202_53 (by decide) (by omega) (by omega) (fun h53 => ?_) (fun h53 => ?_)
    · refine q_iconstN (z := 0) d202_95 ?_
      refine q_istore d202_96 (by decide) rfl ?_
      have ei : i = tn (dT D (gx (dS D s))) := by omega
      subst ei
      exact l202c hR hκ hs k 41 0 κ1 M1 _ (by omega) (by omega) hC1 h25 h21 hK hF (by omega) rfl
    · refine q_iload_n d202_56 rfl ?_
      refine q_ldc_w d202_57 rfl ?_
      refine q_imul d202_60 ?_
      refine q_sipush (x := nI 12345) d202_61 rfl ?_
      refine q_iadd d202_64 ?_
      refine q_istore_n d202_65 (by decide) rfl ?_
      refine q_aload_n d202_66 rfl ?_
      refine q_getr (c := 8) (f := 18) d202_67 ⟨rfl, rfl⟩ (xk_136 hC1.1) (xf_plans hC1.1) ?_
      refine q_iload_n d202_70 rfl ?_
      refine n_aald d202_71 (xk_plans hC1.1) (by decide) (by omega) (by decide) (xr_plans hC1.1 (by omega)) ?_
      refine q_iload d202_72 rfl ?_
      refine q_iload_n d202_74 rfl ?_
      refine q_bipush (x := nI 9) d202_75 rfl ?_
      refine q_iushr d202_77 ?_
      refine q_iconst (x := (4)) d202_78 rfl ?_
      refine q_irem d202_79 (by decide) ?_
      refine i0_ne 87 d202_80 (by decide) (fun h80 => ?_) (fun h80 => ?_)
      · refine q_iconstN (z := 0) d202_87 ?_
        refine n_iast d202_88 (xa_plans hC1.1 (by omega)) (by omega) (by decide) ?_
        refine n_iinc 1 d202_89 (by decide) rfl rfl ?_
        refine q_goto 40 d202_92 (by decide) ?_
        have h := CX.zs (z := z) hC1 hs (by omega)
        rw [show yzp (yzs z (i + 1)) = nI 0 from if_neg h80] at h
        have f2 : Fi (fun b _ => b = 198 + s) M1 (zwi M1 (198 + s) i (nI 0)) := (Fi.refl _ _).wi rfl
        exact ih (i + 1) κ1 _ (by omega) (by omega) h ((f2.1 _ _ (by omega)).trans h25) ((f2.1 _ _ (by omega)).trans h21) (hK.fi f2 (fun b k q1 q2 => by unfold FA at q1; omega)) (hF.trans (f2.mono (fun b k q => by unfold FZ; omega))) hk1
      · refine q_iconstN (z := 1) d202_83 ?_
        refine q_goto 88 d202_84 (by decide) ?_
        refine n_iast d202_88 (xa_plans hC1.1 (by omega)) (by omega) (by decide) ?_
        refine n_iinc 1 d202_89 (by decide) rfl rfl ?_
        refine q_goto 40 d202_92 (by decide) ?_
        have h := CX.zs (z := z) hC1 hs (by omega)
        rw [show yzp (yzs z (i + 1)) = nI 1 from if_pos h80] at h
        have f2 : Fi (fun b _ => b = 198 + s) M1 (zwi M1 (198 + s) i (nI 1)) := (Fi.refl _ _).wi rfl
        exact ih (i + 1) κ1 _ (by omega) (by omega) h ((f2.1 _ _ (by omega)).trans h25) ((f2.1 _ _ (by omega)).trans h21) (hK.fi f2 (fun b k q1 q2 => by unfold FA at q1; omega)) (hF.trans (f2.mono (fun b k q => by unfold FZ; omega))) hk1
theorem l202a {d : Nat} {Q : Option Value → zM → Prop} {D : yD} {M0 : zM} {s κ : Nat} {z : Int32} (hR : RX M0 D κ) (hκ : κ + 4000 < 2147483648) (hs : s < 3) (h0 : gt (dS D s) ≠ 0) (k : gt (yxs (ytn (dT D) (dnm D) 40 (yzX (ydp 3 (dW D, none)) s z (tn (dT D (gx (dS D s)))))) s) ≤ 5 → ∀ M', RX M' D κ → Fi FY M0 M' → Q (some (.int (nI (gt (yxs (ytn (dT D) (dnm D) 40 (yzX (ydp 3 (dW D, none)) s z (tn (dT D (gx (dS D s)))))) s))))) M') : ∀ (r i : Nat) (κ1 : Nat) (M1 : zM), i ≤ 3 → 3 < i + r →  CX (dL D) M1 (dT D) (dc D) (dnm D) (ydp i (dW D, none)) κ1 → zi M1 136 25 = nI 1 → zi M1 136 21 = -1 → KA M0 M1 0 → Fi FZ M0 M1 → κ1 ≤ κ → qW (zEv (d + 6)) 202 Q 6 [(3, .int (nI i)), (0, .ref 136), (1, .int (nI s)), (2, .int z)] [] M1 := by
  intro r
  induction r with
  | zero => intros; omega
  | succ r ih =>
    intro i κ1 M1 h1 h2 hC1 h25 h21 hK hF hk1
    refine q_iload_n d202_6 rfl ?_
    refine q_iconstN (z := 3) d202_7 ?_
    refine nc_ge 35 d202_8 (by decide) (by omega) (by omega) (fun h8 => ?_) (fun h8 => ?_)
    · refine q_iload_n d202_35 rfl ?_
      refine q_istore_n d202_36 (by decide) rfl ?_
      refine q_iconstN (z := 0) d202_37 ?_
      refine q_istore d202_38 (by decide) rfl ?_
      have ei : i = 3 := by omega
      subst ei
      have e0 : yzX (ydp 3 (dW D, none)) s z 0 = ydp 3 (dW D, none) := by
        have e1 : gpS (yxs (ydp 3 (dW D, none)) s) (yzq z 0) = yxs (ydp 3 (dW D, none)) s := by
          show gpS (if s < 3 then ydr ((dW D).2 s) else (dW D).2 s) (fun _ => 0) = (if s < 3 then ydr ((dW D).2 s) else (dW D).2 s)
          rw [if_pos hs]; rfl
        unfold yzX
        rw [e1, yss_id]
      rw [← e0] at hC1
      exact l202b hR hκ hs h0 k (tn (dT D (gx (dS D s))) + 1) 0 κ1 M1 (Nat.zero_le _) (by omega) hC1 h25 h21 hK hF hk1
    · refine q_aload_n d202_11 rfl ?_
      refine q_iload_n d202_12 rfl ?_
      refine q_aload_n d202_13 rfl ?_
      refine q_getr (c := 8) (f := 18) d202_14 ⟨rfl, rfl⟩ (xk_136 hC1.1) (xf_plans hC1.1) ?_
      refine q_v2 d202_17 rfl rfl (xk_136 hC1.1) (Nat.le_of_ble_eq_true rfl) (c203 (b := 197) hC1.1 (by omega) (Or.inl rfl) (fun M2 z2 f2 => ?_))
      have hX2 := SX_fi hC1.1 f2
      refine q_aload_n d202_20 rfl ?_
      refine q_iload_n d202_21 rfl ?_
      refine q_aload_n d202_22 rfl ?_
      refine q_getr (c := 8) (f := 19) d202_23 ⟨rfl, rfl⟩ (xk_136 hX2) (xf_undoPlans hX2) ?_
      refine q_v2 d202_26 rfl rfl (xk_136 hX2) (Nat.le_of_ble_eq_true rfl) (c203 (b := 201) hX2 (by omega) (Or.inr rfl) (fun M3 z3 f3 => ?_))
      refine n_iinc 1 d202_29 (by decide) rfl rfl ?_
      refine q_goto 6 d202_32 (by decide) ?_
      have f : Fi (fun b _ => b = 198 + i ∨ b = 202 + i) M1 M3 := (f2.mono (fun b k q => by omega)).trans (f3.mono (fun b k q => by omega))
      exact ih (i + 1) κ1 _ (by omega) (by omega) (hC1.dr (by omega) f (fun j hj => (f3.1 _ _ (by omega)).trans (z2 j hj)) z3) ((f.1 _ _ (by omega)).trans h25) ((f.1 _ _ (by omega)).trans h21) (hK.fi f (fun b k q1 q2 => by unfold FA at q1; omega)) (hF.trans (f.mono (fun b k q => by unfold FZ; omega))) hk1
/-- a saga by a seed's lot -/
theorem c202 {d : Nat} {M : zM} {Q : Option Value → zM → Prop} {D : yD} {s κ : Nat} {z : Int32} (hR : RX M D κ) (hκ : κ + 4000 < 2147483648) (hs : s < 3) (h0 : gt (dS D s) ≠ 0) (k : ydn D s z ≤ 5 → ∀ M', RX M' D κ → Fi FY M M' → Q (some (.int (nI (ydn D s z)))) M') : qC (d + 7) 202 [.ref 136, .int (nI s), .int z] M Q := by
  refine qC_of (by decide) (Nat.le_of_ble_eq_true rfl) ?_
  refine q_aload_n d202_0 rfl ?_
  refine q_v0 d202_1 rfl rfl (xk_136 hR.1.1) (Nat.le_of_ble_eq_true rfl) (c198 hR (fun M1 hC1 q25 q21 hK f1 => ?_))
  refine q_iconstN (z := 0) d202_4 ?_
  refine q_istore_n d202_5 (by decide) rfl ?_
  exact l202a (z := z) hR hκ hs h0 k 4 0 κ M1 (by omega) (by omega) hC1 q25 q21 hK f1 (Nat.le_refl _)
theorem d201_0 : decode (zB 201) 0 = .ok (.iload_n 1, 1) := by decide +kernel
theorem d201_1 : decode (zB 201) 1 = .ok (.invokestatic 345, 3) := by decide +kernel
theorem d201_4 : decode (zB 201) 4 = .ok (.ifCond .ne 6, 3) := by decide +kernel
theorem d201_7 : decode (zB 201) 7 = .ok (.bipush (-2), 2) := by decide +kernel
theorem d201_9 : decode (zB 201) 9 = .ok (.ireturn, 1) := by decide +kernel
theorem d201_10 : decode (zB 201) 10 = .ok (.aload_n 0, 1) := by decide +kernel
theorem d201_11 : decode (zB 201) 11 = .ok (.getfield 36, 3) := by decide +kernel
theorem d201_14 : decode (zB 201) 14 = .ok (.iload_n 1, 1) := by decide +kernel
theorem d201_15 : decode (zB 201) 15 = .ok (.iaload, 1) := by decide +kernel
theorem d201_16 : decode (zB 201) 16 = .ok (.ifCond .ne 8, 3) := by decide +kernel
theorem d201_19 : decode (zB 201) 19 = .ok (.bipush (-3), 2) := by decide +kernel
theorem d201_21 : decode (zB 201) 21 = .ok (.goto 9, 3) := by decide +kernel
theorem d201_24 : decode (zB 201) 24 = .ok (.aload_n 0, 1) := by decide +kernel
theorem d201_25 : decode (zB 201) 25 = .ok (.iload_n 1, 1) := by decide +kernel
theorem d201_26 : decode (zB 201) 26 = .ok (.iload_n 2, 1) := by decide +kernel
theorem d201_27 : decode (zB 201) 27 = .ok (.invokevirtual 383, 3) := by decide +kernel
theorem d201_30 : decode (zB 201) 30 = .ok (.ireturn, 1) := by decide +kernel
theorem x201 {d : Nat} {M : zM} {Q : Option Value → zM → Prop} {D : yD} {κ : Nat} {x y : Int32} (hR : RX M D κ) (hD : OKD D) (hκ : κ + 4000 < 2147483648) (k : ∀ M', RX M' D κ → Fi FY M M' → Q (some (.int (sDrawn D x y))) M') : qC (d + 8) 201 [.ref 136, .int x, .int y] M Q := by
  refine qC_of (by decide) (Nat.le_of_ble_eq_true rfl) ?_
  have hC := hR.1
  have hX := hC.1
  have hO : OKW (dT D) (dc D) (dW D) := hC.2.2.1
  have hc6 := hO.1.1
  have hL : XLo [] M (some (dL D)) := hC.2.2.2.2.2.2.1
  have hSa : ∀ s, s < 3 → XSa M s (dS D s) κ := hC.2.2.2.2.1
  have hTk := hC.k
  have hck := hC.2.2.2.2.2.1
  have h240 := hD.2.1
  unfold sDrawn at k
  rcases zix_c x (n := 3) (by omega) with ⟨s, hs, rfl, es⟩ | ⟨es, ns⟩
  · rw [oz_s es] at k
    have hOs : OKS (dT D) (dc D) (dS D s) := hO.2.2 s hs
    have hg5 := hOs.1
    have hsa := hSa s hs
    by_cases h0 : gt (dS D s) = 0
    · rw [if_pos h0] at k
      refine q_iload_n d201_0 rfl ?_
      refine q_s1 d201_1 (Or.inl rfl) rfl (Nat.le_of_ble_eq_true rfl) (c169t (by omega) ?_)
      refine n0_ne 10 d201_4 (by decide) (by decide) (fun _ => ?_) (fun q => absurd q (by decide))
      refine q_aload_n d201_10 rfl ?_
      refine q_getr (c := 8) (f := 11) d201_11 ⟨rfl, rfl⟩ (xk_136 hX) (xf_states hX) ?_
      refine q_iload_n d201_14 rfl ?_
      refine n_iald d201_15 (xk_states hX) (by omega) (by decide) (hSa _ (by omega)).1.1 ?_
      refine n0_ne 24 d201_16 (by decide) (by omega) (fun h16 => (False.elim (h16 h0))) (fun h16 => ?_)
      refine q_bipush (x := (-3)) d201_19 rfl ?_
      refine q_goto 30 d201_21 (by decide) ?_
      refine q_iret d201_30 rfl ?_
      exact k _ hR (Fi.refl _ _)
    · rw [if_neg h0] at k
      refine q_iload_n d201_0 rfl ?_
      refine q_s1 d201_1 (Or.inl rfl) rfl (Nat.le_of_ble_eq_true rfl) (c169t (by omega) ?_)
      refine n0_ne 10 d201_4 (by decide) (by decide) (fun _ => ?_) (fun q => absurd q (by decide))
      refine q_aload_n d201_10 rfl ?_
      refine q_getr (c := 8) (f := 11) d201_11 ⟨rfl, rfl⟩ (xk_136 hX) (xf_states hX) ?_
      refine q_iload_n d201_14 rfl ?_
      refine n_iald d201_15 (xk_states hX) (by omega) (by decide) (hSa _ (by omega)).1.1 ?_
      refine n0_ne 24 d201_16 (by decide) (by omega) (fun h16 => ?_) (fun h16 => (False.elim (h0 h16)))
      refine q_aload_n d201_24 rfl ?_
      refine q_iload_n d201_25 rfl ?_
      refine q_iload_n d201_26 rfl ?_
      refine q_v2 d201_27 rfl rfl (xk_136 hX) (Nat.le_of_ble_eq_true rfl) (c202 hR hκ hs h0 (fun hy5 M1 hR1 g1 => ?_))
      refine q_iret d201_30 rfl ?_
      exact k _ hR1 g1
  · rw [oz_n es] at k
    refine q_iload_n d201_0 rfl ?_
    refine q_s1 d201_1 (Or.inl rfl) rfl (Nat.le_of_ble_eq_true rfl) (c169f es ?_)
    refine n0_ne 10 d201_4 (by decide) (by decide) (fun q => absurd q (by decide)) (fun _ => ?_)
    refine q_bipush (x := (-2)) d201_7 rfl ?_
    refine q_iret d201_9 rfl ?_
    exact k _ hR (Fi.refl _ _)
