/-! ===== the reference: an undoing ===== -/
section RG
variable {G : List yL}
theorem CX.over {d : Nat} {M : zM} {Q : Option Value → zM → Prop} {T : Nat → yT} {c s v κ : Nat} {nm : Nat → Nat → Int32} {X : yX} (hC : CX G M T c nm X κ) (hs : s < 3) (h0 : gt (yxs X s) ≠ 0) (hv : v ≠ 0) (hv5 : v ≤ 5) (hl : yln X.2 + 1 ≤ 240) (k : ∀ M', CX G M' T c nm (yen X s v) κ → Fi FX M M' → Q none M') : qC (d + 2) 181 [.ref 136, .int (nI s), .int (nI v)] M Q := by
  refine c181 hC.1 hs (hC.2.2.2.2.1 s hs) h0 hv hC.2.2.2.2.2.2.1 hl (fun M1 h1 h2 f1 => ?_)
  have f2 : Fi (F2 s) M M1 := f1.mono (fun b k q => by unfold F2; rcases q with q | q; exact Or.inr (Or.inr (Or.inr (Or.inl q))); exact Or.inr (Or.inl q))
  exact k _ (hC.sg hs f2 (XPu_fi hC.2.2.2.1 f1 (fun b k q1 q2 => by unfold GP at q1; unfold GL at q2; omega)) (by rw [yA2]; exact h1) (Nat.le_refl _) ((f1.1 _ _ (by unfold GL; omega)).trans hC.2.2.2.2.2.1) h2 (fun r hr => yA2n hr) (yen_ok hC.2.2.1 hs h0 hv hv5) (by rw [yA2]; rfl) h0) (f2.mono (fun b k q => F2_X hs q))
theorem d177_0 : decode (zB 177) 0 = .ok (.aload_n 0, 1) := by decide +kernel
theorem d177_1 : decode (zB 177) 1 = .ok (.iload_n 1, 1) := by decide +kernel
theorem d177_2 : decode (zB 177) 2 = .ok (.invokevirtual 327, 3) := by decide +kernel
theorem d177_5 : decode (zB 177) 5 = .ok (.istore_n 2, 1) := by decide +kernel
theorem d177_6 : decode (zB 177) 6 = .ok (.iload_n 2, 1) := by decide +kernel
theorem d177_7 : decode (zB 177) 7 = .ok (.iconst (-1), 1) := by decide +kernel
theorem d177_8 : decode (zB 177) 8 = .ok (.if_icmp .eq 96, 3) := by decide +kernel
theorem d177_11 : decode (zB 177) 11 = .ok (.aload_n 0, 1) := by decide +kernel
theorem d177_12 : decode (zB 177) 12 = .ok (.getfield 60, 3) := by decide +kernel
theorem d177_15 : decode (zB 177) 15 = .ok (.iload_n 1, 1) := by decide +kernel
theorem d177_16 : decode (zB 177) 16 = .ok (.aaload, 1) := by decide +kernel
theorem d177_17 : decode (zB 177) 17 = .ok (.iload_n 2, 1) := by decide +kernel
theorem d177_18 : decode (zB 177) 18 = .ok (.iaload, 1) := by decide +kernel
theorem d177_19 : decode (zB 177) 19 = .ok (.ifCond .le 20, 3) := by decide +kernel
theorem d177_22 : decode (zB 177) 22 = .ok (.aload_n 0, 1) := by decide +kernel
theorem d177_23 : decode (zB 177) 23 = .ok (.getfield 60, 3) := by decide +kernel
theorem d177_26 : decode (zB 177) 26 = .ok (.iload_n 1, 1) := by decide +kernel
theorem d177_27 : decode (zB 177) 27 = .ok (.aaload, 1) := by decide +kernel
theorem d177_28 : decode (zB 177) 28 = .ok (.iload_n 2, 1) := by decide +kernel
theorem d177_29 : decode (zB 177) 29 = .ok (.dup2, 1) := by decide +kernel
theorem d177_30 : decode (zB 177) 30 = .ok (.iaload, 1) := by decide +kernel
theorem d177_31 : decode (zB 177) 31 = .ok (.iconst 1, 1) := by decide +kernel
theorem d177_32 : decode (zB 177) 32 = .ok (.isub, 1) := by decide +kernel
theorem d177_33 : decode (zB 177) 33 = .ok (.iastore, 1) := by decide +kernel
theorem d177_34 : decode (zB 177) 34 = .ok (.iconst 1, 1) := by decide +kernel
theorem d177_35 : decode (zB 177) 35 = .ok (.istore_n 3, 1) := by decide +kernel
theorem d177_36 : decode (zB 177) 36 = .ok (.goto 23, 3) := by decide +kernel
theorem d177_39 : decode (zB 177) 39 = .ok (.aload_n 0, 1) := by decide +kernel
theorem d177_40 : decode (zB 177) 40 = .ok (.aload_n 0, 1) := by decide +kernel
theorem d177_41 : decode (zB 177) 41 = .ok (.getfield 39, 3) := by decide +kernel
theorem d177_44 : decode (zB 177) 44 = .ok (.iload_n 1, 1) := by decide +kernel
theorem d177_45 : decode (zB 177) 45 = .ok (.iaload, 1) := by decide +kernel
theorem d177_46 : decode (zB 177) 46 = .ok (.iload_n 2, 1) := by decide +kernel
theorem d177_47 : decode (zB 177) 47 = .ok (.aload_n 0, 1) := by decide +kernel
theorem d177_48 : decode (zB 177) 48 = .ok (.getfield 48, 3) := by decide +kernel
theorem d177_51 : decode (zB 177) 51 = .ok (.iload_n 1, 1) := by decide +kernel
theorem d177_52 : decode (zB 177) 52 = .ok (.aaload, 1) := by decide +kernel
theorem d177_53 : decode (zB 177) 53 = .ok (.iload_n 2, 1) := by decide +kernel
theorem d177_54 : decode (zB 177) 54 = .ok (.iaload, 1) := by decide +kernel
theorem d177_55 : decode (zB 177) 55 = .ok (.invokevirtual 330, 3) := by decide +kernel
theorem d177_58 : decode (zB 177) 58 = .ok (.istore_n 3, 1) := by decide +kernel
theorem d177_59 : decode (zB 177) 59 = .ok (.iload_n 3, 1) := by decide +kernel
theorem d177_60 : decode (zB 177) 60 = .ok (.ifCond .eq 12, 3) := by decide +kernel
theorem d177_63 : decode (zB 177) 63 = .ok (.aload_n 0, 1) := by decide +kernel
theorem d177_64 : decode (zB 177) 64 = .ok (.getfield 54, 3) := by decide +kernel
theorem d177_67 : decode (zB 177) 67 = .ok (.iload_n 1, 1) := by decide +kernel
theorem d177_68 : decode (zB 177) 68 = .ok (.aaload, 1) := by decide +kernel
theorem d177_69 : decode (zB 177) 69 = .ok (.iload_n 2, 1) := by decide +kernel
theorem d177_70 : decode (zB 177) 70 = .ok (.iload_n 3, 1) := by decide +kernel
theorem d177_71 : decode (zB 177) 71 = .ok (.iastore, 1) := by decide +kernel
theorem d177_72 : decode (zB 177) 72 = .ok (.aload_n 0, 1) := by decide +kernel
theorem d177_73 : decode (zB 177) 73 = .ok (.getfield 42, 3) := by decide +kernel
theorem d177_76 : decode (zB 177) 76 = .ok (.iload_n 1, 1) := by decide +kernel
theorem d177_77 : decode (zB 177) 77 = .ok (.aaload, 1) := by decide +kernel
theorem d177_78 : decode (zB 177) 78 = .ok (.iload_n 2, 1) := by decide +kernel
theorem d177_79 : decode (zB 177) 79 = .ok (.iload_n 3, 1) := by decide +kernel
theorem d177_80 : decode (zB 177) 80 = .ok (.ifCond .ne 7, 3) := by decide +kernel
theorem d177_83 : decode (zB 177) 83 = .ok (.iconst 2, 1) := by decide +kernel
theorem d177_84 : decode (zB 177) 84 = .ok (.goto 4, 3) := by decide +kernel
theorem d177_87 : decode (zB 177) 87 = .ok (.iconst 3, 1) := by decide +kernel
theorem d177_88 : decode (zB 177) 88 = .ok (.iastore, 1) := by decide +kernel
theorem d177_89 : decode (zB 177) 89 = .ok (.aload_n 0, 1) := by decide +kernel
theorem d177_90 : decode (zB 177) 90 = .ok (.iload_n 3, 1) := by decide +kernel
theorem d177_91 : decode (zB 177) 91 = .ok (.ifCond .ne 7, 3) := by decide +kernel
theorem d177_94 : decode (zB 177) 94 = .ok (.iconst 3, 1) := by decide +kernel
theorem d177_95 : decode (zB 177) 95 = .ok (.goto 4, 3) := by decide +kernel
theorem d177_98 : decode (zB 177) 98 = .ok (.iconst 4, 1) := by decide +kernel
theorem d177_99 : decode (zB 177) 99 = .ok (.iload_n 1, 1) := by decide +kernel
theorem d177_100 : decode (zB 177) 100 = .ok (.iload_n 2, 1) := by decide +kernel
theorem d177_101 : decode (zB 177) 101 = .ok (.invokevirtual 307, 3) := by decide +kernel
theorem d177_104 : decode (zB 177) 104 = .ok (.aload_n 0, 1) := by decide +kernel
theorem d177_105 : decode (zB 177) 105 = .ok (.iload_n 1, 1) := by decide +kernel
theorem d177_106 : decode (zB 177) 106 = .ok (.iconst 1, 1) := by decide +kernel
theorem d177_107 : decode (zB 177) 107 = .ok (.invokevirtual 304, 3) := by decide +kernel
theorem d177_110 : decode (zB 177) 110 = .ok (.ifCond .ne 9, 3) := by decide +kernel
theorem d177_113 : decode (zB 177) 113 = .ok (.aload_n 0, 1) := by decide +kernel
theorem d177_114 : decode (zB 177) 114 = .ok (.iload_n 1, 1) := by decide +kernel
theorem d177_115 : decode (zB 177) 115 = .ok (.iconst 4, 1) := by decide +kernel
theorem d177_116 : decode (zB 177) 116 = .ok (.invokevirtual 323, 3) := by decide +kernel
theorem d177_119 : decode (zB 177) 119 = .ok (.return_, 1) := by decide +kernel
/-- behind what was undone: whether the saga is over -/
theorem e177 {d : Nat} {M1 : zM} {Q : Option Value → zM → Prop} {T : Nat → yT} {c s κ : Nat} {nm : Nat → Nat → Int32} {X : yX} {l : List (Nat × Value)} (hC : CX G M1 T c nm X κ) (hs : s < 3) (h0 : gt (yxs X s) ≠ 0) (hl : yln X.2 + 1 ≤ 240) (e0 : zld l 0 = some (.ref 136)) (e1 : zld l 1 = some (.int (nI s))) (k : ∀ M', CX G M' T c nm (if gm (yxs X s) 1 = 0 then yen X s 4 else X) κ → Fi FX M1 M' → Q none M') : qW (zEv (d + 3)) 177 Q 104 l [] M1 := by
  have hg := gm_lt (yxs X s) 1
  refine q_aload_n (j := 0) d177_104 e0 ?_
  refine q_iload_n (j := 1) d177_105 e1 ?_
  refine q_iconstN (z := 1) d177_106 ?_
  refine q_v2 d177_107 rfl rfl (xk_136 hC.1) (Nat.le_of_ble_eq_true rfl) (c179 (S := yxs X s) hC.1 hs (hC.2.2.2.2.1 s hs) hC.k (hC.2.2.1.2.2 s hs) (by omega) ?_)
  refine n0_ne 119 d177_110 (by decide) (by omega) (fun h110 => ?_) (fun h110 => ?_)
  · refine q_ret d177_119 rfl ?_
    rw [if_neg (show ¬ gm (yxs X s) 1 = 0 from h110)] at k
    exact k _ hC (Fi.refl _ _)
  · refine q_aload_n (j := 0) d177_113 e0 ?_
    refine q_iload_n (j := 1) d177_114 e1 ?_
    refine q_iconstN (z := 4) d177_115 ?_
    refine q_v2 d177_116 rfl rfl (xk_136 hC.1) (Nat.le_of_ble_eq_true rfl) (hC.over hs h0 (by decide) (by decide) hl (fun M2 hC2 f2 => ?_))
    refine q_ret d177_119 rfl ?_
    rw [if_pos (show gm (yxs X s) 1 = 0 from h110)] at k
    exact k _ hC2 f2
theorem e177a {d : Nat} {M M1 : zM} {Q : Option Value → zM → Prop} {T : Nat → yT} {c s i κ : Nat} {nm : Nat → Nat → Int32} {X : yX} {l : List Nat} (hC : CX G M T c nm X κ) (hs : s < 3) (h1 : gt (yxs X s) ≠ 0) (hg : go (yxs X s) = i :: l) (hl : yln X.2 + 2 ≤ 240) (f1 : Fi (F2 s) M M1) (hP1 : XPu M1 (ych (T (gx (yxs X s))) X.1.1 i (gb (yxs X s) i) (-1))) (hL1 : XLo G M1 X.2) (hc1 : zi M1 136 20 = nI κ) (hS1 : XSa M1 s (gqS (yxs X s) (ysd (gq (yxs X s)) i)) κ) (ep : ypl (gq (yxs X s)) i = false) (hy : yob (T (gx (yxs X s))) X.1.1 i (gb (yxs X s) i) (-1) = 0) (k : ∀ M', CX G M' T c nm (yba (T (gx (yxs X s))) s X) κ → Fi FX M M' → Q none M') : qW (zEv (d + 3)) 177 Q 59 [(3, .int (nI 0)), (2, .int (nI i)), (0, .ref 136), (1, .int (nI s))] [] M1 := by
  have hX := hC.1
  have hOs : OKS T c (yxs X s) := hC.2.2.1.2.2 s hs
  have hx : gx (yxs X s) < c := hOs.2.1 h1
  have hT := hC.k
  have hoT := hT.2.2 _ hx
  have hn := hoT.n
  have hc6 := hT.2.1
  have hgd : gd (yxs X s) i = 1 := (hOs.2.2.2.1 i).mp (by rw [hg]; exact List.mem_cons_self)
  have hi : i < tn (T (gx (yxs X s))) := by
    apply Classical.byContradiction
    intro q
    have := hOs.2.2.2.2.1 i (by rw [gz_n h1]; omega)
    omega
  obtain ⟨a1, a2, a3, a4, a5⟩ := yun_ok hC.2.2.1 hs h1
  have hX1 := SX_fi hX f1
  refine q_iload_n d177_59 rfl ?_
  refine n0_eq 72 d177_60 (by decide) (by decide) (fun _ => ?_) (fun q => absurd q (by decide))
  refine q_aload_n d177_72 rfl ?_
  refine q_getr (c := 8) (f := 13) d177_73 ⟨rfl, rfl⟩ (xk_136 hX1) (xf_stands hX1) ?_
  refine q_iload_n d177_76 rfl ?_
  refine n_aald d177_77 (xk_stands hX1) (by decide) (by omega) (by decide) (xr_stands hX1 (by omega)) ?_
  refine q_iload_n d177_78 rfl ?_
  refine q_iload_n d177_79 rfl ?_
  refine n0_ne 87 d177_80 (by decide) (by decide) (fun q => absurd q (by decide)) (fun _ => ?_)
  refine q_iconstN (z := 2) d177_83 ?_
  refine q_goto 88 d177_84 (by decide) ?_
  refine n_iast d177_88 (xa_stands hX1 (by omega)) (by omega) (by decide) ?_
  have hS3 : XSa _ s (goS (gdS (gqS (yxs X s) (ysd (gq (yxs X s)) i)) (yu (gd (yxs X s)) i 2)) l) κ := hS1.wu (v := 2) hs hg (by decide)
  have f3 : Fi (fun b _ => b = 194 + s ∨ b = 178 + s) M1 (zwi M1 (178 + s) i (nI 2)) := ((Fi.refl _ _).wi (Or.inr rfl))
  have hL3 := hL1.fi f3 (fun b k q1 q2 => by unfold GL at q1; omega)
  refine q_aload_n d177_89 rfl ?_
  refine q_iload_n d177_90 rfl ?_
  refine n0_ne 98 d177_91 (by decide) (by decide) (fun q => absurd q (by decide)) (fun _ => ?_)
  refine q_iconstN (z := 3) d177_94 ?_
  refine q_goto 99 d177_95 (by decide) ?_
  refine q_iload_n d177_99 rfl ?_
  refine q_iload_n d177_100 rfl ?_
  refine q_v3 d177_101 rfl rfl (xk_136 hX1) (Nat.le_of_ble_eq_true rfl) (c171 hX1 hL3 (by omega) (fun M4 hL4 f4 => ?_))
  have fa : Fi (F2 s) M M4 := f1.trans ((f3.mono (fun b k q => by unfold F2; omega)).trans (f4.mono (fun b k q => Or.inr (Or.inl q))))
  have e := yun_A (T := T (gx (yxs X s))) hg ep hy
  have hC4 : CX G M4 T c nm (yun (T (gx (yxs X s))) s X) κ := by
    rw [e] at a1 ⊢
    exact hC.sg hs fa (XPu_fi (XPu_fi hP1 f3 (fun b k q1 q2 => by unfold GP at q1; omega)) f4 (fun b k q1 q2 => by unfold GP at q1; unfold GL at q2; omega)) (by rw [yA1]; exact hS3.fi f4 (fun b k q1 q2 => by unfold GS at q1; unfold GL at q2; omega)) (Nat.le_refl _) ((f4.1 _ _ (by unfold GL; omega)).trans ((f3.1 _ _ (by omega)).trans hc1)) hL4 (fun r hr => by rw [yA1n hr]; try rfl) a1 (by rw [yA1]; rfl) h1
  exact e177 hC4 hs (by rw [a3]; exact h1) (by omega) rfl rfl (fun M5 h5 f5 => k M5 h5 ((fa.mono (fun b k q => F2_X hs q)).trans f5))
theorem e177b {d : Nat} {M M1 : zM} {Q : Option Value → zM → Prop} {T : Nat → yT} {c s i κ : Nat} {nm : Nat → Nat → Int32} {X : yX} {l : List Nat} (hC : CX G M T c nm X κ) (hs : s < 3) (h1 : gt (yxs X s) ≠ 0) (hg : go (yxs X s) = i :: l) (hl : yln X.2 + 2 ≤ 240) (f1 : Fi (F2 s) M M1) (hP1 : XPu M1 X.1.1) (hL1 : XLo G M1 X.2) (hc1 : zi M1 136 20 = nI κ) {r : Int32} (hS1 : XSa M1 s (gqS (yxs X s) (ysd (gq (yxs X s)) i)) κ) (hr : (if ypl (gq (yxs X s)) i then 1 else yob (T (gx (yxs X s))) X.1.1 i (gb (yxs X s) i) (-1)) = r) (h0 : ¬ r = 0) (k : ∀ M', CX G M' T c nm (yba (T (gx (yxs X s))) s X) κ → Fi FX M M' → Q none M') : qW (zEv (d + 3)) 177 Q 59 [(3, .int r), (2, .int (nI i)), (0, .ref 136), (1, .int (nI s))] [] M1 := by
  have hX := hC.1
  have hOs : OKS T c (yxs X s) := hC.2.2.1.2.2 s hs
  have hx : gx (yxs X s) < c := hOs.2.1 h1
  have hT := hC.k
  have hoT := hT.2.2 _ hx
  have hn := hoT.n
  have hc6 := hT.2.1
  have hgd : gd (yxs X s) i = 1 := (hOs.2.2.2.1 i).mp (by rw [hg]; exact List.mem_cons_self)
  have hi : i < tn (T (gx (yxs X s))) := by
    apply Classical.byContradiction
    intro q
    have := hOs.2.2.2.2.1 i (by rw [gz_n h1]; omega)
    omega
  obtain ⟨a1, a2, a3, a4, a5⟩ := yun_ok hC.2.2.1 hs h1
  have hX1 := SX_fi hX f1
  refine q_iload_n d177_59 rfl ?_
  refine i0_eq 72 d177_60 (by decide) (fun h60 => (False.elim (h0 h60))) (fun h60 => ?_)
  refine q_aload_n d177_63 rfl ?_
  refine q_getr (c := 8) (f := 17) d177_64 ⟨rfl, rfl⟩ (xk_136 hX1) (xf_whys hX1) ?_
  refine q_iload_n d177_67 rfl ?_
  refine n_aald d177_68 (xk_whys hX1) (by decide) (by omega) (by decide) (xr_whys hX1 (by omega)) ?_
  refine q_iload_n d177_69 rfl ?_
  refine q_iload_n d177_70 rfl ?_
  refine n_iast d177_71 (xa_whys hX1 (by omega)) (by omega) (by decide) ?_
  have hS2 : XSa _ s (gwS (gqS (yxs X s) (ysd (gq (yxs X s)) i)) (yu (gw (yxs X s)) i r)) κ := hS1.ww (i := i) (v := r) hs
  refine q_aload_n d177_72 rfl ?_
  refine q_getr (c := 8) (f := 13) d177_73 ⟨rfl, rfl⟩ (xk_136 hX1) (xf_stands hX1) ?_
  refine q_iload_n d177_76 rfl ?_
  refine n_aald d177_77 (xk_stands hX1) (by decide) (by omega) (by decide) (xr_stands hX1 (by omega)) ?_
  refine q_iload_n d177_78 rfl ?_
  refine q_iload_n d177_79 rfl ?_
  refine i0_ne 87 d177_80 (by decide) (fun h80 => ?_) (fun h80 => (False.elim (h0 h80)))
  refine q_iconstN (z := 3) d177_87 ?_
  refine n_iast d177_88 (xa_stands hX1 (by omega)) (by omega) (by decide) ?_
  have hS3 : XSa _ s (goS (gdS (gwS (gqS (yxs X s) (ysd (gq (yxs X s)) i)) (yu (gw (yxs X s)) i r)) (yu (gd (yxs X s)) i 3)) l) κ := hS2.wu (v := 3) hs hg (by decide)
  have f3 : Fi (fun b _ => b = 194 + s ∨ b = 178 + s) M1 (zwi (zwi M1 (194 + s) i r) (178 + s) i (nI 3)) := (((Fi.refl _ _).wi (Or.inl rfl)).wi (Or.inr rfl))
  have hL3 := hL1.fi f3 (fun b k q1 q2 => by unfold GL at q1; omega)
  refine q_aload_n d177_89 rfl ?_
  refine q_iload_n d177_90 rfl ?_
  refine i0_ne 98 d177_91 (by decide) (fun h91 => ?_) (fun h91 => (False.elim (h0 h91)))
  refine q_iconstN (z := 4) d177_98 ?_
  refine q_iload_n d177_99 rfl ?_
  refine q_iload_n d177_100 rfl ?_
  refine q_v3 d177_101 rfl rfl (xk_136 hX1) (Nat.le_of_ble_eq_true rfl) (c171 hX1 hL3 (by omega) (fun M4 hL4 f4 => ?_))
  have fa : Fi (F2 s) M M4 := f1.trans ((f3.mono (fun b k q => by unfold F2; omega)).trans (f4.mono (fun b k q => Or.inr (Or.inl q))))
  have e := yun_B (T := T (gx (yxs X s))) hg hr h0
  have hC4 : CX G M4 T c nm (yun (T (gx (yxs X s))) s X) κ := by
    rw [e] at a1 ⊢
    exact hC.sg hs fa (XPu_fi (XPu_fi hP1 f3 (fun b k q1 q2 => by unfold GP at q1; omega)) f4 (fun b k q1 q2 => by unfold GP at q1; unfold GL at q2; omega)) (by rw [yA1]; exact hS3.fi f4 (fun b k q1 q2 => by unfold GS at q1; unfold GL at q2; omega)) (Nat.le_refl _) ((f4.1 _ _ (by unfold GL; omega)).trans ((f3.1 _ _ (by omega)).trans hc1)) hL4 (fun r hr => by rw [yA1n hr]; try rfl) a1 (by rw [yA1]; rfl) h1
  exact e177 hC4 hs (by rw [a3]; exact h1) (by omega) rfl rfl (fun M5 h5 f5 => k M5 h5 ((fa.mono (fun b k q => F2_X hs q)).trans f5))
theorem c177 {d : Nat} {M : zM} {Q : Option Value → zM → Prop} {T : Nat → yT} {c s κ : Nat} {nm : Nat → Nat → Int32} {X : yX} (hC : CX G M T c nm X κ) (hs : s < 3) (h1 : gt (yxs X s) ≠ 0) (hl : yln X.2 + 2 ≤ 240) (hκ : κ < 2147483648) (k : ∀ M', CX G M' T c nm (yba (T (gx (yxs X s))) s X) κ → Fi FX M M' → Q none M') : qC (d + 4) 177 [.ref 136, .int (nI s)] M Q := by
  refine qC_of (by decide) (Nat.le_of_ble_eq_true rfl) ?_
  have hsa : XSa M s (yxs X s) κ := hC.2.2.2.2.1 s hs
  have hc0 := hC.2.2.2.2.2.1
  have hL := hC.2.2.2.2.2.2.1
  have hX := hC.1
  have hOs : OKS T c (yxs X s) := hC.2.2.1.2.2 s hs
  cases eg : go (yxs X s) with
  | nil =>
    refine q_aload_n d177_0 rfl ?_
    refine q_iload_n d177_1 rfl ?_
    refine q_v1 d177_2 rfl rfl (xk_136 hX) (Nat.le_of_ble_eq_true rfl) (c178 (S := yxs X s) hX hs hsa hC.k hOs hκ ?_)
    rw [eg, show ylast [] = -1 from rfl]
    refine q_istore_n d177_5 (by decide) rfl ?_
    refine q_iload_n d177_6 rfl ?_
    refine q_iconst (x := (-1)) d177_7 rfl ?_
    refine ic_eq 104 d177_8 (by decide) (fun h8 => ?_) (fun h8 => (False.elim (h8 rfl)))
    have e := yun_N (T := T (gx (yxs X s))) eg
    exact e177 hC hs h1 (by omega) rfl rfl (fun M5 h5 f5 => k M5 (by unfold yba; simp only []; rw [e]; exact h5) f5)
  | cons i l =>
    have hX := hC.1
    have hOs : OKS T c (yxs X s) := hC.2.2.1.2.2 s hs
    have hx : gx (yxs X s) < c := hOs.2.1 h1
    have hT := hC.k
    have hoT := hT.2.2 _ hx
    have hn := hoT.n
    have hc6 := hT.2.1
    have hgd : gd (yxs X s) i = 1 := (hOs.2.2.2.1 i).mp (by rw [eg]; exact List.mem_cons_self)
    have hi : i < tn (T (gx (yxs X s))) := by
      apply Classical.byContradiction
      intro q
      have := hOs.2.2.2.2.1 i (by rw [gz_n h1]; omega)
      omega
    obtain ⟨a1, a2, a3, a4, a5⟩ := yun_ok hC.2.2.1 hs h1
    have hx1 : zi M 176 s = nI (gx (yxs X s)) := hsa.1.2.trans (if_neg h1)
    refine q_aload_n d177_0 rfl ?_
    refine q_iload_n d177_1 rfl ?_
    refine q_v1 d177_2 rfl rfl (xk_136 hX) (Nat.le_of_ble_eq_true rfl) (c178 (S := yxs X s) hX hs hsa hC.k hOs hκ ?_)
    rw [eg, show ylast (i :: l) = nI i from rfl]
    refine q_istore_n d177_5 (by decide) rfl ?_
    refine q_iload_n d177_6 rfl ?_
    refine q_iconst (x := (-1)) d177_7 rfl ?_
    refine ic_eq 104 d177_8 (by decide) (fun h8 => (False.elim (nI_m1 (by omega) h8))) (fun h8 => ?_)
    refine q_aload_n d177_11 rfl ?_
    refine q_getr (c := 8) (f := 19) d177_12 ⟨rfl, rfl⟩ (xk_136 hX) (xf_undoPlans hX) ?_
    refine q_iload_n d177_15 rfl ?_
    refine n_aald d177_16 (xk_undoPlans hX) (by decide) (by omega) (by decide) (xr_undoPlans hX (by omega)) ?_
    refine q_iload_n d177_17 rfl ?_
    refine n_iald d177_18 (xa_undoPlans hX (by omega)) (by omega) (by decide) ((hsa.2.1 _ (by omega)).2.2.2.2) ?_
    refine i0_le 39 d177_19 (by decide) (fun h19 => ?_) (fun h19 => ?_)
    · refine q_aload_n d177_39 rfl ?_
      refine q_aload_n d177_40 rfl ?_
      refine q_getr (c := 8) (f := 12) d177_41 ⟨rfl, rfl⟩ (xk_136 hX) (xf_textOf hX) ?_
      refine q_iload_n d177_44 rfl ?_
      refine n_iald d177_45 (xk_textOf hX) (by omega) (by decide) hx1 ?_
      refine q_iload_n d177_46 rfl ?_
      refine q_aload_n d177_47 rfl ?_
      refine q_getr (c := 8) (f := 15) d177_48 ⟨rfl, rfl⟩ (xk_136 hX) (xf_by hX) ?_
      refine q_iload_n d177_51 rfl ?_
      refine n_aald d177_52 (xk_by hX) (by decide) (by omega) (by decide) (xr_by hX (by omega)) ?_
      refine q_iload_n d177_53 rfl ?_
      refine n_iald d177_54 (xa_by hX (by omega)) (by omega) (by decide) (hsa.2.2.1 _ (by omega) hgd) ?_
      refine q_v3 d177_55 rfl rfl (xk_136 hX) (Nat.le_of_ble_eq_true rfl) (c180 hX hC.2.2.2.1 (hC.2.1 _ hx) hoT hC.2.2.1.2.1 (by omega) hi (fun M1 hP1 f1 => ?_))
      refine q_istore_n d177_58 (by decide) rfl ?_
      have ep : ypl (gq (yxs X s)) i = false := decide_eq_false (Int32.not_lt.mpr h19)
      have es : gqS (yxs X s) (ysd (gq (yxs X s)) i) = yxs X s := by unfold ysd; rw [ep]; rfl
      have hsa1 := hsa.fi f1 (fun b k q1 q2 => by unfold GS at q1; unfold GP at q2; omega)
      have hL1 := hL.fi f1 (fun b k q1 q2 => by unfold GL at q1; unfold GP at q2; omega)
      have hc1 : zi M1 136 20 = nI κ := (f1.1 _ _ (by unfold GP; omega)).trans hc0
      by_cases hy : yob (T (gx (yxs X s))) X.1.1 i (gb (yxs X s) i) (-1) = 0
      · rw [show yob (T (gx (yxs X s))) X.1.1 i (gb (yxs X s) i) (-1) = nI 0 from hy]
        exact e177a hC hs h1 eg hl (f1.mono (fun b k q => Or.inl q)) (by have h := hP1; unfold xdo at h; rw [if_pos hy] at h; exact h) hL1 hc1 (by rw [es]; exact hsa1) ep hy k
      · exact e177b hC hs h1 eg hl (f1.mono (fun b k q => Or.inl q)) (by have h := hP1; unfold xdo at h; rw [if_neg hy] at h; exact h) hL1 hc1 (by rw [es]; exact hsa1) (by rw [ep]; rfl) hy k
    · refine q_aload_n d177_22 rfl ?_
      refine q_getr (c := 8) (f := 19) d177_23 ⟨rfl, rfl⟩ (xk_136 hX) (xf_undoPlans hX) ?_
      refine q_iload_n d177_26 rfl ?_
      refine n_aald d177_27 (xk_undoPlans hX) (by decide) (by omega) (by decide) (xr_undoPlans hX (by omega)) ?_
      refine q_iload_n d177_28 rfl ?_
      refine q_dup2 d177_29 rfl rfl ?_
      refine n_iald d177_30 (xa_undoPlans hX (by omega)) (by omega) (by decide) ((hsa.2.1 _ (by omega)).2.2.2.2) ?_
      refine q_iconstN (z := 1) d177_31 ?_
      refine q_isub d177_32 ?_
      refine n_iast d177_33 (xa_undoPlans hX (by omega)) (by omega) (by decide) ?_
      refine q_iconstN (z := 1) d177_34 ?_
      refine q_istore_n d177_35 (by decide) rfl ?_
      refine q_goto 59 d177_36 (by decide) ?_
      have ep : ypl (gq (yxs X s)) i = true := decide_eq_true (Int32.not_le.mp h19)
      have f1 : Fi (fun b _ => b = 202 + s) M (zwi M (202 + s) i (gq (yxs X s) i - 1)) := (Fi.refl _ _).wi rfl
      exact e177b (r := 1) hC hs h1 eg hl (f1.mono (fun b k q => by unfold F2; omega)) (XPu_fi hC.2.2.2.1 f1 (fun b k q1 q2 => by unfold GP at q1; omega)) (hL.fi f1 (fun b k q1 q2 => by unfold GL at q1; omega)) ((f1.1 _ _ (by omega)).trans hc0) (by unfold ysd; rw [ep]; exact hsa.wq hs) (by rw [ep]; rfl) (by decide) k
end RG
