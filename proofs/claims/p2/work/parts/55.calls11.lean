/-! ===== the calls of the class: ends, drawn ===== -/
/-- what the call answers behind its ticks -/
def yenA (E : Nat × yX) (s w : Nat) : Int32 := if w = 0 then (if gt (yxs E.2 s) < 3 then -1 else nI E.1) else if w = 1 then nI (gt (yxs E.2 s)) else ybc (nI (gm (yxs E.2 s) 3))
theorem yov60_s {T : Nat → yT} {nm : Nat → Nat → Int32} {s r t : Nat} {X : yX} (h : gt (yxs X s) < 3) : yov60 T nm s (r + 1) t X = yov60 T nm s r (t + 1) (yti T nm X) := by rw [yov60, if_pos h]
theorem yov60_o {T : Nat → yT} {nm : Nat → Nat → Int32} {s r t : Nat} {X : yX} (h : ¬ gt (yxs X s) < 3) : yov60 T nm s r t X = (t, X) := by
  cases r with
  | zero => rfl
  | succ r => rw [yov60, if_neg h]
theorem d103_0 : decode (zB 103) 0 = .ok (.iload_n 1, 1) := by decide +kernel
theorem d103_1 : decode (zB 103) 1 = .ok (.invokestatic 141, 3) := by decide +kernel
theorem d103_4 : decode (zB 103) 4 = .ok (.ifCond .eq 12, 3) := by decide +kernel
theorem d103_7 : decode (zB 103) 7 = .ok (.iload_n 2, 1) := by decide +kernel
theorem d103_8 : decode (zB 103) 8 = .ok (.iconst 0, 1) := by decide +kernel
theorem d103_9 : decode (zB 103) 9 = .ok (.iconst 2, 1) := by decide +kernel
theorem d103_10 : decode (zB 103) 10 = .ok (.invokestatic 55, 3) := by decide +kernel
theorem d103_13 : decode (zB 103) 13 = .ok (.ifCond .ne 6, 3) := by decide +kernel
theorem d103_16 : decode (zB 103) 16 = .ok (.bipush (-2), 2) := by decide +kernel
theorem d103_18 : decode (zB 103) 18 = .ok (.ireturn, 1) := by decide +kernel
theorem d103_19 : decode (zB 103) 19 = .ok (.aload_n 0, 1) := by decide +kernel
theorem d103_20 : decode (zB 103) 20 = .ok (.getfield 37, 3) := by decide +kernel
theorem d103_23 : decode (zB 103) 23 = .ok (.getfield 144, 3) := by decide +kernel
theorem d103_26 : decode (zB 103) 26 = .ok (.iload_n 1, 1) := by decide +kernel
theorem d103_27 : decode (zB 103) 27 = .ok (.aaload, 1) := by decide +kernel
theorem d103_28 : decode (zB 103) 28 = .ok (.getfield 166, 3) := by decide +kernel
theorem d103_31 : decode (zB 103) 31 = .ok (.ifCond .ne 6, 3) := by decide +kernel
theorem d103_34 : decode (zB 103) 34 = .ok (.bipush (-3), 2) := by decide +kernel
theorem d103_36 : decode (zB 103) 36 = .ok (.ireturn, 1) := by decide +kernel
theorem d103_37 : decode (zB 103) 37 = .ok (.aload_n 0, 1) := by decide +kernel
theorem d103_38 : decode (zB 103) 38 = .ok (.getfield 41, 3) := by decide +kernel
theorem d103_41 : decode (zB 103) 41 = .ok (.aload_n 0, 1) := by decide +kernel
theorem d103_42 : decode (zB 103) 42 = .ok (.getfield 37, 3) := by decide +kernel
theorem d103_45 : decode (zB 103) 45 = .ok (.invokevirtual 227, 3) := by decide +kernel
theorem d103_48 : decode (zB 103) 48 = .ok (.aload_n 0, 1) := by decide +kernel
theorem d103_49 : decode (zB 103) 49 = .ok (.getfield 41, 3) := by decide +kernel
theorem d103_52 : decode (zB 103) 52 = .ok (.getfield 144, 3) := by decide +kernel
theorem d103_55 : decode (zB 103) 55 = .ok (.iload_n 1, 1) := by decide +kernel
theorem d103_56 : decode (zB 103) 56 = .ok (.aaload, 1) := by decide +kernel
theorem d103_57 : decode (zB 103) 57 = .ok (.astore_n 3, 1) := by decide +kernel
theorem d103_58 : decode (zB 103) 58 = .ok (.iconst 0, 1) := by decide +kernel
theorem d103_59 : decode (zB 103) 59 = .ok (.istore 4, 2) := by decide +kernel
theorem d103_61 : decode (zB 103) 61 = .ok (.iload 4, 2) := by decide +kernel
theorem d103_63 : decode (zB 103) 63 = .ok (.bipush 60, 2) := by decide +kernel
theorem d103_65 : decode (zB 103) 65 = .ok (.if_icmp .ge 23, 3) := by decide +kernel
theorem d103_68 : decode (zB 103) 68 = .ok (.aload_n 3, 1) := by decide +kernel
theorem d103_69 : decode (zB 103) 69 = .ok (.invokevirtual 230, 3) := by decide +kernel
theorem d103_72 : decode (zB 103) 72 = .ok (.ifCond .ne 16, 3) := by decide +kernel
theorem d103_75 : decode (zB 103) 75 = .ok (.aload_n 0, 1) := by decide +kernel
theorem d103_76 : decode (zB 103) 76 = .ok (.getfield 41, 3) := by decide +kernel
theorem d103_79 : decode (zB 103) 79 = .ok (.invokevirtual 175, 3) := by decide +kernel
theorem d103_82 : decode (zB 103) 82 = .ok (.iinc 4 1, 3) := by decide +kernel
theorem d103_85 : decode (zB 103) 85 = .ok (.goto (-24), 3) := by decide +kernel
theorem d103_88 : decode (zB 103) 88 = .ok (.iload_n 2, 1) := by decide +kernel
theorem d103_89 : decode (zB 103) 89 = .ok (.ifCond .ne 17, 3) := by decide +kernel
theorem d103_92 : decode (zB 103) 92 = .ok (.aload_n 3, 1) := by decide +kernel
theorem d103_93 : decode (zB 103) 93 = .ok (.invokevirtual 230, 3) := by decide +kernel
theorem d103_96 : decode (zB 103) 96 = .ok (.ifCond .eq 8, 3) := by decide +kernel
theorem d103_99 : decode (zB 103) 99 = .ok (.iload 4, 2) := by decide +kernel
theorem d103_101 : decode (zB 103) 101 = .ok (.goto 4, 3) := by decide +kernel
theorem d103_104 : decode (zB 103) 104 = .ok (.iconst (-1), 1) := by decide +kernel
theorem d103_105 : decode (zB 103) 105 = .ok (.ireturn, 1) := by decide +kernel
theorem d103_106 : decode (zB 103) 106 = .ok (.iload_n 2, 1) := by decide +kernel
theorem d103_107 : decode (zB 103) 107 = .ok (.iconst 1, 1) := by decide +kernel
theorem d103_108 : decode (zB 103) 108 = .ok (.if_icmp .ne 10, 3) := by decide +kernel
theorem d103_111 : decode (zB 103) 111 = .ok (.aload_n 3, 1) := by decide +kernel
theorem d103_112 : decode (zB 103) 112 = .ok (.getfield 166, 3) := by decide +kernel
theorem d103_115 : decode (zB 103) 115 = .ok (.goto 10, 3) := by decide +kernel
theorem d103_118 : decode (zB 103) 118 = .ok (.aload_n 3, 1) := by decide +kernel
theorem d103_119 : decode (zB 103) 119 = .ok (.getfield 187, 3) := by decide +kernel
theorem d103_122 : decode (zB 103) 122 = .ok (.invokestatic 233, 3) := by decide +kernel
theorem d103_125 : decode (zB 103) 125 = .ok (.ireturn, 1) := by decide +kernel
theorem e103 {d : Nat} {Q : Option Value → zM → Prop} {M1 : zM} {T : Nat → yT} {c s w t : Nat} {nm : Nat → Nat → Int32} {X : yX} (hs : s < 3) (hw : w < 3) (ht : t ≤ 60) (hC1 : CW M1 94 94 99 95 T c nm X) (k : Q (some (.int (yenA (t, X) s w))) M1) : qW (zEv (d + 5)) 103 Q 88 [(4, .int (nI t)), (3, .ref (102 + 8 * s)), (0, .ref 16), (1, .int (nI s)), (2, .int (nI w))] [] M1 := by
  have hsghC1 : SSg M1 (102 + 8 * s) := hC1.1.sg (by unfold zSa; omega)
  have h5 : gt (yxs X s) ≤ 5 := (hC1.2.2.2.1.2.2 s hs).1
  have q0 : zi M1 (102 + 8 * s) 0 = nI (gt (yxs X s)) := (hC1.2.2.2.2.2.1 s hs).1.1
  have q5 : zi M1 (102 + 8 * s) 5 = nI (gm (yxs X s) 3) := (hC1.2.2.2.2.2.1 s hs).2.1.2.2
  have k : Q (some (.int (if w = 0 then (if gt (yxs X s) < 3 then -1 else nI t) else if w = 1 then nI (gt (yxs X s)) else ybc (nI (gm (yxs X s) 3))))) M1 := k
  rcases (show w = 0 ∨ w = 1 ∨ w = 2 by omega) with rfl | rfl | rfl
  · refine q_iload_n d103_88 rfl ?_
    refine n0_ne 106 d103_89 (by decide) (by decide) (fun q => absurd q (by decide)) (fun _ => ?_)
    refine q_aload_n d103_92 rfl ?_
    refine q_v0 d103_93 rfl rfl hsghC1.1 (Nat.le_of_ble_eq_true rfl) (c104 hsghC1 q0 h5 ?_)
    refine b0_eq 104 d103_96 (by decide) (fun h96 => ?_) (fun h96 => ?_)
    · refine q_iconst (x := (-1)) d103_104 rfl ?_
      refine q_iret d103_105 rfl ?_
      rw [if_pos rfl, if_pos (by have := of_decide_eq_false h96; omega)] at k
      exact k
    · refine q_iload d103_99 rfl ?_
      refine q_goto 105 d103_101 (by decide) ?_
      refine q_iret d103_105 rfl ?_
      rw [if_pos rfl, if_neg (by have := of_decide_eq_true h96; omega)] at k
      exact k
  · refine q_iload_n d103_88 rfl ?_
    refine n0_ne 106 d103_89 (by decide) (by decide) (fun _ => ?_) (fun q => absurd q (by decide))
    refine q_iload_n d103_106 rfl ?_
    refine q_iconstN (z := 1) d103_107 ?_
    refine nc_ne 118 d103_108 (by decide) (by decide) (by decide) (fun q => absurd q (by decide)) (fun _ => ?_)
    refine q_aload_n d103_111 rfl ?_
    refine q_getv (c := 5) (f := 0) d103_112 ⟨rfl, by decide⟩ hsghC1.1 q0 ?_
    refine q_goto 125 d103_115 (by decide) ?_
    refine q_iret d103_125 rfl ?_
    rw [if_neg (by decide), if_pos rfl] at k
    exact k
  · refine q_iload_n d103_88 rfl ?_
    refine n0_ne 106 d103_89 (by decide) (by decide) (fun _ => ?_) (fun q => absurd q (by decide))
    refine q_iload_n d103_106 rfl ?_
    refine q_iconstN (z := 1) d103_107 ?_
    refine nc_ne 118 d103_108 (by decide) (by decide) (by decide) (fun _ => ?_) (fun q => absurd q (by decide))
    refine q_aload_n d103_118 rfl ?_
    refine q_getv (c := 5) (f := 5) d103_119 ⟨rfl, by decide⟩ hsghC1.1 q5 ?_
    refine q_s1 d103_122 (Or.inl rfl) rfl (Nat.le_of_ble_eq_true rfl) (c105 ?_)
    refine q_iret d103_125 rfl ?_
    rw [if_neg (by decide), if_neg (by decide)] at k
    exact k
theorem l103 {d : Nat} {Q : Option Value → zM → Prop} {D : yD} {M0 : zM} {s w : Nat} {nm : Nat → Nat → Int32} {E : Nat × yX} (hR : RC M0 D) (hs : s < 3) (hw : w < 3) (k : ∀ M', RC M' D → Fc M0 M' → Q (some (.int (yenA E s w))) M') : ∀ (r i : Nat) (M1 : zM) (X1 : yX), i ≤ 60 → 60 < i + r →  CW M1 94 94 99 95 (dT D) (dc D) nm X1 → Fr (FW 94) M0 M1 → yov60 (dT D) nm s (60 - i) i X1 = E → qW (zEv (d + 5)) 103 Q 61 [(4, .int (nI i)), (3, .ref (102 + 8 * s)), (0, .ref 16), (1, .int (nI s)), (2, .int (nI w))] [] M1 := by
  intro r
  induction r with
  | zero => intros; omega
  | succ r ih =>
    intro i M1 X1 h1 h2 hC1 hF hy
    have hsghC1 : SSg M1 (102 + 8 * s) := hC1.1.sg (by unfold zSa; omega)
    have q0 : zi M1 (102 + 8 * s) 0 = nI (gt (yxs X1 s)) := (hC1.2.2.2.2.2.1 s hs).1.1
    have h5 : gt (yxs X1 s) ≤ 5 := (hC1.2.2.2.1.2.2 s hs).1
    refine q_iload d103_61 rfl ?_
    refine q_bipush (x := nI 60) d103_63 rfl ?_
    refine nc_ge 88 d103_65 (by decide) (by omega) (by omega) (fun h65 => ?_) (fun h65 => ?_)
    · have hE : (i, X1) = E := by first | (rw [show 60 - i = 0 by omega] at hy; exact hy) | (rw [yov60_o (by have := of_decide_eq_true h72; omega)] at hy; exact hy)
      exact e103 hs hw (by omega) hC1 (by rw [hE]; exact k _ (hR.th hC1.1 hF).1 (hR.th hC1.1 hF).2)
    · refine q_aload_n d103_68 rfl ?_
      refine q_v0 d103_69 rfl rfl hsghC1.1 (Nat.le_of_ble_eq_true rfl) (c104 hsghC1 q0 h5 ?_)
      refine b0_ne 88 d103_72 (by decide) (fun h72 => ?_) (fun h72 => ?_)
      · have hE : (i, X1) = E := by first | (rw [show 60 - i = 0 by omega] at hy; exact hy) | (rw [yov60_o (by have := of_decide_eq_true h72; omega)] at hy; exact hy)
        exact e103 hs hw (by omega) hC1 (by rw [hE]; exact k _ (hR.th hC1.1 hF).1 (hR.th hC1.1 hF).2)
      · refine q_aload_n d103_75 rfl ?_
        refine q_getr (c := 7) (f := 5) d103_76 ⟨rfl, rfl⟩ (hC1.1.1.1) (hC1.1.1.2.2.2.2.2.2.2.1) ?_
        refine q_v0 d103_79 rfl rfl (hC1.1.wo (Or.inr ⟨rfl, rfl, rfl, rfl⟩)).1 (Nat.le_of_ble_eq_true rfl) (c69 hC1 hC1.l0 (fun M2 hC2 f2 => ?_))
        refine n_iinc 1 d103_82 (by decide) rfl rfl ?_
        refine q_goto 61 d103_85 (by decide) ?_
        exact ih (i + 1) _ _ (by omega) (by omega) hC2 (hF.trans f2.fr) (by rw [show 60 - i = (60 - (i + 1)) + 1 by omega, yov60_s (by have := of_decide_eq_false h72; omega)] at hy; exact hy)
theorem p103 {d : Nat} {M : zM} {Q : Option Value → zM → Prop} {D : yD} {x y : Int32} (hR : RC M D) (hD : OKD D) (k : ∀ M', RC M' D → Fc M M' → Q (some (.int (sEnds D x y))) M') : qC (d + 6) 103 [.ref 16, .int x, .int y] M Q := by
  refine qC_of (by decide) (Nat.le_of_ble_eq_true rfl) ?_
  have hS := hR.1.1
  have hT := hR.1.2.2.1
  have hO := hR.1.2.2.2.1
  have hRW := hR.1.2.2.2.2
  have hJ : RL M 62 (dL D) := hRW.2.2.2
  have hc6 := hO.1.1
  have h240 := hD.2.1
  have h120 := hR.2.2.1.1
  have hwr := hS.wo (Or.inl ⟨rfl, rfl, rfl, rfl⟩)
  have hwt := hS.wo (Or.inr ⟨rfl, rfl, rfl, rfl⟩)
  have hpr := hS.pu (Or.inl ⟨rfl, rfl, rfl, rfl⟩)
  have hpt := hS.pu (Or.inr ⟨rfl, rfl, rfl, rfl⟩)
  unfold sEnds at k
  rcases zix_c x (n := 3) (by omega) with ⟨s, hs, rfl, es⟩ | ⟨es, ns⟩
  · rw [oz_s es] at k
    have hsg : SSg M (70 + 8 * s) := hS.sg (by unfold zSa; omega)
    have hg0 : zi M (70 + 8 * s) 0 = nI (gt (dS D s)) := (hRW.2.1 s hs).1.1
    have hg5 : gt (dS D s) ≤ 5 := (hO.2.2 s hs).1
    rcases zix_c y (n := 3) (by omega) with ⟨w, hw, rfl, ew⟩ | ⟨ew, nw⟩
    · rw [oz_s ew] at k
      by_cases h0 : gt (dS D s) = 0
      · rw [if_pos h0] at k
        refine q_iload_n d103_0 rfl ?_
        refine q_s1 d103_1 (Or.inl rfl) rfl (Nat.le_of_ble_eq_true rfl) (c60t (by omega) ?_)
        refine n0_eq 16 d103_4 (by decide) (by decide) (fun q => absurd q (by decide)) (fun _ => ?_)
        refine q_iload_n d103_7 rfl ?_
        refine q_iconstN (z := 0) d103_8 ?_
        refine q_iconstN (z := 2) d103_9 ?_
        refine q_s3 d103_10 (Or.inl rfl) rfl (Nat.le_of_ble_eq_true rfl) (c10t ⟨by omega, by omega⟩ (by decide) ?_)
        refine n0_ne 19 d103_13 (by decide) (by decide) (fun _ => ?_) (fun q => absurd q (by decide))
        refine q_aload_n d103_19 rfl ?_
        refine q_getr (c := 7) (f := 4) d103_20 ⟨rfl, rfl⟩ (hS.1.1) (hS.1.2.2.2.2.2.2.1) ?_
        refine q_getr (c := 6) (f := 3) d103_23 ⟨rfl, rfl⟩ hwr.1 hwr.2.2.2.2.1 ?_
        refine q_iload_n d103_26 rfl ?_
        refine n_aald d103_27 hwr.2.2.2.2.2.1 (by decide) (by omega) (by decide) (hwr.2.2.2.2.2.2 _ (by omega)) ?_
        refine q_getv (c := 5) (f := 0) d103_28 ⟨rfl, by decide⟩ hsg.1 hg0 ?_
        refine n0_ne 37 d103_31 (by decide) (by omega) (fun h31 => (False.elim (h31 h0))) (fun h31 => ?_)
        refine q_bipush (x := (-3)) d103_34 rfl ?_
        refine q_iret d103_36 rfl ?_
        exact k _ hR (Fc.refl _)
      · rw [if_neg h0] at k
        refine q_iload_n d103_0 rfl ?_
        refine q_s1 d103_1 (Or.inl rfl) rfl (Nat.le_of_ble_eq_true rfl) (c60t (by omega) ?_)
        refine n0_eq 16 d103_4 (by decide) (by decide) (fun q => absurd q (by decide)) (fun _ => ?_)
        refine q_iload_n d103_7 rfl ?_
        refine q_iconstN (z := 0) d103_8 ?_
        refine q_iconstN (z := 2) d103_9 ?_
        refine q_s3 d103_10 (Or.inl rfl) rfl (Nat.le_of_ble_eq_true rfl) (c10t ⟨by omega, by omega⟩ (by decide) ?_)
        refine n0_ne 19 d103_13 (by decide) (by decide) (fun _ => ?_) (fun q => absurd q (by decide))
        refine q_aload_n d103_19 rfl ?_
        refine q_getr (c := 7) (f := 4) d103_20 ⟨rfl, rfl⟩ (hS.1.1) (hS.1.2.2.2.2.2.2.1) ?_
        refine q_getr (c := 6) (f := 3) d103_23 ⟨rfl, rfl⟩ hwr.1 hwr.2.2.2.2.1 ?_
        refine q_iload_n d103_26 rfl ?_
        refine n_aald d103_27 hwr.2.2.2.2.2.1 (by decide) (by omega) (by decide) (hwr.2.2.2.2.2.2 _ (by omega)) ?_
        refine q_getv (c := 5) (f := 0) d103_28 ⟨rfl, by decide⟩ hsg.1 hg0 ?_
        refine n0_ne 37 d103_31 (by decide) (by omega) (fun h31 => ?_) (fun h31 => (False.elim (h0 h31)))
        refine q_aload_n d103_37 rfl ?_
        refine q_getr (c := 7) (f := 5) d103_38 ⟨rfl, rfl⟩ (hS.1.1) (hS.1.2.2.2.2.2.2.2.1) ?_
        refine q_aload_n d103_41 rfl ?_
        refine q_getr (c := 7) (f := 4) d103_42 ⟨rfl, rfl⟩ (hS.1.1) (hS.1.2.2.2.2.2.2.1) ?_
        refine q_v1 d103_45 rfl rfl hwt.1 (Nat.le_of_ble_eq_true rfl) (c101 (nm := dnm D) (X := dX D) hR.1 (fun M1 hC1 f1 => ?_))
        have hsghC1 : SSg M1 (102 + 8 * s) := hC1.1.sg (by unfold zSa; omega)
        refine q_aload_n d103_48 rfl ?_
        refine q_getr (c := 7) (f := 5) d103_49 ⟨rfl, rfl⟩ (hC1.1.1.1) (hC1.1.1.2.2.2.2.2.2.2.1) ?_
        refine q_getr (c := 6) (f := 3) d103_52 ⟨rfl, rfl⟩ (hC1.1.wo (Or.inr ⟨rfl, rfl, rfl, rfl⟩)).1 (hC1.1.wo (Or.inr ⟨rfl, rfl, rfl, rfl⟩)).2.2.2.2.1 ?_
        refine q_iload_n d103_55 rfl ?_
        refine n_aald d103_56 (hC1.1.wo (Or.inr ⟨rfl, rfl, rfl, rfl⟩)).2.2.2.2.2.1 (by decide) (by omega) (by decide) ((hC1.1.wo (Or.inr ⟨rfl, rfl, rfl, rfl⟩)).2.2.2.2.2.2 _ (by omega)) ?_
        refine q_astore_n d103_57 (by decide) rfl ?_
        refine q_iconstN (z := 0) d103_58 ?_
        refine q_istore d103_59 (by decide) rfl ?_
        exact l103 (E := yov60 (dT D) (dnm D) s 60 0 (dW D, none)) (nm := dnm D) hR hs hw (fun M' g1 g2 => k M' g1 g2) 61 0 M1 _ (by omega) (by omega) hC1 (f1.mono (fun b q e => ⟨by have := e.1; omega, by have := e.2; omega⟩)) rfl
    · rw [oz_n ew] at k
      refine q_iload_n d103_0 rfl ?_
      refine q_s1 d103_1 (Or.inl rfl) rfl (Nat.le_of_ble_eq_true rfl) (c60t (by omega) ?_)
      refine n0_eq 16 d103_4 (by decide) (by decide) (fun q => absurd q (by decide)) (fun _ => ?_)
      refine q_iload_n d103_7 rfl ?_
      refine q_iconstN (z := 0) d103_8 ?_
      refine q_iconstN (z := 2) d103_9 ?_
      refine q_s3 d103_10 (Or.inl rfl) rfl (Nat.le_of_ble_eq_true rfl) (c10f (by decide) (by omega) (by decide) ?_)
      refine n0_ne 19 d103_13 (by decide) (by decide) (fun q => absurd q (by decide)) (fun _ => ?_)
      refine q_bipush (x := (-2)) d103_16 rfl ?_
      refine q_iret d103_18 rfl ?_
      exact k _ hR (Fc.refl _)
  · rw [oz_n es] at k
    refine q_iload_n d103_0 rfl ?_
    refine q_s1 d103_1 (Or.inl rfl) rfl (Nat.le_of_ble_eq_true rfl) (c60f es ?_)
    refine n0_eq 16 d103_4 (by decide) (by decide) (fun _ => ?_) (fun q => absurd q (by decide))
    refine q_bipush (x := (-2)) d103_16 rfl ?_
    refine q_iret d103_18 rfl ?_
    exact k _ hR (Fc.refl _)
theorem yss_id (X : yX) (s : Nat) : yss X s (yxs X s) = X := by
  unfold yss yxs
  have : yu X.1.2 s (X.1.2 s) = X.1.2 := by
    funext j
    by_cases e : j = s
    · subst e; rw [yu_s]
    · rw [yu_n e]
  rw [this]
theorem yxs_s (X : yX) (s : Nat) (A : yS) : yxs (yss X s A) s = A := yu_s _ _ _
/-- plans of the first i steps are drawn -/
def yzq (z : Int32) (i : Nat) : Nat → Int32 := fun j => if j < i then yzp (yzs z (j + 1)) else 0
theorem yzq_s (z : Int32) (i : Nat) : yu (yzq z i) i (yzp (yzs z (i + 1))) = yzq z (i + 1) := by
  funext j
  by_cases e : j = i
  · subst e; rw [yu_s]; unfold yzq; rw [if_pos (by omega)]
  · rw [yu_n e]; unfold yzq
    by_cases h : j < i
    · rw [if_pos h, if_pos (by omega)]
    · rw [if_neg h, if_neg (by omega)]
def yzX (X : yX) (s : Nat) (z : Int32) (i : Nat) : yX := yss X s (gpS (yxs X s) (yzq z i))
theorem CW_gp {M : zM} {T : Nat → yT} {c s i : Nat} {v : Int32} {nm : Nat → Nat → Int32} {X : yX} (hC : CW M 94 94 99 95 T c nm X) (hs : s < 3) (hi : i < 12) : CW (zwi M (102 + 8 * s + 2 + 2) i v) 94 94 99 95 T c nm (yss X s (gpS (yxs X s) (yu (gp (yxs X s)) i v))) := by
  have hw := hC.2.1
  have hRs := hC.2.2.2.2.2.1 s hs
  have f : Fi (fun b _ => b = 102 + 8 * s + 4) M (zwi M (102 + 8 * s + 2 + 2) i v) := (Fi.refl _ M).wi rfl
  have f2 : Fi (FS (99 + 3 + 8 * s)) M (zwi M (102 + 8 * s + 2 + 2) i v) := f.mono (fun b _ q => FS_x (by omega) (by omega))
  refine hC.up (RW_sg hw hC.2.2.2.2 hs (RS_gp hRs (fun j hj => ?_) f) f2.fr) (OKW_ss hC.2.2.2.1 (OKS_pl (hC.2.2.2.1.2.2 s hs))) (f2.mono (Fb_m (by omega) (by omega)))
  show zi (zwi M (102 + 8 * s + 4) i v) (102 + 8 * s + 4) j = yu (gp (yxs X s)) i v j
  by_cases e : j = i
  · subst e; rw [wi_s, yu_s]
  · rw [wi_n (Or.inr e), yu_n e]
    exact (hRs.2.2.2.2.2 j hj).1
theorem CW_zs {M : zM} {T : Nat → yT} {c s i : Nat} {z : Int32} {nm : Nat → Nat → Int32} {X : yX} (hC : CW M 94 94 99 95 T c nm (yzX X s z i)) (hs : s < 3) (hi : i < 12) : CW (zwi M (102 + 8 * s + 2 + 2) i (yzp (yzs z (i + 1)))) 94 94 99 95 T c nm (yzX X s z (i + 1)) := by
  have h := CW_gp hC (v := yzp (yzs z (i + 1))) hs hi
  unfold yzX at h
  rw [yxs_s, yss_yss] at h
  have e : gpS (gpS (yxs X s) (yzq z i)) (yu (gp (gpS (yxs X s) (yzq z i))) i (yzp (yzs z (i + 1)))) = gpS (yxs X s) (yzq z (i + 1)) := by
    show gpS (yxs X s) (yu (yzq z i) i (yzp (yzs z (i + 1)))) = _
    rw [yzq_s]
  rw [e] at h
  exact h
theorem d107_0 : decode (zB 107) 0 = .ok (.aload_n 0, 1) := by decide +kernel
theorem d107_1 : decode (zB 107) 1 = .ok (.getfield 41, 3) := by decide +kernel
theorem d107_4 : decode (zB 107) 4 = .ok (.aload_n 0, 1) := by decide +kernel
theorem d107_5 : decode (zB 107) 5 = .ok (.getfield 37, 3) := by decide +kernel
theorem d107_8 : decode (zB 107) 8 = .ok (.invokevirtual 227, 3) := by decide +kernel
theorem d107_11 : decode (zB 107) 11 = .ok (.aload_n 0, 1) := by decide +kernel
theorem d107_12 : decode (zB 107) 12 = .ok (.getfield 41, 3) := by decide +kernel
theorem d107_15 : decode (zB 107) 15 = .ok (.invokevirtual 321, 3) := by decide +kernel
theorem d107_18 : decode (zB 107) 18 = .ok (.aload_n 0, 1) := by decide +kernel
theorem d107_19 : decode (zB 107) 19 = .ok (.getfield 41, 3) := by decide +kernel
theorem d107_22 : decode (zB 107) 22 = .ok (.getfield 144, 3) := by decide +kernel
theorem d107_25 : decode (zB 107) 25 = .ok (.iload_n 1, 1) := by decide +kernel
theorem d107_26 : decode (zB 107) 26 = .ok (.aaload, 1) := by decide +kernel
theorem d107_27 : decode (zB 107) 27 = .ok (.astore_n 3, 1) := by decide +kernel
theorem d107_28 : decode (zB 107) 28 = .ok (.iload_n 2, 1) := by decide +kernel
theorem d107_29 : decode (zB 107) 29 = .ok (.istore 4, 2) := by decide +kernel
theorem d107_31 : decode (zB 107) 31 = .ok (.iconst 0, 1) := by decide +kernel
theorem d107_32 : decode (zB 107) 32 = .ok (.istore 5, 2) := by decide +kernel
theorem d107_34 : decode (zB 107) 34 = .ok (.iload 5, 2) := by decide +kernel
theorem d107_36 : decode (zB 107) 36 = .ok (.aload_n 3, 1) := by decide +kernel
theorem d107_37 : decode (zB 107) 37 = .ok (.invokevirtual 324, 3) := by decide +kernel
theorem d107_40 : decode (zB 107) 40 = .ok (.if_icmp .ge 43, 3) := by decide +kernel
theorem d107_43 : decode (zB 107) 43 = .ok (.iload 4, 2) := by decide +kernel
theorem d107_45 : decode (zB 107) 45 = .ok (.ldc_w 326, 3) := by decide +kernel
theorem d107_48 : decode (zB 107) 48 = .ok (.imul, 1) := by decide +kernel
theorem d107_49 : decode (zB 107) 49 = .ok (.sipush 12345, 3) := by decide +kernel
theorem d107_52 : decode (zB 107) 52 = .ok (.iadd, 1) := by decide +kernel
theorem d107_53 : decode (zB 107) 53 = .ok (.istore 4, 2) := by decide +kernel
theorem d107_55 : decode (zB 107) 55 = .ok (.aload_n 3, 1) := by decide +kernel
theorem d107_56 : decode (zB 107) 56 = .ok (.getfield 169, 3) := by decide +kernel
theorem d107_59 : decode (zB 107) 59 = .ok (.iload 5, 2) := by decide +kernel
theorem d107_61 : decode (zB 107) 61 = .ok (.iload 4, 2) := by decide +kernel
theorem d107_63 : decode (zB 107) 63 = .ok (.bipush 9, 2) := by decide +kernel
theorem d107_65 : decode (zB 107) 65 = .ok (.iushr, 1) := by decide +kernel
theorem d107_66 : decode (zB 107) 66 = .ok (.iconst 4, 1) := by decide +kernel
theorem d107_67 : decode (zB 107) 67 = .ok (.irem, 1) := by decide +kernel
theorem d107_68 : decode (zB 107) 68 = .ok (.ifCond .ne 7, 3) := by decide +kernel
theorem d107_71 : decode (zB 107) 71 = .ok (.iconst 1, 1) := by decide +kernel
theorem d107_72 : decode (zB 107) 72 = .ok (.goto 4, 3) := by decide +kernel
theorem d107_75 : decode (zB 107) 75 = .ok (.iconst 0, 1) := by decide +kernel
theorem d107_76 : decode (zB 107) 76 = .ok (.iastore, 1) := by decide +kernel
theorem d107_77 : decode (zB 107) 77 = .ok (.iinc 5 1, 3) := by decide +kernel
theorem d107_80 : decode (zB 107) 80 = .ok (.goto (-46), 3) := by decide +kernel
theorem d107_83 : decode (zB 107) 83 = .ok (.iconst 0, 1) := by decide +kernel
theorem d107_84 : decode (zB 107) 84 = .ok (.istore 5, 2) := by decide +kernel
theorem d107_86 : decode (zB 107) 86 = .ok (.iload 5, 2) := by decide +kernel
theorem d107_88 : decode (zB 107) 88 = .ok (.bipush 40, 2) := by decide +kernel
theorem d107_90 : decode (zB 107) 90 = .ok (.if_icmp .ge 16, 3) := by decide +kernel
theorem d107_93 : decode (zB 107) 93 = .ok (.aload_n 0, 1) := by decide +kernel
theorem d107_94 : decode (zB 107) 94 = .ok (.getfield 41, 3) := by decide +kernel
theorem d107_97 : decode (zB 107) 97 = .ok (.invokevirtual 175, 3) := by decide +kernel
theorem d107_100 : decode (zB 107) 100 = .ok (.iinc 5 1, 3) := by decide +kernel
theorem d107_103 : decode (zB 107) 103 = .ok (.goto (-17), 3) := by decide +kernel
theorem d107_106 : decode (zB 107) 106 = .ok (.aload_n 3, 1) := by decide +kernel
theorem d107_107 : decode (zB 107) 107 = .ok (.getfield 166, 3) := by decide +kernel
theorem d107_110 : decode (zB 107) 110 = .ok (.ireturn, 1) := by decide +kernel
theorem l107b {d : Nat} {Q : Option Value → zM → Prop} {D : yD} {M0 : zM} {s : Nat} {z v : Int32} {nm : Nat → Nat → Int32} {XF : yX} (hR : RC M0 D) (hs : s < 3) (k : gt (yxs XF s) ≤ 5 → ∀ M', RC M' D → Fc M0 M' → Q (some (.int (nI (gt (yxs XF s))))) M') : ∀ (r i : Nat) (M1 : zM) (X1 : yX), i ≤ 40 → 40 < i + r →  CW M1 94 94 99 95 (dT D) (dc D) nm X1 → Fr (FW 94) M0 M1 → ytn (dT D) nm (40 - i) X1 = XF → qW (zEv (d + 5)) 107 Q 86 [(5, .int (nI i)), (4, .int v), (3, .ref (102 + 8 * s)), (0, .ref 16), (1, .int (nI s)), (2, .int z)] [] M1 := by
  intro r
  induction r with
  | zero => intros; omega
  | succ r ih =>
    intro i M1 X1 h1 h2 hC1 hF hy
    have hsghC1 : SSg M1 (102 + 8 * s) := hC1.1.sg (by unfold zSa; omega)
    refine q_iload d107_86 rfl ?_
    refine q_bipush (x := nI 40) d107_88 rfl ?_
    refine nc_ge 106 d107_90 (by decide) (by omega) (by omega) (fun h90 => ?_) (fun h90 => ?_)
    · refine q_aload_n d107_106 rfl ?_
      refine q_getv (c := 5) (f := 0) d107_107 ⟨rfl, by decide⟩ hsghC1.1 (hC1.2.2.2.2.2.1 s (by omega)).1.1 ?_
      refine q_iret d107_110 rfl ?_
      have e : X1 = XF := by rw [show 40 - i = 0 by omega] at hy; exact hy
      subst e
      exact k (hC1.2.2.2.1.2.2 s hs).1 _ (hR.th hC1.1 hF).1 (hR.th hC1.1 hF).2
    · refine q_aload_n d107_93 rfl ?_
      refine q_getr (c := 7) (f := 5) d107_94 ⟨rfl, rfl⟩ (hC1.1.1.1) (hC1.1.1.2.2.2.2.2.2.2.1) ?_
      refine q_v0 d107_97 rfl rfl (hC1.1.wo (Or.inr ⟨rfl, rfl, rfl, rfl⟩)).1 (Nat.le_of_ble_eq_true rfl) (c69 hC1 hC1.l0 (fun M2 hC2 f2 => ?_))
      refine n_iinc 1 d107_100 (by decide) rfl rfl ?_
      refine q_goto 86 d107_103 (by decide) ?_
      exact ih (i + 1) _ _ (by omega) (by omega) hC2 (hF.trans f2.fr) (by rw [show 40 - i = (40 - (i + 1)) + 1 by omega, ytn] at hy; exact hy)
theorem l107a {d : Nat} {Q : Option Value → zM → Prop} {D : yD} {M0 : zM} {s : Nat} {z : Int32} {nm : Nat → Nat → Int32} (hR : RC M0 D) (hO : OKW (dT D) (dc D) (dW D)) (hs : s < 3) (h0 : gt (dS D s) ≠ 0) (k : gt (yxs (ytn (dT D) nm 40 (yzX (ydp 3 (dW D, none)) s z (tn (dT D (gx (dS D s)))))) s) ≤ 5 → ∀ M', RC M' D → Fc M0 M' → Q (some (.int (nI (gt (yxs (ytn (dT D) nm 40 (yzX (ydp 3 (dW D, none)) s z (tn (dT D (gx (dS D s)))))) s))))) M') : ∀ (r i : Nat) (M1 : zM), i ≤ tn (dT D (gx (dS D s))) → tn (dT D (gx (dS D s))) < i + r →  CW M1 94 94 99 95 (dT D) (dc D) nm (yzX (ydp 3 (dW D, none)) s z i) → Fr (FW 94) M0 M1 → qW (zEv (d + 5)) 107 Q 34 [(5, .int (nI i)), (4, .int (yzs z i)), (3, .ref (102 + 8 * s)), (0, .ref 16), (1, .int (nI s)), (2, .int z)] [] M1 := by
  intro r
  induction r with
  | zero => intros; omega
  | succ r ih =>
    intro i M1 h1 h2 hC1 hF
    have hsghC1 : SSg M1 (102 + 8 * s) := hC1.1.sg (by unfold zSa; omega)
    have hgx : gx (dS D s) < dc D := (hO.2.2 s hs).2.1 h0
    have hn := (hO.1.2 _ hgx).n
    have hc6 := hO.1.1
    have e1 : yxs (yzX (ydp 3 (dW D, none)) s z i) s = gpS (ydr (dS D s)) (yzq z i) := by
      unfold yzX
      rw [yxs_s]
      show gpS (if s < 3 then ydr ((dW D).2 s) else (dW D).2 s) (yzq z i) = _
      rw [if_pos hs]; rfl
    have q2 : zr M1 (102 + 8 * s) 2 = some (20 + 7 * gx (dS D s)) := by
      have h := (hC1.2.2.2.2.2.1 s hs).1.2.2
      have h : zr M1 (102 + 8 * s) 2 = prg (yxs (yzX (ydp 3 (dW D, none)) s z i) s) := h
      rw [h, e1]
      exact if_neg h0
    refine q_iload d107_34 rfl ?_
    refine q_aload_n d107_36 rfl ?_
    refine q_v0 d107_37 rfl rfl hsghC1.1 (Nat.le_of_ble_eq_true rfl) (c109 hsghC1 q2 (hC1.1.pr (by omega)) (hC1.2.2.1 _ hgx) ?_)
    refine nc_ge 83 d107_40 (by decide) (by omega) (by omega) (fun h40 => ?_) (fun h40 => ?_)
    · refine q_iconstN (z := 0) d107_83 ?_
      refine q_istore d107_84 (by decide) rfl ?_
      have ei : i = tn (dT D (gx (dS D s))) := by omega
      subst ei
      exact l107b (nm := nm) hR hs k 41 0 M1 _ (by omega) (by omega) hC1 hF rfl
    · refine q_iload d107_43 rfl ?_
      refine q_ldc_w d107_45 rfl ?_
      refine q_imul d107_48 ?_
      refine q_sipush (x := (12345)) d107_49 rfl ?_
      refine q_iadd d107_52 ?_
      refine q_istore d107_53 (by decide) rfl ?_
      refine q_aload_n d107_55 rfl ?_
      refine q_getr (c := 5) (f := 10) d107_56 ⟨rfl, rfl⟩ hsghC1.1 (hsghC1.2.2.1 2 (by decide)) ?_
      refine q_iload d107_59 rfl ?_
      refine q_iload d107_61 rfl ?_
      refine q_bipush (x := nI 9) d107_63 rfl ?_
      refine q_iushr d107_65 ?_
      refine q_iconstN (z := 4) d107_66 ?_
      refine q_irem d107_67 (by decide) ?_
      refine i0_ne 75 d107_68 (by decide) (fun h68 => ?_) (fun h68 => ?_)
      · refine q_iconstN (z := 0) d107_75 ?_
        refine n_iast d107_76 (hsghC1.2.2.2 3 (by decide)) (by omega) (by decide) ?_
        refine n_iinc 1 d107_77 (by decide) rfl rfl ?_
        refine q_goto 34 d107_80 (by decide) ?_
        exact ih (i + 1) _ (by omega) (by omega) (by have h := CW_zs (z := z) hC1 hs (by omega); rw [show yzp (yzs z (i + 1)) = nI 0 from if_neg h68] at h; exact h) (hF.trans ((Fr.refl _ _).wi (by constructor <;> omega)))
      · refine q_iconstN (z := 1) d107_71 ?_
        refine q_goto 76 d107_72 (by decide) ?_
        refine n_iast d107_76 (hsghC1.2.2.2 3 (by decide)) (by omega) (by decide) ?_
        refine n_iinc 1 d107_77 (by decide) rfl rfl ?_
        refine q_goto 34 d107_80 (by decide) ?_
        exact ih (i + 1) _ (by omega) (by omega) (by have h := CW_zs (z := z) hC1 hs (by omega); rw [show yzp (yzs z (i + 1)) = nI 1 from if_pos h68] at h; exact h) (hF.trans ((Fr.refl _ _).wi (by constructor <;> omega)))
theorem c107 {d : Nat} {M : zM} {Q : Option Value → zM → Prop} {D : yD} {s : Nat} {z : Int32} (hR : RC M D) (hs : s < 3) (h0 : gt (dS D s) ≠ 0) (k : ydn D s z ≤ 5 → ∀ M', RC M' D → Fc M M' → Q (some (.int (nI (ydn D s z)))) M') : qC (d + 6) 107 [.ref 16, .int (nI s), .int z] M Q := by
  refine qC_of (by decide) (Nat.le_of_ble_eq_true rfl) ?_
  have hS := hR.1.1
  have hT := hR.1.2.2.1
  have hO := hR.1.2.2.2.1
  have hRW := hR.1.2.2.2.2
  have hJ : RL M 62 (dL D) := hRW.2.2.2
  have hc6 := hO.1.1
  have h120 := hR.2.2.1.1
  have hwr := hS.wo (Or.inl ⟨rfl, rfl, rfl, rfl⟩)
  have hwt := hS.wo (Or.inr ⟨rfl, rfl, rfl, rfl⟩)
  have hpr := hS.pu (Or.inl ⟨rfl, rfl, rfl, rfl⟩)
  have hpt := hS.pu (Or.inr ⟨rfl, rfl, rfl, rfl⟩)
  have hsg : SSg M (70 + 8 * s) := hS.sg (by unfold zSa; omega)
  have hg0 : zi M (70 + 8 * s) 0 = nI (gt (dS D s)) := (hRW.2.1 s hs).1.1
  have k : gt (yxs (ytn (dT D) (dnm D) 40 (yzX (ydp 3 (dW D, none)) s z (tn (dT D (gx (dS D s)))))) s) ≤ 5 → ∀ M', RC M' D → Fc M M' → Q (some (.int (nI (gt (yxs (ytn (dT D) (dnm D) 40 (yzX (ydp 3 (dW D, none)) s z (tn (dT D (gx (dS D s)))))) s))))) M' := k
  refine q_aload_n d107_0 rfl ?_
  refine q_getr (c := 7) (f := 5) d107_1 ⟨rfl, rfl⟩ (hS.1.1) (hS.1.2.2.2.2.2.2.2.1) ?_
  refine q_aload_n d107_4 rfl ?_
  refine q_getr (c := 7) (f := 4) d107_5 ⟨rfl, rfl⟩ (hS.1.1) (hS.1.2.2.2.2.2.2.1) ?_
  refine q_v1 d107_8 rfl rfl hwt.1 (Nat.le_of_ble_eq_true rfl) (c101 (nm := dnm D) (X := dX D) hR.1 (fun M1 hC1 f1 => ?_))
  refine q_aload_n d107_11 rfl ?_
  refine q_getr (c := 7) (f := 5) d107_12 ⟨rfl, rfl⟩ (hC1.1.1.1) (hC1.1.1.2.2.2.2.2.2.2.1) ?_
  refine q_v0 d107_15 rfl rfl (hC1.1.wo (Or.inr ⟨rfl, rfl, rfl, rfl⟩)).1 (Nat.le_of_ble_eq_true rfl) (c108 hC1 (fun M2 hC2 f2 => ?_))
  have hsghC2 : SSg M2 (102 + 8 * s) := hC2.1.sg (by unfold zSa; omega)
  have e0 : yzX (ydp 3 (dW D, none)) s z 0 = ydp 3 (dW D, none) := by
    have e1 : gpS (yxs (ydp 3 (dW D, none)) s) (yzq z 0) = yxs (ydp 3 (dW D, none)) s := by
      show gpS (if s < 3 then ydr ((dW D).2 s) else (dW D).2 s) (fun _ => 0) = (if s < 3 then ydr ((dW D).2 s) else (dW D).2 s)
      rw [if_pos hs]; rfl
    unfold yzX
    rw [e1, yss_id]
  refine q_aload_n d107_18 rfl ?_
  refine q_getr (c := 7) (f := 5) d107_19 ⟨rfl, rfl⟩ (hC2.1.1.1) (hC2.1.1.2.2.2.2.2.2.2.1) ?_
  refine q_getr (c := 6) (f := 3) d107_22 ⟨rfl, rfl⟩ (hC2.1.wo (Or.inr ⟨rfl, rfl, rfl, rfl⟩)).1 (hC2.1.wo (Or.inr ⟨rfl, rfl, rfl, rfl⟩)).2.2.2.2.1 ?_
  refine q_iload_n d107_25 rfl ?_
  refine n_aald d107_26 (hC2.1.wo (Or.inr ⟨rfl, rfl, rfl, rfl⟩)).2.2.2.2.2.1 (by decide) (by omega) (by decide) ((hC2.1.wo (Or.inr ⟨rfl, rfl, rfl, rfl⟩)).2.2.2.2.2.2 _ (by omega)) ?_
  refine q_astore_n d107_27 (by decide) rfl ?_
  refine q_iload_n d107_28 rfl ?_
  refine q_istore d107_29 (by decide) rfl ?_
  refine q_iconstN (z := 0) d107_31 ?_
  refine q_istore d107_32 (by decide) rfl ?_
  exact l107a (nm := dnm D) hR hO hs h0 k (tn (dT D (gx (dS D s))) + 1) 0 M2 (Nat.zero_le _) (by omega) (by rw [e0]; exact hC2) ((f1.mono (fun b q e => ⟨by have := e.1; omega, by have := e.2; omega⟩)).trans f2.fr)
theorem d106_0 : decode (zB 106) 0 = .ok (.iload_n 1, 1) := by decide +kernel
theorem d106_1 : decode (zB 106) 1 = .ok (.invokestatic 141, 3) := by decide +kernel
theorem d106_4 : decode (zB 106) 4 = .ok (.ifCond .ne 6, 3) := by decide +kernel
theorem d106_7 : decode (zB 106) 7 = .ok (.bipush (-2), 2) := by decide +kernel
theorem d106_9 : decode (zB 106) 9 = .ok (.ireturn, 1) := by decide +kernel
theorem d106_10 : decode (zB 106) 10 = .ok (.aload_n 0, 1) := by decide +kernel
theorem d106_11 : decode (zB 106) 11 = .ok (.getfield 37, 3) := by decide +kernel
theorem d106_14 : decode (zB 106) 14 = .ok (.getfield 144, 3) := by decide +kernel
theorem d106_17 : decode (zB 106) 17 = .ok (.iload_n 1, 1) := by decide +kernel
theorem d106_18 : decode (zB 106) 18 = .ok (.aaload, 1) := by decide +kernel
theorem d106_19 : decode (zB 106) 19 = .ok (.getfield 166, 3) := by decide +kernel
theorem d106_22 : decode (zB 106) 22 = .ok (.ifCond .ne 8, 3) := by decide +kernel
theorem d106_25 : decode (zB 106) 25 = .ok (.bipush (-3), 2) := by decide +kernel
theorem d106_27 : decode (zB 106) 27 = .ok (.goto 9, 3) := by decide +kernel
theorem d106_30 : decode (zB 106) 30 = .ok (.aload_n 0, 1) := by decide +kernel
theorem d106_31 : decode (zB 106) 31 = .ok (.iload_n 1, 1) := by decide +kernel
theorem d106_32 : decode (zB 106) 32 = .ok (.iload_n 2, 1) := by decide +kernel
theorem d106_33 : decode (zB 106) 33 = .ok (.invokevirtual 238, 3) := by decide +kernel
theorem d106_36 : decode (zB 106) 36 = .ok (.ireturn, 1) := by decide +kernel
theorem p106 {d : Nat} {M : zM} {Q : Option Value → zM → Prop} {D : yD} {x z : Int32} (hR : RC M D) (hD : OKD D) (k : ∀ M', RC M' D → Fc M M' → Q (some (.int (sDrawn D x z))) M') : qC (d + 7) 106 [.ref 16, .int x, .int z] M Q := by
  refine qC_of (by decide) (Nat.le_of_ble_eq_true rfl) ?_
  have hS := hR.1.1
  have hT := hR.1.2.2.1
  have hO := hR.1.2.2.2.1
  have hRW := hR.1.2.2.2.2
  have hJ : RL M 62 (dL D) := hRW.2.2.2
  have hc6 := hO.1.1
  have h240 := hD.2.1
  have h120 := hR.2.2.1.1
  have hwr := hS.wo (Or.inl ⟨rfl, rfl, rfl, rfl⟩)
  have hwt := hS.wo (Or.inr ⟨rfl, rfl, rfl, rfl⟩)
  have hpr := hS.pu (Or.inl ⟨rfl, rfl, rfl, rfl⟩)
  have hpt := hS.pu (Or.inr ⟨rfl, rfl, rfl, rfl⟩)
  unfold sDrawn at k
  rcases zix_c x (n := 3) (by omega) with ⟨s, hs, rfl, es⟩ | ⟨es, ns⟩
  · rw [oz_s es] at k
    have hsg : SSg M (70 + 8 * s) := hS.sg (by unfold zSa; omega)
    have hg0 : zi M (70 + 8 * s) 0 = nI (gt (dS D s)) := (hRW.2.1 s hs).1.1
    have hg5 : gt (dS D s) ≤ 5 := (hO.2.2 s hs).1
    by_cases h0 : gt (dS D s) = 0
    · rw [if_pos h0] at k
      refine q_iload_n d106_0 rfl ?_
      refine q_s1 d106_1 (Or.inl rfl) rfl (Nat.le_of_ble_eq_true rfl) (c60t (by omega) ?_)
      refine n0_ne 10 d106_4 (by decide) (by decide) (fun _ => ?_) (fun q => absurd q (by decide))
      refine q_aload_n d106_10 rfl ?_
      refine q_getr (c := 7) (f := 4) d106_11 ⟨rfl, rfl⟩ (hS.1.1) (hS.1.2.2.2.2.2.2.1) ?_
      refine q_getr (c := 6) (f := 3) d106_14 ⟨rfl, rfl⟩ hwr.1 hwr.2.2.2.2.1 ?_
      refine q_iload_n d106_17 rfl ?_
      refine n_aald d106_18 hwr.2.2.2.2.2.1 (by decide) (by omega) (by decide) (hwr.2.2.2.2.2.2 _ (by omega)) ?_
      refine q_getv (c := 5) (f := 0) d106_19 ⟨rfl, by decide⟩ hsg.1 hg0 ?_
      refine n0_ne 30 d106_22 (by decide) (by omega) (fun h22 => (False.elim (h22 h0))) (fun h22 => ?_)
      refine q_bipush (x := (-3)) d106_25 rfl ?_
      refine q_goto 36 d106_27 (by decide) ?_
      refine q_iret d106_36 rfl ?_
      exact k _ hR (Fc.refl _)
    · rw [if_neg h0] at k
      refine q_iload_n d106_0 rfl ?_
      refine q_s1 d106_1 (Or.inl rfl) rfl (Nat.le_of_ble_eq_true rfl) (c60t (by omega) ?_)
      refine n0_ne 10 d106_4 (by decide) (by decide) (fun _ => ?_) (fun q => absurd q (by decide))
      refine q_aload_n d106_10 rfl ?_
      refine q_getr (c := 7) (f := 4) d106_11 ⟨rfl, rfl⟩ (hS.1.1) (hS.1.2.2.2.2.2.2.1) ?_
      refine q_getr (c := 6) (f := 3) d106_14 ⟨rfl, rfl⟩ hwr.1 hwr.2.2.2.2.1 ?_
      refine q_iload_n d106_17 rfl ?_
      refine n_aald d106_18 hwr.2.2.2.2.2.1 (by decide) (by omega) (by decide) (hwr.2.2.2.2.2.2 _ (by omega)) ?_
      refine q_getv (c := 5) (f := 0) d106_19 ⟨rfl, by decide⟩ hsg.1 hg0 ?_
      refine n0_ne 30 d106_22 (by decide) (by omega) (fun h22 => ?_) (fun h22 => (False.elim (h0 h22)))
      refine q_aload_n d106_30 rfl ?_
      refine q_iload_n d106_31 rfl ?_
      refine q_iload_n d106_32 rfl ?_
      refine q_v2 d106_33 rfl rfl (hS.1.1) (Nat.le_of_ble_eq_true rfl) (c107 hR hs h0 (fun hy5 M1 hR1 g1 => ?_))
      refine q_iret d106_36 rfl ?_
      exact k _ hR1 g1
  · rw [oz_n es] at k
    refine q_iload_n d106_0 rfl ?_
    refine q_s1 d106_1 (Or.inl rfl) rfl (Nat.le_of_ble_eq_true rfl) (c60f es ?_)
    refine n0_ne 10 d106_4 (by decide) (by decide) (fun q => absurd q (by decide)) (fun _ => ?_)
    refine q_bipush (x := (-2)) d106_7 rfl ?_
    refine q_iret d106_9 rfl ?_
    exact k _ hR (Fc.refl _)
