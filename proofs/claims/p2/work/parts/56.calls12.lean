/-! ===== the calls of the class: chance, and what was told ===== -/
theorem ycn_le (D : yD) (s : Nat) (z : Int32) : ∀ i, ycn D s z i ≤ i
  | 0 => Nat.le_refl _
  | i + 1 => by
    have := ycn_le D s z i
    show ycn D s z i + (if ydn D s (z + nI i) = 3 then 1 else 0) ≤ i + 1
    split <;> omega
theorem ycn_t {D : yD} {s i : Nat} {z : Int32} (h : ydn D s (z + nI i) = 3) : ycn D s z (i + 1) = ycn D s z i + 1 := by
  show ycn D s z i + (if ydn D s (z + nI i) = 3 then 1 else 0) = _
  rw [if_pos h]
theorem ycn_f {D : yD} {s i : Nat} {z : Int32} (h : ¬ ydn D s (z + nI i) = 3) : ycn D s z (i + 1) = ycn D s z i := by
  show ycn D s z i + (if ydn D s (z + nI i) = 3 then 1 else 0) = _
  rw [if_neg h]; rfl
theorem c10fm {d : Nat} {M : zM} {Q : Option Value → zM → Prop} {x : Int32} (h : zix x 21 = none) (k : Q (some (.int (nI 0))) M) : qC (d + 1) 10 [.int x, .int (nI 1), .int (nI 20)] M Q := c10f (by decide) (by have := zix_none h; omega) (by decide) k
theorem d110_0 : decode (zB 110) 0 = .ok (.iload_n 1, 1) := by decide +kernel
theorem d110_1 : decode (zB 110) 1 = .ok (.invokestatic 141, 3) := by decide +kernel
theorem d110_4 : decode (zB 110) 4 = .ok (.ifCond .eq 23, 3) := by decide +kernel
theorem d110_7 : decode (zB 110) 7 = .ok (.iload_n 3, 1) := by decide +kernel
theorem d110_8 : decode (zB 110) 8 = .ok (.iconst 1, 1) := by decide +kernel
theorem d110_9 : decode (zB 110) 9 = .ok (.bipush 20, 2) := by decide +kernel
theorem d110_11 : decode (zB 110) 11 = .ok (.invokestatic 55, 3) := by decide +kernel
theorem d110_14 : decode (zB 110) 14 = .ok (.ifCond .eq 13, 3) := by decide +kernel
theorem d110_17 : decode (zB 110) 17 = .ok (.iload 4, 2) := by decide +kernel
theorem d110_19 : decode (zB 110) 19 = .ok (.iconst 0, 1) := by decide +kernel
theorem d110_20 : decode (zB 110) 20 = .ok (.iconst 1, 1) := by decide +kernel
theorem d110_21 : decode (zB 110) 21 = .ok (.invokestatic 55, 3) := by decide +kernel
theorem d110_24 : decode (zB 110) 24 = .ok (.ifCond .ne 6, 3) := by decide +kernel
theorem d110_27 : decode (zB 110) 27 = .ok (.bipush (-2), 2) := by decide +kernel
theorem d110_29 : decode (zB 110) 29 = .ok (.ireturn, 1) := by decide +kernel
theorem d110_30 : decode (zB 110) 30 = .ok (.aload_n 0, 1) := by decide +kernel
theorem d110_31 : decode (zB 110) 31 = .ok (.getfield 37, 3) := by decide +kernel
theorem d110_34 : decode (zB 110) 34 = .ok (.getfield 144, 3) := by decide +kernel
theorem d110_37 : decode (zB 110) 37 = .ok (.iload_n 1, 1) := by decide +kernel
theorem d110_38 : decode (zB 110) 38 = .ok (.aaload, 1) := by decide +kernel
theorem d110_39 : decode (zB 110) 39 = .ok (.getfield 166, 3) := by decide +kernel
theorem d110_42 : decode (zB 110) 42 = .ok (.ifCond .ne 6, 3) := by decide +kernel
theorem d110_45 : decode (zB 110) 45 = .ok (.bipush (-3), 2) := by decide +kernel
theorem d110_47 : decode (zB 110) 47 = .ok (.ireturn, 1) := by decide +kernel
theorem d110_48 : decode (zB 110) 48 = .ok (.iconst 0, 1) := by decide +kernel
theorem d110_49 : decode (zB 110) 49 = .ok (.istore 5, 2) := by decide +kernel
theorem d110_51 : decode (zB 110) 51 = .ok (.iconst 0, 1) := by decide +kernel
theorem d110_52 : decode (zB 110) 52 = .ok (.istore 6, 2) := by decide +kernel
theorem d110_54 : decode (zB 110) 54 = .ok (.iload 6, 2) := by decide +kernel
theorem d110_56 : decode (zB 110) 56 = .ok (.iload_n 3, 1) := by decide +kernel
theorem d110_57 : decode (zB 110) 57 = .ok (.if_icmp .ge 25, 3) := by decide +kernel
theorem d110_60 : decode (zB 110) 60 = .ok (.aload_n 0, 1) := by decide +kernel
theorem d110_61 : decode (zB 110) 61 = .ok (.iload_n 1, 1) := by decide +kernel
theorem d110_62 : decode (zB 110) 62 = .ok (.iload_n 2, 1) := by decide +kernel
theorem d110_63 : decode (zB 110) 63 = .ok (.iload 6, 2) := by decide +kernel
theorem d110_65 : decode (zB 110) 65 = .ok (.iadd, 1) := by decide +kernel
theorem d110_66 : decode (zB 110) 66 = .ok (.invokevirtual 238, 3) := by decide +kernel
theorem d110_69 : decode (zB 110) 69 = .ok (.iconst 3, 1) := by decide +kernel
theorem d110_70 : decode (zB 110) 70 = .ok (.if_icmp .ne 6, 3) := by decide +kernel
theorem d110_73 : decode (zB 110) 73 = .ok (.iinc 5 1, 3) := by decide +kernel
theorem d110_76 : decode (zB 110) 76 = .ok (.iinc 6 1, 3) := by decide +kernel
theorem d110_79 : decode (zB 110) 79 = .ok (.goto (-25), 3) := by decide +kernel
theorem d110_82 : decode (zB 110) 82 = .ok (.iload 5, 2) := by decide +kernel
theorem d110_84 : decode (zB 110) 84 = .ok (.iload_n 3, 1) := by decide +kernel
theorem d110_85 : decode (zB 110) 85 = .ok (.invokestatic 242, 3) := by decide +kernel
theorem d110_88 : decode (zB 110) 88 = .ok (.istore 6, 2) := by decide +kernel
theorem d110_90 : decode (zB 110) 90 = .ok (.iload 4, 2) := by decide +kernel
theorem d110_92 : decode (zB 110) 92 = .ok (.ifCond .ne 8, 3) := by decide +kernel
theorem d110_95 : decode (zB 110) 95 = .ok (.iload 5, 2) := by decide +kernel
theorem d110_97 : decode (zB 110) 97 = .ok (.goto 4, 3) := by decide +kernel
theorem d110_100 : decode (zB 110) 100 = .ok (.iload_n 3, 1) := by decide +kernel
theorem d110_101 : decode (zB 110) 101 = .ok (.iload 6, 2) := by decide +kernel
theorem d110_103 : decode (zB 110) 103 = .ok (.idiv, 1) := by decide +kernel
theorem d110_104 : decode (zB 110) 104 = .ok (.ireturn, 1) := by decide +kernel
theorem l110 {d : Nat} {Q : Option Value → zM → Prop} {D : yD} {M0 : zM} {s m w : Nat} {z : Int32} (hs : s < 3) (h0 : gt (dS D s) ≠ 0) (hm0 : 0 < m) (hm : m < 21) (hw : w < 2) (k : ∀ M', RC M' D → Fc M0 M' → Q (some (.int (if w = 0 then nI (ycn D s z m / Nat.gcd (ycn D s z m) m) else nI (m / Nat.gcd (ycn D s z m) m)))) M') : ∀ (r i : Nat) (M1 : zM), i ≤ m → m < i + r →  RC M1 D → Fc M0 M1 → qW (zEv (d + 6)) 110 Q 54 [(6, .int (nI i)), (5, .int (nI (ycn D s z i))), (0, .ref 16), (1, .int (nI s)), (2, .int z), (3, .int (nI m)), (4, .int (nI w))] [] M1 := by
  intro r
  induction r with
  | zero => intros; omega
  | succ r ih =>
    intro i M1 h1 h2 hR1 hF
    have hcl := ycn_le D s z i
    refine q_iload d110_54 rfl ?_
    refine q_iload_n d110_56 rfl ?_
    refine nc_ge 82 d110_57 (by decide) (by omega) (by omega) (fun h57 => ?_) (fun h57 => ?_)
    · have ei : i = m := by omega
      have hg1 := Nat.gcd_pos_of_pos_right (ycn D s z i) hm0
      have hg2 := Nat.le_of_dvd hm0 (Nat.gcd_dvd_right (ycn D s z i) m)
      refine q_iload d110_82 rfl ?_
      refine q_iload_n d110_84 rfl ?_
      refine q_s2 d110_85 (Or.inl rfl) rfl (Nat.le_of_ble_eq_true rfl) (c111 (by omega) hm0 (by omega) ?_)
      refine q_istore d110_88 (by decide) rfl ?_
      refine q_iload d110_90 rfl ?_
      refine n0_ne 100 d110_92 (by decide) (by omega) (fun h92 => ?_) (fun h92 => ?_)
      · refine q_iload_n d110_100 rfl ?_
        refine q_iload d110_101 rfl ?_
        refine n_idiv d110_103 (by omega) (by omega) (by omega) ?_
        refine q_iret d110_104 rfl ?_
        have h := k _ hR1 hF
        rw [if_neg h92] at h
        rw [ei]
        exact h
      · refine q_iload d110_95 rfl ?_
        refine q_goto 101 d110_97 (by decide) ?_
        refine q_iload d110_101 rfl ?_
        refine n_idiv d110_103 (by omega) (by omega) (by omega) ?_
        refine q_iret d110_104 rfl ?_
        have h := k _ hR1 hF
        rw [if_pos h92] at h
        rw [ei]
        exact h
    · refine q_aload_n d110_60 rfl ?_
      refine q_iload_n d110_61 rfl ?_
      refine q_iload_n d110_62 rfl ?_
      refine q_iload d110_63 rfl ?_
      refine q_iadd d110_65 ?_
      refine q_v2 d110_66 rfl rfl hR1.1.1.1.1 (Nat.le_of_ble_eq_true rfl) (c107 hR1 hs h0 (fun hy5 M2 hR2 g2 => ?_))
      refine q_iconstN (z := 3) d110_69 ?_
      refine nc_ne 76 d110_70 (by decide) (by omega) (by omega) (fun h70 => ?_) (fun h70 => ?_)
      · refine n_iinc 1 d110_76 (by decide) rfl rfl ?_
        refine q_goto 54 d110_79 (by decide) ?_
        rw [← ycn_f h70]
        exact ih (i + 1) _ (by omega) (by omega) hR2 (hF.trans g2)
      · refine n_iinc 1 d110_73 (by decide) rfl rfl ?_
        refine n_iinc 1 d110_76 (by decide) rfl rfl ?_
        refine q_goto 54 d110_79 (by decide) ?_
        rw [← ycn_t h70]
        exact ih (i + 1) _ (by omega) (by omega) hR2 (hF.trans g2)
theorem p110 {d : Nat} {M : zM} {Q : Option Value → zM → Prop} {D : yD} {x z y w : Int32} (hR : RC M D) (hD : OKD D) (k : ∀ M', RC M' D → Fc M M' → Q (some (.int (sChance D x z y w))) M') : qC (d + 7) 110 [.ref 16, .int x, .int z, .int y, .int w] M Q := by
  refine qC_of (by decide) (Nat.le_of_ble_eq_true rfl) ?_
  have hS := hR.1.1
  have hT := hR.1.2.2.1
  have hO := hR.1.2.2.2.1
  have hRW := hR.1.2.2.2.2
  have hJ : RL M 62 (dL D) := hRW.2.2.2
  have hc6 := hO.1.1
  have h240 := hD.2.1
  have h120 := hR.2.2.1.1
  have hwr := hS.wo (Or.inl ⟨rfl, rfl, rfl, rfl⟩)
  have hwt := hS.wo (Or.inr ⟨rfl, rfl, rfl, rfl⟩)
  have hpr := hS.pu (Or.inl ⟨rfl, rfl, rfl, rfl⟩)
  have hpt := hS.pu (Or.inr ⟨rfl, rfl, rfl, rfl⟩)
  unfold sChance at k
  rcases zix_c x (n := 3) (by omega) with ⟨s, hs, rfl, es⟩ | ⟨es, ns⟩
  · rw [oz_s es] at k
    have hsg : SSg M (70 + 8 * s) := hS.sg (by unfold zSa; omega)
    have hg0 : zi M (70 + 8 * s) 0 = nI (gt (dS D s)) := (hRW.2.1 s hs).1.1
    have hg5 : gt (dS D s) ≤ 5 := (hO.2.2 s hs).1
    rcases zix_c y (n := 21) (by omega) with ⟨m, hm, rfl, em⟩ | ⟨em, nm⟩
    · rw [oz_s em] at k
      by_cases hm0 : m = 0
      · subst hm0
        rw [if_pos rfl] at k
        refine q_iload_n d110_0 rfl ?_
        refine q_s1 d110_1 (Or.inl rfl) rfl (Nat.le_of_ble_eq_true rfl) (c60t (by omega) ?_)
        refine n0_eq 27 d110_4 (by decide) (by decide) (fun q => absurd q (by decide)) (fun _ => ?_)
        refine q_iload_n d110_7 rfl ?_
        refine q_iconstN (z := 1) d110_8 ?_
        refine q_bipush (x := nI 20) d110_9 rfl ?_
        refine q_s3 d110_11 (Or.inl rfl) rfl (Nat.le_of_ble_eq_true rfl) (c10n (by decide) (by decide) (by decide) (by decide) ?_)
        refine n0_eq 27 d110_14 (by decide) (by decide) (fun _ => ?_) (fun q => absurd q (by decide))
        refine q_bipush (x := (-2)) d110_27 rfl ?_
        refine q_iret d110_29 rfl ?_
        exact k _ hR (Fc.refl _)
      · rw [if_neg hm0] at k
        rcases zix_c w (n := 2) (by omega) with ⟨w, hw, rfl, ew⟩ | ⟨ew, nw⟩
        · rw [oz_s ew] at k
          by_cases h0 : gt (dS D s) = 0
          · rw [if_pos h0] at k
            refine q_iload_n d110_0 rfl ?_
            refine q_s1 d110_1 (Or.inl rfl) rfl (Nat.le_of_ble_eq_true rfl) (c60t (by omega) ?_)
            refine n0_eq 27 d110_4 (by decide) (by decide) (fun q => absurd q (by decide)) (fun _ => ?_)
            refine q_iload_n d110_7 rfl ?_
            refine q_iconstN (z := 1) d110_8 ?_
            refine q_bipush (x := nI 20) d110_9 rfl ?_
            refine q_s3 d110_11 (Or.inl rfl) rfl (Nat.le_of_ble_eq_true rfl) (c10t ⟨by omega, by omega⟩ (by decide) ?_)
            refine n0_eq 27 d110_14 (by decide) (by decide) (fun q => absurd q (by decide)) (fun _ => ?_)
            refine q_iload d110_17 rfl ?_
            refine q_iconstN (z := 0) d110_19 ?_
            refine q_iconstN (z := 1) d110_20 ?_
            refine q_s3 d110_21 (Or.inl rfl) rfl (Nat.le_of_ble_eq_true rfl) (c10t ⟨by omega, by omega⟩ (by decide) ?_)
            refine n0_ne 30 d110_24 (by decide) (by decide) (fun _ => ?_) (fun q => absurd q (by decide))
            refine q_aload_n d110_30 rfl ?_
            refine q_getr (c := 7) (f := 4) d110_31 ⟨rfl, rfl⟩ (hS.1.1) (hS.1.2.2.2.2.2.2.1) ?_
            refine q_getr (c := 6) (f := 3) d110_34 ⟨rfl, rfl⟩ hwr.1 hwr.2.2.2.2.1 ?_
            refine q_iload_n d110_37 rfl ?_
            refine n_aald d110_38 hwr.2.2.2.2.2.1 (by decide) (by omega) (by decide) (hwr.2.2.2.2.2.2 _ (by omega)) ?_
            refine q_getv (c := 5) (f := 0) d110_39 ⟨rfl, by decide⟩ hsg.1 hg0 ?_
            refine n0_ne 48 d110_42 (by decide) (by omega) (fun h42 => (False.elim (h42 h0))) (fun h42 => ?_)
            refine q_bipush (x := (-3)) d110_45 rfl ?_
            refine q_iret d110_47 rfl ?_
            exact k _ hR (Fc.refl _)
          · rw [if_neg h0] at k
            refine q_iload_n d110_0 rfl ?_
            refine q_s1 d110_1 (Or.inl rfl) rfl (Nat.le_of_ble_eq_true rfl) (c60t (by omega) ?_)
            refine n0_eq 27 d110_4 (by decide) (by decide) (fun q => absurd q (by decide)) (fun _ => ?_)
            refine q_iload_n d110_7 rfl ?_
            refine q_iconstN (z := 1) d110_8 ?_
            refine q_bipush (x := nI 20) d110_9 rfl ?_
            refine q_s3 d110_11 (Or.inl rfl) rfl (Nat.le_of_ble_eq_true rfl) (c10t ⟨by omega, by omega⟩ (by decide) ?_)
            refine n0_eq 27 d110_14 (by decide) (by decide) (fun q => absurd q (by decide)) (fun _ => ?_)
            refine q_iload d110_17 rfl ?_
            refine q_iconstN (z := 0) d110_19 ?_
            refine q_iconstN (z := 1) d110_20 ?_
            refine q_s3 d110_21 (Or.inl rfl) rfl (Nat.le_of_ble_eq_true rfl) (c10t ⟨by omega, by omega⟩ (by decide) ?_)
            refine n0_ne 30 d110_24 (by decide) (by decide) (fun _ => ?_) (fun q => absurd q (by decide))
            refine q_aload_n d110_30 rfl ?_
            refine q_getr (c := 7) (f := 4) d110_31 ⟨rfl, rfl⟩ (hS.1.1) (hS.1.2.2.2.2.2.2.1) ?_
            refine q_getr (c := 6) (f := 3) d110_34 ⟨rfl, rfl⟩ hwr.1 hwr.2.2.2.2.1 ?_
            refine q_iload_n d110_37 rfl ?_
            refine n_aald d110_38 hwr.2.2.2.2.2.1 (by decide) (by omega) (by decide) (hwr.2.2.2.2.2.2 _ (by omega)) ?_
            refine q_getv (c := 5) (f := 0) d110_39 ⟨rfl, by decide⟩ hsg.1 hg0 ?_
            refine n0_ne 48 d110_42 (by decide) (by omega) (fun h42 => ?_) (fun h42 => (False.elim (h0 h42)))
            refine q_iconstN (z := 0) d110_48 ?_
            refine q_istore d110_49 (by decide) rfl ?_
            refine q_iconstN (z := 0) d110_51 ?_
            refine q_istore d110_52 (by decide) rfl ?_
            exact l110 hs h0 (by omega) hm hw (fun M' g1 g2 => k M' g1 g2) (m + 1) 0 M (by omega) (by omega) hR (Fc.refl _)
        · rw [oz_n ew] at k
          refine q_iload_n d110_0 rfl ?_
          refine q_s1 d110_1 (Or.inl rfl) rfl (Nat.le_of_ble_eq_true rfl) (c60t (by omega) ?_)
          refine n0_eq 27 d110_4 (by decide) (by decide) (fun q => absurd q (by decide)) (fun _ => ?_)
          refine q_iload_n d110_7 rfl ?_
          refine q_iconstN (z := 1) d110_8 ?_
          refine q_bipush (x := nI 20) d110_9 rfl ?_
          refine q_s3 d110_11 (Or.inl rfl) rfl (Nat.le_of_ble_eq_true rfl) (c10t ⟨by omega, by omega⟩ (by decide) ?_)
          refine n0_eq 27 d110_14 (by decide) (by decide) (fun q => absurd q (by decide)) (fun _ => ?_)
          refine q_iload d110_17 rfl ?_
          refine q_iconstN (z := 0) d110_19 ?_
          refine q_iconstN (z := 1) d110_20 ?_
          refine q_s3 d110_21 (Or.inl rfl) rfl (Nat.le_of_ble_eq_true rfl) (c10f (by decide) (by omega) (by decide) ?_)
          refine n0_ne 30 d110_24 (by decide) (by decide) (fun q => absurd q (by decide)) (fun _ => ?_)
          refine q_bipush (x := (-2)) d110_27 rfl ?_
          refine q_iret d110_29 rfl ?_
          exact k _ hR (Fc.refl _)
    · rw [oz_n em] at k
      refine q_iload_n d110_0 rfl ?_
      refine q_s1 d110_1 (Or.inl rfl) rfl (Nat.le_of_ble_eq_true rfl) (c60t (by omega) ?_)
      refine n0_eq 27 d110_4 (by decide) (by decide) (fun q => absurd q (by decide)) (fun _ => ?_)
      refine q_iload_n d110_7 rfl ?_
      refine q_iconstN (z := 1) d110_8 ?_
      refine q_bipush (x := nI 20) d110_9 rfl ?_
      refine q_s3 d110_11 (Or.inl rfl) rfl (Nat.le_of_ble_eq_true rfl) (c10fm em ?_)
      refine n0_eq 27 d110_14 (by decide) (by decide) (fun _ => ?_) (fun q => absurd q (by decide))
      refine q_bipush (x := (-2)) d110_27 rfl ?_
      refine q_iret d110_29 rfl ?_
      exact k _ hR (Fc.refl _)
  · rw [oz_n es] at k
    refine q_iload_n d110_0 rfl ?_
    refine q_s1 d110_1 (Or.inl rfl) rfl (Nat.le_of_ble_eq_true rfl) (c60f es ?_)
    refine n0_eq 27 d110_4 (by decide) (by decide) (fun _ => ?_) (fun q => absurd q (by decide))
    refine q_bipush (x := (-2)) d110_27 rfl ?_
    refine q_iret d110_29 rfl ?_
    exact k _ hR (Fc.refl _)
theorem d116_0 : decode (zB 116) 0 = .ok (.iconst 0, 1) := by decide +kernel
theorem d116_1 : decode (zB 116) 1 = .ok (.istore_n 3, 1) := by decide +kernel
theorem d116_2 : decode (zB 116) 2 = .ok (.iload_n 3, 1) := by decide +kernel
theorem d116_3 : decode (zB 116) 3 = .ok (.aload_n 1, 1) := by decide +kernel
theorem d116_4 : decode (zB 116) 4 = .ok (.getfield 256, 3) := by decide +kernel
theorem d116_7 : decode (zB 116) 7 = .ok (.if_icmp .ge 39, 3) := by decide +kernel
theorem d116_10 : decode (zB 116) 10 = .ok (.aload_n 0, 1) := by decide +kernel
theorem d116_11 : decode (zB 116) 11 = .ok (.getfield 41, 3) := by decide +kernel
theorem d116_14 : decode (zB 116) 14 = .ok (.invokevirtual 175, 3) := by decide +kernel
theorem d116_17 : decode (zB 116) 17 = .ok (.aload_n 0, 1) := by decide +kernel
theorem d116_18 : decode (zB 116) 18 = .ok (.getfield 41, 3) := by decide +kernel
theorem d116_21 : decode (zB 116) 21 = .ok (.getfield 94, 3) := by decide +kernel
theorem d116_24 : decode (zB 116) 24 = .ok (.getfield 205, 3) := by decide +kernel
theorem d116_27 : decode (zB 116) 27 = .ok (.iload_n 2, 1) := by decide +kernel
theorem d116_28 : decode (zB 116) 28 = .ok (.iaload, 1) := by decide +kernel
theorem d116_29 : decode (zB 116) 29 = .ok (.aload_n 1, 1) := by decide +kernel
theorem d116_30 : decode (zB 116) 30 = .ok (.getfield 291, 3) := by decide +kernel
theorem d116_33 : decode (zB 116) 33 = .ok (.iload_n 3, 1) := by decide +kernel
theorem d116_34 : decode (zB 116) 34 = .ok (.iaload, 1) := by decide +kernel
theorem d116_35 : decode (zB 116) 35 = .ok (.if_icmp .eq 5, 3) := by decide +kernel
theorem d116_38 : decode (zB 116) 38 = .ok (.iload_n 3, 1) := by decide +kernel
theorem d116_39 : decode (zB 116) 39 = .ok (.ireturn, 1) := by decide +kernel
theorem d116_40 : decode (zB 116) 40 = .ok (.iinc 3 1, 3) := by decide +kernel
theorem d116_43 : decode (zB 116) 43 = .ok (.goto (-41), 3) := by decide +kernel
theorem d116_46 : decode (zB 116) 46 = .ok (.iconst (-1), 1) := by decide +kernel
theorem d116_47 : decode (zB 116) 47 = .ok (.ireturn, 1) := by decide +kernel
theorem l116 {d : Nat} {Q : Option Value → zM → Prop} {D : yD} {M0 : zM} {n h a : Nat} {nm : Nat → Nat → Int32} (hh : h < 4) (ha : a < 6) (hn : n ≤ 20) (hz : (dR D h).2 = n) (k : ∀ v M', RC M' D → Fc M0 M' → Q (some (.int v)) M') : ∀ (r i : Nat) (M1 : zM) (X1 : yX), i ≤ n → n < i + r →  RC M1 D → CW M1 94 94 99 95 (dT D) (dc D) nm X1 → Fc M0 M1 → qW (zEv (d + 5)) 116 Q 2 [(3, .int (nI i)), (0, .ref 16), (1, .ref (127 + 2 * h)), (2, .int (nI a))] [] M1 := by
  intro r
  induction r with
  | zero => intros; omega
  | succ r ih =>
    intro i M1 X1 h1 h2 hR1 hC1 hF
    have hz1 : zi M1 (127 + 2 * h) 1 = nI n := (hR1.2.2.2 h hh).2.trans (by rw [hz])
    refine q_iload_n d116_2 rfl ?_
    refine q_aload_n d116_3 rfl ?_
    refine q_getv (c := 4) (f := 1) d116_4 ⟨rfl, by decide⟩ (hC1.1.2.2.2.2.2.2.2.2.2.2.2.1 h (by omega)).1 hz1 ?_
    refine nc_ge 46 d116_7 (by decide) (by omega) (by omega) (fun h7 => ?_) (fun h7 => ?_)
    · refine q_iconst (x := (-1)) d116_46 rfl ?_
      refine q_iret d116_47 rfl ?_
      exact k _ _ hR1 hF
    · refine q_aload_n d116_10 rfl ?_
      refine q_getr (c := 7) (f := 5) d116_11 ⟨rfl, rfl⟩ (hC1.1.1.1) (hC1.1.1.2.2.2.2.2.2.2.1) ?_
      refine q_v0 d116_14 rfl rfl (hC1.1.wo (Or.inr ⟨rfl, rfl, rfl, rfl⟩)).1 (Nat.le_of_ble_eq_true rfl) (c69 hC1 hC1.l0 (fun M2 hC2 f2 => ?_))
      have ht2 := hR1.th hC2.1 f2.fr
      refine q_aload_n d116_17 rfl ?_
      refine q_getr (c := 7) (f := 5) d116_18 ⟨rfl, rfl⟩ (hC2.1.1.1) (hC2.1.1.2.2.2.2.2.2.2.1) ?_
      refine q_getr (c := 6) (f := 2) d116_21 ⟨rfl, rfl⟩ (hC2.1.wo (Or.inr ⟨rfl, rfl, rfl, rfl⟩)).1 (hC2.1.wo (Or.inr ⟨rfl, rfl, rfl, rfl⟩)).2.2.2.1 ?_
      refine q_getr (c := 2) (f := 0) d116_24 ⟨rfl, rfl⟩ (hC2.1.pu (Or.inr ⟨rfl, rfl, rfl, rfl⟩)).1 (hC2.1.pu (Or.inr ⟨rfl, rfl, rfl, rfl⟩)).2.1 ?_
      refine q_iload_n d116_27 rfl ?_
      refine n_iald d116_28 (hC2.1.pu (Or.inr ⟨rfl, rfl, rfl, rfl⟩)).2.2 (by omega) (by decide) (hC2.2.2.2.2.1.1 _ (by omega)) ?_
      refine q_aload_n d116_29 rfl ?_
      refine q_getr (c := 4) (f := 2) d116_30 ⟨rfl, rfl⟩ (hC2.1.2.2.2.2.2.2.2.2.2.2.2.1 h (by omega)).1 (hC2.1.2.2.2.2.2.2.2.2.2.2.2.1 h (by omega)).2.1 ?_
      refine q_iload_n d116_33 rfl ?_
      refine n_iald d116_34 (hC2.1.2.2.2.2.2.2.2.2.2.2.2.1 h (by omega)).2.2 (by omega) (by decide) rfl ?_
      refine ic_eq 40 d116_35 (by decide) (fun h35 => ?_) (fun h35 => ?_)
      · refine n_iinc 1 d116_40 (by decide) rfl rfl ?_
        refine q_goto 2 d116_43 (by decide) ?_
        exact ih (i + 1) _ _ (by omega) (by omega) ht2.1 hC2 (hF.trans ht2.2)
      · refine q_iload_n d116_38 rfl ?_
        refine q_iret d116_39 rfl ?_
        exact k _ _ ht2.1 (hF.trans ht2.2)
theorem c116 {d : Nat} {M : zM} {Q : Option Value → zM → Prop} {D : yD} {n h a : Nat} {nm : Nat → Nat → Int32} {X : yX} (hh : h < 4) (ha : a < 6) (hn : n ≤ 20) (hz : (dR D h).2 = n) (hR : RC M D) (hC : CW M 94 94 99 95 (dT D) (dc D) nm X) (k : ∀ v M', RC M' D → Fc M M' → Q (some (.int v)) M') : qC (d + 6) 116 [.ref 16, .ref (127 + 2 * h), .int (nI a)] M Q := by
  refine qC_of (by decide) (Nat.le_of_ble_eq_true rfl) ?_
  refine q_iconstN (z := 0) d116_0 ?_
  refine q_istore_n d116_1 (by decide) rfl ?_
  exact l116 hh ha hn hz k (n + 1) 0 M X (by omega) (by omega) hR hC (Fc.refl _)
theorem d117_0 : decode (zB 117) 0 = .ok (.bipush 63, 2) := by decide +kernel
theorem d117_2 : decode (zB 117) 2 = .ok (.istore_n 2, 1) := by decide +kernel
theorem d117_3 : decode (zB 117) 3 = .ok (.aload_n 0, 1) := by decide +kernel
theorem d117_4 : decode (zB 117) 4 = .ok (.getfield 41, 3) := by decide +kernel
theorem d117_7 : decode (zB 117) 7 = .ok (.aload_n 0, 1) := by decide +kernel
theorem d117_8 : decode (zB 117) 8 = .ok (.getfield 37, 3) := by decide +kernel
theorem d117_11 : decode (zB 117) 11 = .ok (.invokevirtual 227, 3) := by decide +kernel
theorem d117_14 : decode (zB 117) 14 = .ok (.iconst 0, 1) := by decide +kernel
theorem d117_15 : decode (zB 117) 15 = .ok (.istore_n 3, 1) := by decide +kernel
theorem d117_16 : decode (zB 117) 16 = .ok (.iload_n 3, 1) := by decide +kernel
theorem d117_17 : decode (zB 117) 17 = .ok (.aload_n 1, 1) := by decide +kernel
theorem d117_18 : decode (zB 117) 18 = .ok (.getfield 256, 3) := by decide +kernel
theorem d117_21 : decode (zB 117) 21 = .ok (.if_icmp .ge 63, 3) := by decide +kernel
theorem d117_24 : decode (zB 117) 24 = .ok (.aload_n 0, 1) := by decide +kernel
theorem d117_25 : decode (zB 117) 25 = .ok (.getfield 41, 3) := by decide +kernel
theorem d117_28 : decode (zB 117) 28 = .ok (.invokevirtual 175, 3) := by decide +kernel
theorem d117_31 : decode (zB 117) 31 = .ok (.iconst 0, 1) := by decide +kernel
theorem d117_32 : decode (zB 117) 32 = .ok (.istore 4, 2) := by decide +kernel
theorem d117_34 : decode (zB 117) 34 = .ok (.iload 4, 2) := by decide +kernel
theorem d117_36 : decode (zB 117) 36 = .ok (.bipush 6, 2) := by decide +kernel
theorem d117_38 : decode (zB 117) 38 = .ok (.if_icmp .ge 40, 3) := by decide +kernel
theorem d117_41 : decode (zB 117) 41 = .ok (.aload_n 0, 1) := by decide +kernel
theorem d117_42 : decode (zB 117) 42 = .ok (.getfield 41, 3) := by decide +kernel
theorem d117_45 : decode (zB 117) 45 = .ok (.getfield 94, 3) := by decide +kernel
theorem d117_48 : decode (zB 117) 48 = .ok (.getfield 205, 3) := by decide +kernel
theorem d117_51 : decode (zB 117) 51 = .ok (.iload 4, 2) := by decide +kernel
theorem d117_53 : decode (zB 117) 53 = .ok (.iaload, 1) := by decide +kernel
theorem d117_54 : decode (zB 117) 54 = .ok (.aload_n 1, 1) := by decide +kernel
theorem d117_55 : decode (zB 117) 55 = .ok (.getfield 291, 3) := by decide +kernel
theorem d117_58 : decode (zB 117) 58 = .ok (.iload_n 3, 1) := by decide +kernel
theorem d117_59 : decode (zB 117) 59 = .ok (.iaload, 1) := by decide +kernel
theorem d117_60 : decode (zB 117) 60 = .ok (.if_icmp .eq 12, 3) := by decide +kernel
theorem d117_63 : decode (zB 117) 63 = .ok (.iload_n 2, 1) := by decide +kernel
theorem d117_64 : decode (zB 117) 64 = .ok (.iconst 1, 1) := by decide +kernel
theorem d117_65 : decode (zB 117) 65 = .ok (.iload 4, 2) := by decide +kernel
theorem d117_67 : decode (zB 117) 67 = .ok (.ishl, 1) := by decide +kernel
theorem d117_68 : decode (zB 117) 68 = .ok (.iconst (-1), 1) := by decide +kernel
theorem d117_69 : decode (zB 117) 69 = .ok (.ixor, 1) := by decide +kernel
theorem d117_70 : decode (zB 117) 70 = .ok (.iand, 1) := by decide +kernel
theorem d117_71 : decode (zB 117) 71 = .ok (.istore_n 2, 1) := by decide +kernel
theorem d117_72 : decode (zB 117) 72 = .ok (.iinc 4 1, 3) := by decide +kernel
theorem d117_75 : decode (zB 117) 75 = .ok (.goto (-41), 3) := by decide +kernel
theorem d117_78 : decode (zB 117) 78 = .ok (.iinc 3 1, 3) := by decide +kernel
theorem d117_81 : decode (zB 117) 81 = .ok (.goto (-65), 3) := by decide +kernel
theorem d117_84 : decode (zB 117) 84 = .ok (.iload_n 2, 1) := by decide +kernel
theorem d117_85 : decode (zB 117) 85 = .ok (.ireturn, 1) := by decide +kernel
theorem l117b {d : Nat} {Q : Option Value → zM → Prop} {D : yD} {M0 : zM} {n h q : Nat} {nm : Nat → Nat → Int32} {X1 : yX} (hh : h < 4) (hq : q < n) (hn : n ≤ 20) (hz : (dR D h).2 = n) (hR1 : RC M0 D) (hC1 : CW M0 94 94 99 95 (dT D) (dc D) nm X1) (k : ∀ v, qW (zEv (d + 5)) 117 Q 78 [(0, .ref 16), (1, .ref (127 + 2 * h)), (2, .int v), (3, .int (nI q)), (4, .int (nI 6))] [] M0) : ∀ (r i : Nat) (v : Int32), i ≤ 6 → 6 < i + r →  qW (zEv (d + 5)) 117 Q 34 [(0, .ref 16), (1, .ref (127 + 2 * h)), (2, .int v), (3, .int (nI q)), (4, .int (nI i))] [] M0 := by
  intro r
  induction r with
  | zero => intros; omega
  | succ r ih =>
    intro i v h1 h2 
    have hz1 : zi M0 (127 + 2 * h) 1 = nI n := (hR1.2.2.2 h hh).2.trans (by rw [hz])
    refine q_iload d117_34 rfl ?_
    refine q_bipush (x := nI 6) d117_36 rfl ?_
    refine nc_ge 78 d117_38 (by decide) (by omega) (by omega) (fun h38 => ?_) (fun h38 => ?_)
    · have e6 : i = 6 := by omega
      rw [e6]
      exact k v
    · refine q_aload_n d117_41 rfl ?_
      refine q_getr (c := 7) (f := 5) d117_42 ⟨rfl, rfl⟩ (hC1.1.1.1) (hC1.1.1.2.2.2.2.2.2.2.1) ?_
      refine q_getr (c := 6) (f := 2) d117_45 ⟨rfl, rfl⟩ (hC1.1.wo (Or.inr ⟨rfl, rfl, rfl, rfl⟩)).1 (hC1.1.wo (Or.inr ⟨rfl, rfl, rfl, rfl⟩)).2.2.2.1 ?_
      refine q_getr (c := 2) (f := 0) d117_48 ⟨rfl, rfl⟩ (hC1.1.pu (Or.inr ⟨rfl, rfl, rfl, rfl⟩)).1 (hC1.1.pu (Or.inr ⟨rfl, rfl, rfl, rfl⟩)).2.1 ?_
      refine q_iload d117_51 rfl ?_
      refine n_iald d117_53 (hC1.1.pu (Or.inr ⟨rfl, rfl, rfl, rfl⟩)).2.2 (by omega) (by decide) (hC1.2.2.2.2.1.1 _ (by omega)) ?_
      refine q_aload_n d117_54 rfl ?_
      refine q_getr (c := 4) (f := 2) d117_55 ⟨rfl, rfl⟩ (hC1.1.2.2.2.2.2.2.2.2.2.2.2.1 h (by omega)).1 (hC1.1.2.2.2.2.2.2.2.2.2.2.2.1 h (by omega)).2.1 ?_
      refine q_iload_n d117_58 rfl ?_
      refine n_iald d117_59 (hC1.1.2.2.2.2.2.2.2.2.2.2.2.1 h (by omega)).2.2 (by omega) (by decide) rfl ?_
      refine ic_eq 72 d117_60 (by decide) (fun h60 => ?_) (fun h60 => ?_)
      · refine n_iinc 1 d117_72 (by decide) rfl rfl ?_
        refine q_goto 34 d117_75 (by decide) ?_
        refine qW_srt rfl rfl ?_
        exact ih (i + 1) _ (by omega) (by omega)
      · refine q_iload_n d117_63 rfl ?_
        refine q_iconstN (z := 1) d117_64 ?_
        refine q_iload d117_65 rfl ?_
        refine n_ishl1 d117_67 (by omega) ?_
        refine q_iconst (x := (-1)) d117_68 rfl ?_
        refine q_ixor d117_69 ?_
        refine q_iand d117_70 ?_
        refine q_istore_n d117_71 (by decide) rfl ?_
        refine n_iinc 1 d117_72 (by decide) rfl rfl ?_
        refine q_goto 34 d117_75 (by decide) ?_
        refine qW_srt rfl rfl ?_
        exact ih (i + 1) _ (by omega) (by omega)
theorem l117 {d : Nat} {Q : Option Value → zM → Prop} {D : yD} {M0 : zM} {n h : Nat} {nm : Nat → Nat → Int32} (hh : h < 4) (hn : n ≤ 20) (hz : (dR D h).2 = n) (k : ∀ v M', RC M' D → Fc M0 M' → Q (some (.int v)) M') : ∀ (r i : Nat) (M1 : zM) (X1 : yX) (v j4 : Int32), i ≤ n → n < i + r →  RC M1 D → CW M1 94 94 99 95 (dT D) (dc D) nm X1 → Fc M0 M1 → qW (zEv (d + 5)) 117 Q 16 [(0, .ref 16), (1, .ref (127 + 2 * h)), (2, .int v), (3, .int (nI i)), (4, .int j4)] [] M1 := by
  intro r
  induction r with
  | zero => intros; omega
  | succ r ih =>
    intro i M1 X1 v j4 h1 h2 hR1 hC1 hF
    have hz1 : zi M1 (127 + 2 * h) 1 = nI n := (hR1.2.2.2 h hh).2.trans (by rw [hz])
    refine q_iload_n d117_16 rfl ?_
    refine q_aload_n d117_17 rfl ?_
    refine q_getv (c := 4) (f := 1) d117_18 ⟨rfl, by decide⟩ (hC1.1.2.2.2.2.2.2.2.2.2.2.2.1 h (by omega)).1 hz1 ?_
    refine nc_ge 84 d117_21 (by decide) (by omega) (by omega) (fun h21 => ?_) (fun h21 => ?_)
    · refine q_iload_n d117_84 rfl ?_
      refine q_iret d117_85 rfl ?_
      exact k _ _ hR1 hF
    · refine q_aload_n d117_24 rfl ?_
      refine q_getr (c := 7) (f := 5) d117_25 ⟨rfl, rfl⟩ (hC1.1.1.1) (hC1.1.1.2.2.2.2.2.2.2.1) ?_
      refine q_v0 d117_28 rfl rfl (hC1.1.wo (Or.inr ⟨rfl, rfl, rfl, rfl⟩)).1 (Nat.le_of_ble_eq_true rfl) (c69 hC1 hC1.l0 (fun M2 hC2 f2 => ?_))
      have ht2 := hR1.th hC2.1 f2.fr
      refine q_iconstN (z := 0) d117_31 ?_
      refine q_istore d117_32 (by decide) rfl ?_
      refine qW_srt rfl rfl ?_
      exact l117b hh (by omega) hn hz ht2.1 hC2 (fun v2 => by
        refine n_iinc 1 d117_78 (by decide) rfl rfl ?_
        refine q_goto 16 d117_81 (by decide) ?_
        refine qW_srt rfl rfl ?_
        exact ih (i + 1) _ _ _ _ (by omega) (by omega) ht2.1 hC2 (hF.trans ht2.2)) 7 0 _ (by omega) (by omega)
theorem c117 {d : Nat} {M : zM} {Q : Option Value → zM → Prop} {D : yD} {n h : Nat} (hh : h < 4) (hn : n ≤ 20) (hz : (dR D h).2 = n) (hR : RC M D) (k : ∀ v M', RC M' D → Fc M M' → Q (some (.int v)) M') : qC (d + 6) 117 [.ref 16, .ref (127 + 2 * h)] M Q := by
  refine qC_of (by decide) (Nat.le_of_ble_eq_true rfl) ?_
  have hS := hR.1.1
  have hT := hR.1.2.2.1
  have hO := hR.1.2.2.2.1
  have hRW := hR.1.2.2.2.2
  have hJ : RL M 62 (dL D) := hRW.2.2.2
  have hc6 := hO.1.1
  have h120 := hR.2.2.1.1
  have hwr := hS.wo (Or.inl ⟨rfl, rfl, rfl, rfl⟩)
  have hwt := hS.wo (Or.inr ⟨rfl, rfl, rfl, rfl⟩)
  have hpr := hS.pu (Or.inl ⟨rfl, rfl, rfl, rfl⟩)
  have hpt := hS.pu (Or.inr ⟨rfl, rfl, rfl, rfl⟩)
  refine q_bipush (x := nI 63) d117_0 rfl ?_
  refine q_istore_n d117_2 (by decide) rfl ?_
  refine q_aload_n d117_3 rfl ?_
  refine q_getr (c := 7) (f := 5) d117_4 ⟨rfl, rfl⟩ (hS.1.1) (hS.1.2.2.2.2.2.2.2.1) ?_
  refine q_aload_n d117_7 rfl ?_
  refine q_getr (c := 7) (f := 4) d117_8 ⟨rfl, rfl⟩ (hS.1.1) (hS.1.2.2.2.2.2.2.1) ?_
  refine q_v1 d117_11 rfl rfl hwt.1 (Nat.le_of_ble_eq_true rfl) (c101 (nm := dnm D) (X := dX D) hR.1 (fun M1 hC1 f1 => ?_))
  have ht1 := hR.th hC1.1 (f1.mono (fun b q e => ⟨by have := e.1; omega, by have := e.2; omega⟩))
  have hR1 := ht1.1
  have hz1 : zi M1 (127 + 2 * h) 1 = nI n := (hR1.2.2.2 h hh).2.trans (by rw [hz])
  refine q_iconstN (z := 0) d117_14 ?_
  refine q_istore_n d117_15 (by decide) rfl ?_
  refine q_iload_n d117_16 rfl ?_
  refine q_aload_n d117_17 rfl ?_
  refine q_getv (c := 4) (f := 1) d117_18 ⟨rfl, by decide⟩ (hC1.1.2.2.2.2.2.2.2.2.2.2.2.1 h (by omega)).1 hz1 ?_
  refine nc_ge 84 d117_21 (by decide) (by omega) (by omega) (fun h21 => ?_) (fun h21 => ?_)
  · refine q_iload_n d117_84 rfl ?_
    refine q_iret d117_85 rfl ?_
    exact k _ _ hR1 ht1.2
  · refine q_aload_n d117_24 rfl ?_
    refine q_getr (c := 7) (f := 5) d117_25 ⟨rfl, rfl⟩ (hC1.1.1.1) (hC1.1.1.2.2.2.2.2.2.2.1) ?_
    refine q_v0 d117_28 rfl rfl (hC1.1.wo (Or.inr ⟨rfl, rfl, rfl, rfl⟩)).1 (Nat.le_of_ble_eq_true rfl) (c69 hC1 hC1.l0 (fun M2 hC2 f2 => ?_))
    have ht2 := hR1.th hC2.1 f2.fr
    refine q_iconstN (z := 0) d117_31 ?_
    refine q_istore d117_32 (by decide) rfl ?_
    refine qW_srt rfl rfl ?_
    exact l117b hh (by omega) hn hz ht2.1 hC2 (fun v2 => by
      refine n_iinc 1 d117_78 (by decide) rfl rfl ?_
      refine q_goto 16 d117_81 (by decide) ?_
      refine qW_srt rfl rfl ?_
      exact l117 hh hn hz k (n + 1) 1 _ _ _ _ (by omega) (by omega) ht2.1 hC2 (ht1.2.trans ht2.2)) 7 0 _ (by omega) (by omega)
theorem CW_nm {M : zM} {T : Nat → yT} {c s i : Nat} {v : Int32} {nm : Nat → Nat → Int32} {X : yX} (hC : CW M 94 94 99 95 T c nm X) (hs : s < 3) : CW (zwi M (102 + 8 * s + 2) i v) 94 94 99 95 T c (yu nm s (yu (nm s) i v)) X := by
  have f : Fi (fun b _ => b = 102 + 8 * s + 2) M (zwi M (102 + 8 * s + 2) i v) := (Fi.refl _ M).wi rfl
  obtain ⟨h1, h2, h3, h4, h5, h6, h7⟩ := hC
  refine ⟨f.sc h1 (fun a k ha q => by omega), h2, RTx_fr h3 h4.1.1 f.fr (fun b k a1 a2 q => by omega), h4, RPu_fr h5 f.fr (fun b k a1 a2 q => by omega), fun r hr => ?_, RJ_fr h7 f.fr (fun b k a1 a2 q => by omega)⟩
  by_cases e : r = s
  · subst e
    rw [yu_s]
    have g : ∀ b k, b ≠ 102 + 8 * r + 2 → zi (zwi M (102 + 8 * r + 2) i v) b k = zi M b k := fun b k n => f.1 b k (by omega)
    obtain ⟨⟨r1, r2, r3⟩, ⟨r4, r5, r6⟩, ⟨r7, r8⟩, r9, ra, rb⟩ := h6 r hr
    exact ⟨⟨(g _ _ (by omega)).trans r1, (g _ _ (by omega)).trans r2, (f.r _ _).trans r3⟩, ⟨(g _ _ (by omega)).trans r4, (g _ _ (by omega)).trans r5, (g _ _ (by omega)).trans r6⟩,
      ⟨(g _ _ (by omega)).trans r7, fun k hk => (g _ _ (by omega)).trans (r8 k hk)⟩, fun k hk => (by
        show zi (zwi M (102 + 8 * r + 2) i v) (102 + 8 * r + 2) k = yu (nm r) i v k
        by_cases ek : k = i
        · subst ek; rw [wi_s, yu_s]
        · rw [wi_n (Or.inr ek), yu_n ek]; exact r9 k hk), fun k hk he => (g _ _ (by omega)).trans (ra k hk he),
      fun k hk => ⟨(g _ _ (by omega)).trans (rb k hk).1, (g _ _ (by omega)).trans (rb k hk).2.1, (g _ _ (by omega)).trans (rb k hk).2.2.1, (g _ _ (by omega)).trans (rb k hk).2.2.2⟩⟩
  · rw [yu_n e]
    exact RS_fr (h6 r hr) f.fr (fun b k a1 a2 q => by omega)
theorem d118_0 : decode (zB 118) 0 = .ok (.iconst 0, 1) := by decide +kernel
theorem d118_1 : decode (zB 118) 1 = .ok (.istore 5, 2) := by decide +kernel
theorem d118_3 : decode (zB 118) 3 = .ok (.iconst 0, 1) := by decide +kernel
theorem d118_4 : decode (zB 118) 4 = .ok (.istore 6, 2) := by decide +kernel
theorem d118_6 : decode (zB 118) 6 = .ok (.iload 6, 2) := by decide +kernel
theorem d118_8 : decode (zB 118) 8 = .ok (.bipush 20, 2) := by decide +kernel
theorem d118_10 : decode (zB 118) 10 = .ok (.if_icmp .ge 56, 3) := by decide +kernel
theorem d118_13 : decode (zB 118) 13 = .ok (.aload_n 0, 1) := by decide +kernel
theorem d118_14 : decode (zB 118) 14 = .ok (.getfield 41, 3) := by decide +kernel
theorem d118_17 : decode (zB 118) 17 = .ok (.aload_n 0, 1) := by decide +kernel
theorem d118_18 : decode (zB 118) 18 = .ok (.getfield 37, 3) := by decide +kernel
theorem d118_21 : decode (zB 118) 21 = .ok (.invokevirtual 227, 3) := by decide +kernel
theorem d118_24 : decode (zB 118) 24 = .ok (.aload_n 0, 1) := by decide +kernel
theorem d118_25 : decode (zB 118) 25 = .ok (.getfield 41, 3) := by decide +kernel
theorem d118_28 : decode (zB 118) 28 = .ok (.getfield 144, 3) := by decide +kernel
theorem d118_31 : decode (zB 118) 31 = .ok (.iload_n 3, 1) := by decide +kernel
theorem d118_32 : decode (zB 118) 32 = .ok (.aaload, 1) := by decide +kernel
theorem d118_33 : decode (zB 118) 33 = .ok (.getfield 252, 3) := by decide +kernel
theorem d118_36 : decode (zB 118) 36 = .ok (.iload 4, 2) := by decide +kernel
theorem d118_38 : decode (zB 118) 38 = .ok (.iload 6, 2) := by decide +kernel
theorem d118_40 : decode (zB 118) 40 = .ok (.iastore, 1) := by decide +kernel
theorem d118_41 : decode (zB 118) 41 = .ok (.aload_n 0, 1) := by decide +kernel
theorem d118_42 : decode (zB 118) 42 = .ok (.aload_n 1, 1) := by decide +kernel
theorem d118_43 : decode (zB 118) 43 = .ok (.iload_n 2, 1) := by decide +kernel
theorem d118_44 : decode (zB 118) 44 = .ok (.invokevirtual 257, 3) := by decide +kernel
theorem d118_47 : decode (zB 118) 47 = .ok (.iconst (-1), 1) := by decide +kernel
theorem d118_48 : decode (zB 118) 48 = .ok (.if_icmp .ne 12, 3) := by decide +kernel
theorem d118_51 : decode (zB 118) 51 = .ok (.iload 5, 2) := by decide +kernel
theorem d118_53 : decode (zB 118) 53 = .ok (.iconst 1, 1) := by decide +kernel
theorem d118_54 : decode (zB 118) 54 = .ok (.iload 6, 2) := by decide +kernel
theorem d118_56 : decode (zB 118) 56 = .ok (.ishl, 1) := by decide +kernel
theorem d118_57 : decode (zB 118) 57 = .ok (.ior, 1) := by decide +kernel
theorem d118_58 : decode (zB 118) 58 = .ok (.istore 5, 2) := by decide +kernel
theorem d118_60 : decode (zB 118) 60 = .ok (.iinc 6 1, 3) := by decide +kernel
theorem d118_63 : decode (zB 118) 63 = .ok (.goto (-57), 3) := by decide +kernel
theorem d118_66 : decode (zB 118) 66 = .ok (.iload 5, 2) := by decide +kernel
theorem d118_68 : decode (zB 118) 68 = .ok (.ireturn, 1) := by decide +kernel
theorem l118 {d : Nat} {Q : Option Value → zM → Prop} {D : yD} {M0 : zM} {n h a s st : Nat} (hh : h < 4) (ha : a < 6) (hs : s < 3) (hst : st < 12) (hn : n ≤ 20) (hz : (dR D h).2 = n) (k : ∀ t M', t < 2 ^ 20 → RC M' D → Fc M0 M' → Q (some (.int (nI t))) M') : ∀ (r i : Nat) (M1 : zM) (t : Nat), i ≤ 20 → 20 < i + r →  t < 2 ^ i → RC M1 D → Fc M0 M1 → qW (zEv (d + 6)) 118 Q 6 [(0, .ref 16), (1, .ref (127 + 2 * h)), (2, .int (nI a)), (3, .int (nI s)), (4, .int (nI st)), (5, .int (nI t)), (6, .int (nI i))] [] M1 := by
  intro r
  induction r with
  | zero => intros; omega
  | succ r ih =>
    intro i M1 t h1 h2 ht hR1 hF
    have hz1 : zi M1 (127 + 2 * h) 1 = nI n := (hR1.2.2.2 h hh).2.trans (by rw [hz])
    have hS := hR1.1.1
    have hwr := hS.wo (Or.inl ⟨rfl, rfl, rfl, rfl⟩)
    refine q_iload d118_6 rfl ?_
    refine q_bipush (x := nI 20) d118_8 rfl ?_
    refine nc_ge 66 d118_10 (by decide) (by omega) (by omega) (fun h10 => ?_) (fun h10 => ?_)
    · refine q_iload d118_66 rfl ?_
      refine q_iret d118_68 rfl ?_
      exact k _ _ (by rw [show (20 : Nat) = i by omega]; exact ht) hR1 hF
    · refine q_aload_n d118_13 rfl ?_
      refine q_getr (c := 7) (f := 5) d118_14 ⟨rfl, rfl⟩ (hS.1.1) (hS.1.2.2.2.2.2.2.2.1) ?_
      refine q_aload_n d118_17 rfl ?_
      refine q_getr (c := 7) (f := 4) d118_18 ⟨rfl, rfl⟩ (hS.1.1) (hS.1.2.2.2.2.2.2.1) ?_
      refine q_v1 d118_21 rfl rfl (hS.wo (Or.inr ⟨rfl, rfl, rfl, rfl⟩)).1 (Nat.le_of_ble_eq_true rfl) (c101 (nm := dnm D) (X := dX D) hR1.1 (fun M2 hC2 f1 => ?_))
      have ht2 := hR1.th hC2.1 (f1.mono (fun b q e => ⟨by have := e.1; omega, by have := e.2; omega⟩))
      have hsghC2 : SSg M2 (102 + 8 * s) := hC2.1.sg (by unfold zSa; omega)
      refine q_aload_n d118_24 rfl ?_
      refine q_getr (c := 7) (f := 5) d118_25 ⟨rfl, rfl⟩ (hC2.1.1.1) (hC2.1.1.2.2.2.2.2.2.2.1) ?_
      refine q_getr (c := 6) (f := 3) d118_28 ⟨rfl, rfl⟩ (hC2.1.wo (Or.inr ⟨rfl, rfl, rfl, rfl⟩)).1 (hC2.1.wo (Or.inr ⟨rfl, rfl, rfl, rfl⟩)).2.2.2.2.1 ?_
      refine q_iload_n d118_31 rfl ?_
      refine n_aald d118_32 (hC2.1.wo (Or.inr ⟨rfl, rfl, rfl, rfl⟩)).2.2.2.2.2.1 (by decide) (by omega) (by decide) ((hC2.1.wo (Or.inr ⟨rfl, rfl, rfl, rfl⟩)).2.2.2.2.2.2 _ (by omega)) ?_
      refine q_getr (c := 5) (f := 8) d118_33 ⟨rfl, rfl⟩ hsghC2.1 (hsghC2.2.2.1 0 (by decide)) ?_
      refine q_iload d118_36 rfl ?_
      refine q_iload d118_38 rfl ?_
      refine n_iast d118_40 (hsghC2.2.2.2 1 (by decide)) (by omega) (by decide) ?_
      have hC3 := CW_nm (i := st) (v := nI i) hC2 hs
      have ht3 := ht2.1.th hC3.1 ((Fr.refl _ _).wi (by constructor <;> omega))
      refine q_aload_n d118_41 rfl ?_
      refine q_aload_n d118_42 rfl ?_
      refine q_iload_n d118_43 rfl ?_
      refine q_v2 d118_44 rfl rfl (hC2.1.1.1) (Nat.le_of_ble_eq_true rfl) (c116 hh ha hn hz ht3.1 hC3 (fun v4 M4 hR4 g4 => ?_))
      refine q_iconst (x := (-1)) d118_47 rfl ?_
      refine ic_ne 60 d118_48 (by decide) (fun h48 => ?_) (fun h48 => ?_)
      · refine n_iinc 1 d118_60 (by decide) rfl rfl ?_
        refine q_goto 6 d118_63 (by decide) ?_
        refine qW_srt rfl rfl ?_
        exact ih (i + 1) _ _ (by omega) (by omega) (Nat.lt_trans ht (pow_lt (by omega))) hR4 (hF.trans (ht2.2.trans (ht3.2.trans g4)))
      · refine q_iload d118_51 rfl ?_
        refine q_iconstN (z := 1) d118_53 ?_
        refine q_iload d118_54 rfl ?_
        refine n_ishl1 d118_56 (by omega) ?_
        refine n_ior d118_57 ?_
        refine q_istore d118_58 (by decide) rfl ?_
        refine n_iinc 1 d118_60 (by decide) rfl rfl ?_
        refine q_goto 6 d118_63 (by decide) ?_
        refine qW_srt rfl rfl ?_
        exact ih (i + 1) _ _ (by omega) (by omega) (Nat.or_lt_two_pow (Nat.lt_trans ht (pow_lt (by omega))) (pow_lt (by omega))) hR4 (hF.trans (ht2.2.trans (ht3.2.trans g4)))
theorem c118 {d : Nat} {M : zM} {Q : Option Value → zM → Prop} {D : yD} {n h a s st : Nat} (hh : h < 4) (ha : a < 6) (hs : s < 3) (hst : st < 12) (hn : n ≤ 20) (hz : (dR D h).2 = n) (hR : RC M D) (k : ∀ t M', t < 2 ^ 20 → RC M' D → Fc M M' → Q (some (.int (nI t))) M') : qC (d + 7) 118 [.ref 16, .ref (127 + 2 * h), .int (nI a), .int (nI s), .int (nI st)] M Q := by
  refine qC_of (by decide) (Nat.le_of_ble_eq_true rfl) ?_
  refine q_iconstN (z := 0) d118_0 ?_
  refine q_istore d118_1 (by decide) rfl ?_
  refine q_iconstN (z := 0) d118_3 ?_
  refine q_istore d118_4 (by decide) rfl ?_
  refine qW_srt rfl rfl ?_
  exact l118 hh ha hs hst hn hz k 21 0 M 0 (by omega) (by omega) (by decide) hR (Fc.refl _)
