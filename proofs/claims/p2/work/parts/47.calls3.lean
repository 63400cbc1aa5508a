/-! ===== the calls of the class: lines, sagas told ===== -/
theorem c10e {d b : Nat} {M : zM} {Q : Option Value → zM → Prop} {x : Int32} (h : zix x b = none) (hb : b < 2147483648) (k : Q (some (.int (nI 0))) M) : qC (d + 1) 10 [.int x, .int (nI 0), .int (nI b - nI 1)] M Q := c10s hb (by rw [h]; exact k)
theorem OKS_12 {T : Nat → yT} {c : Nat} {S : yS} (ho : ∀ i, i < c → OKT (T i)) (h : OKS T c S) : (go S).length ≤ 12 := by
  have hz : gz T S ≤ 12 := by
    unfold gz
    by_cases e : gt S = 0
    · rw [if_pos e]; exact Nat.zero_le _
    · rw [if_neg e]; exact (ho _ (h.2.1 e)).n
  exact Nat.le_trans (OKS_len h hz) (by omega)
/-- the world's cells change, and the log's -/
theorem RC.wo {M M' : zM} {D : yD} {W : yW} {L : List yL} (hR : RC M D) (h : CN M' 62 66 67 62 (dT D) (dc D) (W, some L)) (f : Fi (FW 62) M M') : RC M' (dwS D W L) :=
  ⟨h, (f.1 _ _ (fun q => by have := q.1; omega)).trans hR.2.1, RTp_fi hR.2.2.1 f.fr ⟨fun q => by have := q.1; omega, fun k q => by have := q.1; omega⟩, fun i hi => ⟨(f.1 _ _ (fun q => by have := q.2; omega)).trans (hR.2.2.2 i hi).1, (f.1 _ _ (fun q => by have := q.2; omega)).trans (hR.2.2.2 i hi).2⟩⟩
theorem FW.c {M M' : zM} (f : Fi (FW 62) M M') : Fc M M' := f.fr.c (fun a k ha q => by have := q.1; have := q.2; omega)
theorem d91_0 : decode (zB 91) 0 = .ok (.iload_n 2, 1) := by decide +kernel
theorem d91_1 : decode (zB 91) 1 = .ok (.iconst 0, 1) := by decide +kernel
theorem d91_2 : decode (zB 91) 2 = .ok (.iconst 2, 1) := by decide +kernel
theorem d91_3 : decode (zB 91) 3 = .ok (.invokestatic 55, 3) := by decide +kernel
theorem d91_6 : decode (zB 91) 6 = .ok (.ifCond .ne 6, 3) := by decide +kernel
theorem d91_9 : decode (zB 91) 9 = .ok (.bipush (-2), 2) := by decide +kernel
theorem d91_11 : decode (zB 91) 11 = .ok (.ireturn, 1) := by decide +kernel
theorem d91_12 : decode (zB 91) 12 = .ok (.iload_n 1, 1) := by decide +kernel
theorem d91_13 : decode (zB 91) 13 = .ok (.iconst 0, 1) := by decide +kernel
theorem d91_14 : decode (zB 91) 14 = .ok (.aload_n 0, 1) := by decide +kernel
theorem d91_15 : decode (zB 91) 15 = .ok (.getfield 28, 3) := by decide +kernel
theorem d91_18 : decode (zB 91) 18 = .ok (.getfield 154, 3) := by decide +kernel
theorem d91_21 : decode (zB 91) 21 = .ok (.iconst 1, 1) := by decide +kernel
theorem d91_22 : decode (zB 91) 22 = .ok (.isub, 1) := by decide +kernel
theorem d91_23 : decode (zB 91) 23 = .ok (.invokestatic 55, 3) := by decide +kernel
theorem d91_26 : decode (zB 91) 26 = .ok (.ifCond .ne 6, 3) := by decide +kernel
theorem d91_29 : decode (zB 91) 29 = .ok (.bipush (-12), 2) := by decide +kernel
theorem d91_31 : decode (zB 91) 31 = .ok (.ireturn, 1) := by decide +kernel
theorem d91_32 : decode (zB 91) 32 = .ok (.iload_n 2, 1) := by decide +kernel
theorem d91_33 : decode (zB 91) 33 = .ok (.ifCond .ne 15, 3) := by decide +kernel
theorem d91_36 : decode (zB 91) 36 = .ok (.aload_n 0, 1) := by decide +kernel
theorem d91_37 : decode (zB 91) 37 = .ok (.getfield 28, 3) := by decide +kernel
theorem d91_40 : decode (zB 91) 40 = .ok (.getfield 208, 3) := by decide +kernel
theorem d91_43 : decode (zB 91) 43 = .ok (.iload_n 1, 1) := by decide +kernel
theorem d91_44 : decode (zB 91) 44 = .ok (.iaload, 1) := by decide +kernel
theorem d91_45 : decode (zB 91) 45 = .ok (.goto 29, 3) := by decide +kernel
theorem d91_48 : decode (zB 91) 48 = .ok (.iload_n 2, 1) := by decide +kernel
theorem d91_49 : decode (zB 91) 49 = .ok (.iconst 1, 1) := by decide +kernel
theorem d91_50 : decode (zB 91) 50 = .ok (.if_icmp .ne 15, 3) := by decide +kernel
theorem d91_53 : decode (zB 91) 53 = .ok (.aload_n 0, 1) := by decide +kernel
theorem d91_54 : decode (zB 91) 54 = .ok (.getfield 28, 3) := by decide +kernel
theorem d91_57 : decode (zB 91) 57 = .ok (.getfield 211, 3) := by decide +kernel
theorem d91_60 : decode (zB 91) 60 = .ok (.iload_n 1, 1) := by decide +kernel
theorem d91_61 : decode (zB 91) 61 = .ok (.iaload, 1) := by decide +kernel
theorem d91_62 : decode (zB 91) 62 = .ok (.goto 12, 3) := by decide +kernel
theorem d91_65 : decode (zB 91) 65 = .ok (.aload_n 0, 1) := by decide +kernel
theorem d91_66 : decode (zB 91) 66 = .ok (.getfield 28, 3) := by decide +kernel
theorem d91_69 : decode (zB 91) 69 = .ok (.getfield 214, 3) := by decide +kernel
theorem d91_72 : decode (zB 91) 72 = .ok (.iload_n 1, 1) := by decide +kernel
theorem d91_73 : decode (zB 91) 73 = .ok (.iaload, 1) := by decide +kernel
theorem d91_74 : decode (zB 91) 74 = .ok (.ireturn, 1) := by decide +kernel
theorem p91 {d : Nat} {M : zM} {Q : Option Value → zM → Prop} {D : yD} {x y : Int32} (hR : RC M D) (hD : OKD D) (k : ∀ M', RC M' D → Fc M M' → Q (some (.int (sLine D x y))) M') : qC (d + 2) 91 [.ref 16, .int x, .int y] M Q := by
  refine qC_of (by decide) (Nat.le_of_ble_eq_true rfl) ?_
  have hS := hR.1.1
  have hT := hR.1.2.2.1
  have hO := hR.1.2.2.2.1
  have hRW := hR.1.2.2.2.2
  have hJ : RL M 62 (dL D) := hRW.2.2.2
  have hc6 := hO.1.1
  have h240 := hD.2.1
  have h120 := hR.2.2.1.1
  have hwr := hS.wo (Or.inl ⟨rfl, rfl, rfl, rfl⟩)
  have hwt := hS.wo (Or.inr ⟨rfl, rfl, rfl, rfl⟩)
  have hpr := hS.pu (Or.inl ⟨rfl, rfl, rfl, rfl⟩)
  have hpt := hS.pu (Or.inr ⟨rfl, rfl, rfl, rfl⟩)
  unfold sLine at k
  rcases zix_c y (n := 3) (by omega) with ⟨w, hw, rfl, ew⟩ | ⟨ew, nw⟩
  · rw [oz_s ew] at k
    rcases zix_c x (n := (dL D).length) (by omega) with ⟨n, hn, rfl, en⟩ | ⟨en, nn⟩
    · rw [oz_s en] at k
      rcases (show w = 0 ∨ w = 1 ∨ w = 2 by omega) with rfl | rfl | rfl
      · refine q_iload_n d91_0 rfl ?_
        refine q_iconstN (z := 0) d91_1 ?_
        refine q_iconstN (z := 2) d91_2 ?_
        refine q_s3 d91_3 (Or.inl rfl) rfl (Nat.le_of_ble_eq_true rfl) (c10t ⟨by decide, by decide⟩ (by decide) ?_)
        refine n0_ne 12 d91_6 (by decide) (by decide) (fun _ => ?_) (fun q => absurd q (by decide))
        refine q_iload_n d91_12 rfl ?_
        refine q_iconstN (z := 0) d91_13 ?_
        refine q_aload_n d91_14 rfl ?_
        refine q_getr (c := 7) (f := 3) d91_15 ⟨rfl, rfl⟩ (hS.1.1) (hS.1.2.2.2.2.2.1) ?_
        refine q_getv (c := 0) (f := 3) d91_18 ⟨rfl, by decide⟩ hS.2.2.2.1.1 hJ.1 ?_
        refine q_iconstN (z := 1) d91_21 ?_
        refine n_isub d91_22 (by omega) ?_
        refine q_s3 d91_23 (Or.inl rfl) rfl (Nat.le_of_ble_eq_true rfl) (c10t ⟨by omega, by omega⟩ (by omega) ?_)
        refine n0_ne 32 d91_26 (by decide) (by decide) (fun _ => ?_) (fun q => absurd q (by decide))
        refine q_iload_n d91_32 rfl ?_
        refine n0_ne 48 d91_33 (by decide) (by decide) (fun q => absurd q (by decide)) (fun _ => ?_)
        refine q_aload_n d91_36 rfl ?_
        refine q_getr (c := 7) (f := 3) d91_37 ⟨rfl, rfl⟩ (hS.1.1) (hS.1.2.2.2.2.2.1) ?_
        refine q_getr (c := 0) (f := 0) d91_40 ⟨rfl, rfl⟩ hS.2.2.2.1.1 (hS.2.2.2.1.2 0 (by decide)).1 ?_
        refine q_iload_n d91_43 rfl ?_
        refine n_iald d91_44 (hS.2.2.2.1.2 0 (by decide)).2 (by omega) (by decide) (hJ.2 _ (by omega)).1 ?_
        refine q_goto 74 d91_45 (by decide) ?_
        refine q_iret d91_74 rfl ?_
        exact k _ hR (Fc.refl _)
      · refine q_iload_n d91_0 rfl ?_
        refine q_iconstN (z := 0) d91_1 ?_
        refine q_iconstN (z := 2) d91_2 ?_
        refine q_s3 d91_3 (Or.inl rfl) rfl (Nat.le_of_ble_eq_true rfl) (c10t ⟨by decide, by decide⟩ (by decide) ?_)
        refine n0_ne 12 d91_6 (by decide) (by decide) (fun _ => ?_) (fun q => absurd q (by decide))
        refine q_iload_n d91_12 rfl ?_
        refine q_iconstN (z := 0) d91_13 ?_
        refine q_aload_n d91_14 rfl ?_
        refine q_getr (c := 7) (f := 3) d91_15 ⟨rfl, rfl⟩ (hS.1.1) (hS.1.2.2.2.2.2.1) ?_
        refine q_getv (c := 0) (f := 3) d91_18 ⟨rfl, by decide⟩ hS.2.2.2.1.1 hJ.1 ?_
        refine q_iconstN (z := 1) d91_21 ?_
        refine n_isub d91_22 (by omega) ?_
        refine q_s3 d91_23 (Or.inl rfl) rfl (Nat.le_of_ble_eq_true rfl) (c10t ⟨by omega, by omega⟩ (by omega) ?_)
        refine n0_ne 32 d91_26 (by decide) (by decide) (fun _ => ?_) (fun q => absurd q (by decide))
        refine q_iload_n d91_32 rfl ?_
        refine n0_ne 48 d91_33 (by decide) (by decide) (fun _ => ?_) (fun q => absurd q (by decide))
        refine q_iload_n d91_48 rfl ?_
        refine q_iconstN (z := 1) d91_49 ?_
        refine nc_ne 65 d91_50 (by decide) (by decide) (by decide) (fun q => absurd q (by decide)) (fun _ => ?_)
        refine q_aload_n d91_53 rfl ?_
        refine q_getr (c := 7) (f := 3) d91_54 ⟨rfl, rfl⟩ (hS.1.1) (hS.1.2.2.2.2.2.1) ?_
        refine q_getr (c := 0) (f := 1) d91_57 ⟨rfl, rfl⟩ hS.2.2.2.1.1 (hS.2.2.2.1.2 1 (by decide)).1 ?_
        refine q_iload_n d91_60 rfl ?_
        refine n_iald d91_61 (hS.2.2.2.1.2 1 (by decide)).2 (by omega) (by decide) (hJ.2 _ (by omega)).2.1 ?_
        refine q_goto 74 d91_62 (by decide) ?_
        refine q_iret d91_74 rfl ?_
        exact k _ hR (Fc.refl _)
      · refine q_iload_n d91_0 rfl ?_
        refine q_iconstN (z := 0) d91_1 ?_
        refine q_iconstN (z := 2) d91_2 ?_
        refine q_s3 d91_3 (Or.inl rfl) rfl (Nat.le_of_ble_eq_true rfl) (c10t ⟨by decide, by decide⟩ (by decide) ?_)
        refine n0_ne 12 d91_6 (by decide) (by decide) (fun _ => ?_) (fun q => absurd q (by decide))
        refine q_iload_n d91_12 rfl ?_
        refine q_iconstN (z := 0) d91_13 ?_
        refine q_aload_n d91_14 rfl ?_
        refine q_getr (c := 7) (f := 3) d91_15 ⟨rfl, rfl⟩ (hS.1.1) (hS.1.2.2.2.2.2.1) ?_
        refine q_getv (c := 0) (f := 3) d91_18 ⟨rfl, by decide⟩ hS.2.2.2.1.1 hJ.1 ?_
        refine q_iconstN (z := 1) d91_21 ?_
        refine n_isub d91_22 (by omega) ?_
        refine q_s3 d91_23 (Or.inl rfl) rfl (Nat.le_of_ble_eq_true rfl) (c10t ⟨by omega, by omega⟩ (by omega) ?_)
        refine n0_ne 32 d91_26 (by decide) (by decide) (fun _ => ?_) (fun q => absurd q (by decide))
        refine q_iload_n d91_32 rfl ?_
        refine n0_ne 48 d91_33 (by decide) (by decide) (fun _ => ?_) (fun q => absurd q (by decide))
        refine q_iload_n d91_48 rfl ?_
        refine q_iconstN (z := 1) d91_49 ?_
        refine nc_ne 65 d91_50 (by decide) (by decide) (by decide) (fun _ => ?_) (fun q => absurd q (by decide))
        refine q_aload_n d91_65 rfl ?_
        refine q_getr (c := 7) (f := 3) d91_66 ⟨rfl, rfl⟩ (hS.1.1) (hS.1.2.2.2.2.2.1) ?_
        refine q_getr (c := 0) (f := 2) d91_69 ⟨rfl, rfl⟩ hS.2.2.2.1.1 (hS.2.2.2.1.2 2 (by decide)).1 ?_
        refine q_iload_n d91_72 rfl ?_
        refine n_iald d91_73 (hS.2.2.2.1.2 2 (by decide)).2 (by omega) (by decide) (hJ.2 _ (by omega)).2.2 ?_
        refine q_iret d91_74 rfl ?_
        exact k _ hR (Fc.refl _)
    · rw [oz_n en] at k
      refine q_iload_n d91_0 rfl ?_
      refine q_iconstN (z := 0) d91_1 ?_
      refine q_iconstN (z := 2) d91_2 ?_
      refine q_s3 d91_3 (Or.inl rfl) rfl (Nat.le_of_ble_eq_true rfl) (c10t ⟨by omega, by omega⟩ (by decide) ?_)
      refine n0_ne 12 d91_6 (by decide) (by decide) (fun _ => ?_) (fun q => absurd q (by decide))
      refine q_iload_n d91_12 rfl ?_
      refine q_iconstN (z := 0) d91_13 ?_
      refine q_aload_n d91_14 rfl ?_
      refine q_getr (c := 7) (f := 3) d91_15 ⟨rfl, rfl⟩ (hS.1.1) (hS.1.2.2.2.2.2.1) ?_
      refine q_getv (c := 0) (f := 3) d91_18 ⟨rfl, by decide⟩ hS.2.2.2.1.1 hJ.1 ?_
      refine q_iconstN (z := 1) d91_21 ?_
      refine q_isub d91_22 ?_
      refine q_s3 d91_23 (Or.inl rfl) rfl (Nat.le_of_ble_eq_true rfl) (c10e en (by omega) ?_)
      refine n0_ne 32 d91_26 (by decide) (by decide) (fun q => absurd q (by decide)) (fun _ => ?_)
      refine q_bipush (x := (-12)) d91_29 rfl ?_
      refine q_iret d91_31 rfl ?_
      exact k _ hR (Fc.refl _)
  · rw [oz_n ew] at k
    refine q_iload_n d91_0 rfl ?_
    refine q_iconstN (z := 0) d91_1 ?_
    refine q_iconstN (z := 2) d91_2 ?_
    refine q_s3 d91_3 (Or.inl rfl) rfl (Nat.le_of_ble_eq_true rfl) (c10f (by decide) (by omega) (by decide) ?_)
    refine n0_ne 12 d91_6 (by decide) (by decide) (fun q => absurd q (by decide)) (fun _ => ?_)
    refine q_bipush (x := (-2)) d91_9 rfl ?_
    refine q_iret d91_11 rfl ?_
    exact k _ hR (Fc.refl _)
theorem d87_0 : decode (zB 87) 0 = .ok (.iload_n 1, 1) := by decide +kernel
theorem d87_1 : decode (zB 87) 1 = .ok (.invokestatic 141, 3) := by decide +kernel
theorem d87_4 : decode (zB 87) 4 = .ok (.ifCond .ne 6, 3) := by decide +kernel
theorem d87_7 : decode (zB 87) 7 = .ok (.bipush (-2), 2) := by decide +kernel
theorem d87_9 : decode (zB 87) 9 = .ok (.ireturn, 1) := by decide +kernel
theorem d87_10 : decode (zB 87) 10 = .ok (.aload_n 0, 1) := by decide +kernel
theorem d87_11 : decode (zB 87) 11 = .ok (.getfield 37, 3) := by decide +kernel
theorem d87_14 : decode (zB 87) 14 = .ok (.getfield 144, 3) := by decide +kernel
theorem d87_17 : decode (zB 87) 17 = .ok (.iload_n 1, 1) := by decide +kernel
theorem d87_18 : decode (zB 87) 18 = .ok (.aaload, 1) := by decide +kernel
theorem d87_19 : decode (zB 87) 19 = .ok (.astore_n 3, 1) := by decide +kernel
theorem d87_20 : decode (zB 87) 20 = .ok (.iload_n 2, 1) := by decide +kernel
theorem d87_21 : decode (zB 87) 21 = .ok (.tableswitch 95 0 7 #[47, 52, 57, 62, 67, 72, 77, 90], 47) := by decide +kernel
theorem d87_68 : decode (zB 87) 68 = .ok (.aload_n 3, 1) := by decide +kernel
theorem d87_69 : decode (zB 87) 69 = .ok (.getfield 166, 3) := by decide +kernel
theorem d87_72 : decode (zB 87) 72 = .ok (.ireturn, 1) := by decide +kernel
theorem d87_73 : decode (zB 87) 73 = .ok (.aload_n 3, 1) := by decide +kernel
theorem d87_74 : decode (zB 87) 74 = .ok (.getfield 178, 3) := by decide +kernel
theorem d87_77 : decode (zB 87) 77 = .ok (.ireturn, 1) := by decide +kernel
theorem d87_78 : decode (zB 87) 78 = .ok (.aload_n 3, 1) := by decide +kernel
theorem d87_79 : decode (zB 87) 79 = .ok (.getfield 181, 3) := by decide +kernel
theorem d87_82 : decode (zB 87) 82 = .ok (.ireturn, 1) := by decide +kernel
theorem d87_83 : decode (zB 87) 83 = .ok (.aload_n 3, 1) := by decide +kernel
theorem d87_84 : decode (zB 87) 84 = .ok (.getfield 184, 3) := by decide +kernel
theorem d87_87 : decode (zB 87) 87 = .ok (.ireturn, 1) := by decide +kernel
theorem d87_88 : decode (zB 87) 88 = .ok (.aload_n 3, 1) := by decide +kernel
theorem d87_89 : decode (zB 87) 89 = .ok (.getfield 187, 3) := by decide +kernel
theorem d87_92 : decode (zB 87) 92 = .ok (.ireturn, 1) := by decide +kernel
theorem d87_93 : decode (zB 87) 93 = .ok (.aload_n 3, 1) := by decide +kernel
theorem d87_94 : decode (zB 87) 94 = .ok (.invokevirtual 190, 3) := by decide +kernel
theorem d87_97 : decode (zB 87) 97 = .ok (.ireturn, 1) := by decide +kernel
theorem d87_98 : decode (zB 87) 98 = .ok (.aload_n 3, 1) := by decide +kernel
theorem d87_99 : decode (zB 87) 99 = .ok (.invokevirtual 193, 3) := by decide +kernel
theorem d87_102 : decode (zB 87) 102 = .ok (.ifCond .eq 7, 3) := by decide +kernel
theorem d87_105 : decode (zB 87) 105 = .ok (.iconst 1, 1) := by decide +kernel
theorem d87_106 : decode (zB 87) 106 = .ok (.goto 4, 3) := by decide +kernel
theorem d87_109 : decode (zB 87) 109 = .ok (.iconst 0, 1) := by decide +kernel
theorem d87_110 : decode (zB 87) 110 = .ok (.ireturn, 1) := by decide +kernel
theorem d87_111 : decode (zB 87) 111 = .ok (.aload_n 3, 1) := by decide +kernel
theorem d87_112 : decode (zB 87) 112 = .ok (.invokevirtual 196, 3) := by decide +kernel
theorem d87_115 : decode (zB 87) 115 = .ok (.ireturn, 1) := by decide +kernel
theorem d87_116 : decode (zB 87) 116 = .ok (.bipush (-2), 2) := by decide +kernel
theorem d87_118 : decode (zB 87) 118 = .ok (.ireturn, 1) := by decide +kernel
theorem p87 {d : Nat} {M : zM} {Q : Option Value → zM → Prop} {D : yD} {x y : Int32} (hR : RC M D) (hD : OKD D) (k : ∀ M', RC M' D → Fc M M' → Q (some (.int (sTold D x y))) M') : qC (d + 4) 87 [.ref 16, .int x, .int y] M Q := by
  refine qC_of (by decide) (Nat.le_of_ble_eq_true rfl) ?_
  have hS := hR.1.1
  have hT := hR.1.2.2.1
  have hO := hR.1.2.2.2.1
  have hRW := hR.1.2.2.2.2
  have hJ : RL M 62 (dL D) := hRW.2.2.2
  have hc6 := hO.1.1
  have h240 := hD.2.1
  have h120 := hR.2.2.1.1
  have hwr := hS.wo (Or.inl ⟨rfl, rfl, rfl, rfl⟩)
  have hwt := hS.wo (Or.inr ⟨rfl, rfl, rfl, rfl⟩)
  have hpr := hS.pu (Or.inl ⟨rfl, rfl, rfl, rfl⟩)
  have hpt := hS.pu (Or.inr ⟨rfl, rfl, rfl, rfl⟩)
  unfold sTold at k
  rcases zix_c x (n := 3) (by omega) with ⟨s, hs, rfl, es⟩ | ⟨es, ns⟩
  · rw [oz_s es] at k
    have hsg := hS.sg (show zSa (70 + 8 * s) by unfold zSa; omega)
    have hOs : OKS (dT D) (dc D) (dS D s) := hO.2.2 s hs
    have hg5 := hOs.1
    have hRs : RS M (70 + 8 * s) (dT D) (yNm (dT D) (dW D) s) (dS D s) := hRW.2.1 s hs
    obtain ⟨⟨q0, q1, q2⟩, ⟨q3, q4, q5⟩, ⟨q7, q8⟩, q9, qa, qb⟩ := hRs
    rcases zix_c y (n := 8) (by omega) with ⟨w, hw, rfl, ew⟩ | ⟨ew, nw⟩
    · rw [oz_s ew] at k
      rcases (show w = 0 ∨ w = 1 ∨ w = 2 ∨ w = 3 ∨ w = 4 ∨ w = 5 ∨ w = 6 ∨ w = 7 by omega) with rfl | rfl | rfl | rfl | rfl | rfl | rfl | rfl
      · refine q_iload_n d87_0 rfl ?_
        refine q_s1 d87_1 (Or.inl rfl) rfl (Nat.le_of_ble_eq_true rfl) (c60t (by omega) ?_)
        refine n0_ne 10 d87_4 (by decide) (by decide) (fun _ => ?_) (fun q => absurd q (by decide))
        refine q_aload_n d87_10 rfl ?_
        refine q_getr (c := 7) (f := 4) d87_11 ⟨rfl, rfl⟩ (hS.1.1) (hS.1.2.2.2.2.2.2.1) ?_
        refine q_getr (c := 6) (f := 3) d87_14 ⟨rfl, rfl⟩ hwr.1 hwr.2.2.2.2.1 ?_
        refine q_iload_n d87_17 rfl ?_
        refine n_aald d87_18 hwr.2.2.2.2.2.1 (by decide) (by omega) (by decide) (hwr.2.2.2.2.2.2 _ (by omega)) ?_
        refine q_astore_n d87_19 (by decide) rfl ?_
        refine q_iload_n d87_20 rfl ?_
        refine n_tsI (47) 68 d87_21 (by decide) (by decide) rfl (by decide) ?_
        refine q_aload_n d87_68 rfl ?_
        refine q_getv (c := 5) (f := 0) d87_69 ⟨rfl, by decide⟩ hsg.1 q0 ?_
        refine q_iret d87_72 rfl ?_
        exact k _ hR (Fc.refl _)
      · refine q_iload_n d87_0 rfl ?_
        refine q_s1 d87_1 (Or.inl rfl) rfl (Nat.le_of_ble_eq_true rfl) (c60t (by omega) ?_)
        refine n0_ne 10 d87_4 (by decide) (by decide) (fun _ => ?_) (fun q => absurd q (by decide))
        refine q_aload_n d87_10 rfl ?_
        refine q_getr (c := 7) (f := 4) d87_11 ⟨rfl, rfl⟩ (hS.1.1) (hS.1.2.2.2.2.2.2.1) ?_
        refine q_getr (c := 6) (f := 3) d87_14 ⟨rfl, rfl⟩ hwr.1 hwr.2.2.2.2.1 ?_
        refine q_iload_n d87_17 rfl ?_
        refine n_aald d87_18 hwr.2.2.2.2.2.1 (by decide) (by omega) (by decide) (hwr.2.2.2.2.2.2 _ (by omega)) ?_
        refine q_astore_n d87_19 (by decide) rfl ?_
        refine q_iload_n d87_20 rfl ?_
        refine n_tsI (52) 73 d87_21 (by decide) (by decide) rfl (by decide) ?_
        refine q_aload_n d87_73 rfl ?_
        refine q_getv (c := 5) (f := 1) d87_74 ⟨rfl, by decide⟩ hsg.1 q1 ?_
        refine q_iret d87_77 rfl ?_
        exact k _ hR (Fc.refl _)
      · refine q_iload_n d87_0 rfl ?_
        refine q_s1 d87_1 (Or.inl rfl) rfl (Nat.le_of_ble_eq_true rfl) (c60t (by omega) ?_)
        refine n0_ne 10 d87_4 (by decide) (by decide) (fun _ => ?_) (fun q => absurd q (by decide))
        refine q_aload_n d87_10 rfl ?_
        refine q_getr (c := 7) (f := 4) d87_11 ⟨rfl, rfl⟩ (hS.1.1) (hS.1.2.2.2.2.2.2.1) ?_
        refine q_getr (c := 6) (f := 3) d87_14 ⟨rfl, rfl⟩ hwr.1 hwr.2.2.2.2.1 ?_
        refine q_iload_n d87_17 rfl ?_
        refine n_aald d87_18 hwr.2.2.2.2.2.1 (by decide) (by omega) (by decide) (hwr.2.2.2.2.2.2 _ (by omega)) ?_
        refine q_astore_n d87_19 (by decide) rfl ?_
        refine q_iload_n d87_20 rfl ?_
        refine n_tsI (57) 78 d87_21 (by decide) (by decide) rfl (by decide) ?_
        refine q_aload_n d87_78 rfl ?_
        refine q_getv (c := 5) (f := 3) d87_79 ⟨rfl, by decide⟩ hsg.1 q3 ?_
        refine q_iret d87_82 rfl ?_
        exact k _ hR (Fc.refl _)
      · refine q_iload_n d87_0 rfl ?_
        refine q_s1 d87_1 (Or.inl rfl) rfl (Nat.le_of_ble_eq_true rfl) (c60t (by omega) ?_)
        refine n0_ne 10 d87_4 (by decide) (by decide) (fun _ => ?_) (fun q => absurd q (by decide))
        refine q_aload_n d87_10 rfl ?_
        refine q_getr (c := 7) (f := 4) d87_11 ⟨rfl, rfl⟩ (hS.1.1) (hS.1.2.2.2.2.2.2.1) ?_
        refine q_getr (c := 6) (f := 3) d87_14 ⟨rfl, rfl⟩ hwr.1 hwr.2.2.2.2.1 ?_
        refine q_iload_n d87_17 rfl ?_
        refine n_aald d87_18 hwr.2.2.2.2.2.1 (by decide) (by omega) (by decide) (hwr.2.2.2.2.2.2 _ (by omega)) ?_
        refine q_astore_n d87_19 (by decide) rfl ?_
        refine q_iload_n d87_20 rfl ?_
        refine n_tsI (62) 83 d87_21 (by decide) (by decide) rfl (by decide) ?_
        refine q_aload_n d87_83 rfl ?_
        refine q_getv (c := 5) (f := 4) d87_84 ⟨rfl, by decide⟩ hsg.1 q4 ?_
        refine q_iret d87_87 rfl ?_
        exact k _ hR (Fc.refl _)
      · refine q_iload_n d87_0 rfl ?_
        refine q_s1 d87_1 (Or.inl rfl) rfl (Nat.le_of_ble_eq_true rfl) (c60t (by omega) ?_)
        refine n0_ne 10 d87_4 (by decide) (by decide) (fun _ => ?_) (fun q => absurd q (by decide))
        refine q_aload_n d87_10 rfl ?_
        refine q_getr (c := 7) (f := 4) d87_11 ⟨rfl, rfl⟩ (hS.1.1) (hS.1.2.2.2.2.2.2.1) ?_
        refine q_getr (c := 6) (f := 3) d87_14 ⟨rfl, rfl⟩ hwr.1 hwr.2.2.2.2.1 ?_
        refine q_iload_n d87_17 rfl ?_
        refine n_aald d87_18 hwr.2.2.2.2.2.1 (by decide) (by omega) (by decide) (hwr.2.2.2.2.2.2 _ (by omega)) ?_
        refine q_astore_n d87_19 (by decide) rfl ?_
        refine q_iload_n d87_20 rfl ?_
        refine n_tsI (67) 88 d87_21 (by decide) (by decide) rfl (by decide) ?_
        refine q_aload_n d87_88 rfl ?_
        refine q_getv (c := 5) (f := 5) d87_89 ⟨rfl, by decide⟩ hsg.1 q5 ?_
        refine q_iret d87_92 rfl ?_
        exact k _ hR (Fc.refl _)
      · have k2 : ∀ M', RC M' D → Fc M M' → Q (some (.int (if gt (dS D s) = 1 then nI (yfr (dT D (gx (dS D s))) (dS D s)) else nI 0))) M' := k
        by_cases hg : gt (dS D s) = 0
        · rw [if_neg (by omega)] at k2
          have e2 : zr M (70 + 8 * s) 2 = none := q2.trans (if_pos hg)
          refine q_iload_n d87_0 rfl ?_
          refine q_s1 d87_1 (Or.inl rfl) rfl (Nat.le_of_ble_eq_true rfl) (c60t (by omega) ?_)
          refine n0_ne 10 d87_4 (by decide) (by decide) (fun _ => ?_) (fun q => absurd q (by decide))
          refine q_aload_n d87_10 rfl ?_
          refine q_getr (c := 7) (f := 4) d87_11 ⟨rfl, rfl⟩ (hS.1.1) (hS.1.2.2.2.2.2.2.1) ?_
          refine q_getr (c := 6) (f := 3) d87_14 ⟨rfl, rfl⟩ hwr.1 hwr.2.2.2.2.1 ?_
          refine q_iload_n d87_17 rfl ?_
          refine n_aald d87_18 hwr.2.2.2.2.2.1 (by decide) (by omega) (by decide) (hwr.2.2.2.2.2.2 _ (by omega)) ?_
          refine q_astore_n d87_19 (by decide) rfl ?_
          refine q_iload_n d87_20 rfl ?_
          refine n_tsI (72) 93 d87_21 (by decide) (by decide) rfl (by decide) ?_
          refine q_aload_n d87_93 rfl ?_
          refine q_v0 d87_94 rfl rfl hsg.1 (Nat.le_of_ble_eq_true rfl) (c71n hsg e2 ?_)
          refine q_iret d87_97 rfl ?_
          exact k2 _ hR (Fc.refl _)
        · skip
          have e2 : zr M (70 + 8 * s) 2 = some (20 + 7 * gx (dS D s)) := q2.trans (if_neg hg)
          have hx : gx (dS D s) < dc D := hOs.2.1 hg
          have ho := hO.1.2 _ hx
          have hn := ho.n
          refine q_iload_n d87_0 rfl ?_
          refine q_s1 d87_1 (Or.inl rfl) rfl (Nat.le_of_ble_eq_true rfl) (c60t (by omega) ?_)
          refine n0_ne 10 d87_4 (by decide) (by decide) (fun _ => ?_) (fun q => absurd q (by decide))
          refine q_aload_n d87_10 rfl ?_
          refine q_getr (c := 7) (f := 4) d87_11 ⟨rfl, rfl⟩ (hS.1.1) (hS.1.2.2.2.2.2.2.1) ?_
          refine q_getr (c := 6) (f := 3) d87_14 ⟨rfl, rfl⟩ hwr.1 hwr.2.2.2.2.1 ?_
          refine q_iload_n d87_17 rfl ?_
          refine n_aald d87_18 hwr.2.2.2.2.2.1 (by decide) (by omega) (by decide) (hwr.2.2.2.2.2.2 _ (by omega)) ?_
          refine q_astore_n d87_19 (by decide) rfl ?_
          refine q_iload_n d87_20 rfl ?_
          refine n_tsI (72) 93 d87_21 (by decide) (by decide) rfl (by decide) ?_
          refine q_aload_n d87_93 rfl ?_
          refine q_v0 d87_94 rfl rfl hsg.1 (Nat.le_of_ble_eq_true rfl) (c71 hsg e2 (hS.pr (by omega)) (hT _ hx) ho hOs.2.2.2.2.2 q0 hOs.1 q3 q4 q5 ?_)
          refine q_iret d87_97 rfl ?_
          by_cases h1 : gt (dS D s) = 1
          · rw [if_pos h1] at k2 ⊢; exact k2 _ hR (Fc.refl _)
          · rw [if_neg h1] at k2 ⊢; exact k2 _ hR (Fc.refl _)
      · have k2 : ∀ M', RC M' D → Fc M M' → Q (some (.int (if gt (dS D s) = 0 then nI 0 else bI (ypa (dT D (gx (dS D s))) (gm (dS D s) 1))))) M' := k
        by_cases hg : gt (dS D s) = 0
        · rw [if_pos hg] at k2
          have e2 : zr M (70 + 8 * s) 2 = none := q2.trans (if_pos hg)
          refine q_iload_n d87_0 rfl ?_
          refine q_s1 d87_1 (Or.inl rfl) rfl (Nat.le_of_ble_eq_true rfl) (c60t (by omega) ?_)
          refine n0_ne 10 d87_4 (by decide) (by decide) (fun _ => ?_) (fun q => absurd q (by decide))
          refine q_aload_n d87_10 rfl ?_
          refine q_getr (c := 7) (f := 4) d87_11 ⟨rfl, rfl⟩ (hS.1.1) (hS.1.2.2.2.2.2.2.1) ?_
          refine q_getr (c := 6) (f := 3) d87_14 ⟨rfl, rfl⟩ hwr.1 hwr.2.2.2.2.1 ?_
          refine q_iload_n d87_17 rfl ?_
          refine n_aald d87_18 hwr.2.2.2.2.2.1 (by decide) (by omega) (by decide) (hwr.2.2.2.2.2.2 _ (by omega)) ?_
          refine q_astore_n d87_19 (by decide) rfl ?_
          refine q_iload_n d87_20 rfl ?_
          refine n_tsI (77) 98 d87_21 (by decide) (by decide) rfl (by decide) ?_
          refine q_aload_n d87_98 rfl ?_
          refine q_v0 d87_99 rfl rfl hsg.1 (Nat.le_of_ble_eq_true rfl) (c88n hsg e2 ?_)
          refine n0_eq 109 d87_102 (by decide) (by decide) (fun _ => ?_) (fun q => absurd q (by decide))
          refine q_iconstN (z := 0) d87_109 ?_
          refine q_iret d87_110 rfl ?_
          exact k2 _ hR (Fc.refl _)
        · rw [if_neg hg] at k2
          have e2 : zr M (70 + 8 * s) 2 = some (20 + 7 * gx (dS D s)) := q2.trans (if_neg hg)
          have hx : gx (dS D s) < dc D := hOs.2.1 hg
          have ho := hO.1.2 _ hx
          have hn := ho.n
          refine q_iload_n d87_0 rfl ?_
          refine q_s1 d87_1 (Or.inl rfl) rfl (Nat.le_of_ble_eq_true rfl) (c60t (by omega) ?_)
          refine n0_ne 10 d87_4 (by decide) (by decide) (fun _ => ?_) (fun q => absurd q (by decide))
          refine q_aload_n d87_10 rfl ?_
          refine q_getr (c := 7) (f := 4) d87_11 ⟨rfl, rfl⟩ (hS.1.1) (hS.1.2.2.2.2.2.2.1) ?_
          refine q_getr (c := 6) (f := 3) d87_14 ⟨rfl, rfl⟩ hwr.1 hwr.2.2.2.2.1 ?_
          refine q_iload_n d87_17 rfl ?_
          refine n_aald d87_18 hwr.2.2.2.2.2.1 (by decide) (by omega) (by decide) (hwr.2.2.2.2.2.2 _ (by omega)) ?_
          refine q_astore_n d87_19 (by decide) rfl ?_
          refine q_iload_n d87_20 rfl ?_
          refine n_tsI (77) 98 d87_21 (by decide) (by decide) rfl (by decide) ?_
          refine q_aload_n d87_98 rfl ?_
          refine q_v0 d87_99 rfl rfl hsg.1 (Nat.le_of_ble_eq_true rfl) (c88 hsg e2 (hS.pr (by omega)) (hT _ hx) q3 ?_)
          refine b0_eq 109 d87_102 (by decide) (fun h102 => ?_) (fun h102 => ?_)
          · refine q_iconstN (z := 0) d87_109 ?_
            refine q_iret d87_110 rfl ?_
            rw [h102] at k2; exact k2 _ hR (Fc.refl _)
          · refine q_iconstN (z := 1) d87_105 ?_
            refine q_goto 110 d87_106 (by decide) ?_
            refine q_iret d87_110 rfl ?_
            rw [h102] at k2; exact k2 _ hR (Fc.refl _)
      · refine q_iload_n d87_0 rfl ?_
        refine q_s1 d87_1 (Or.inl rfl) rfl (Nat.le_of_ble_eq_true rfl) (c60t (by omega) ?_)
        refine n0_ne 10 d87_4 (by decide) (by decide) (fun _ => ?_) (fun q => absurd q (by decide))
        refine q_aload_n d87_10 rfl ?_
        refine q_getr (c := 7) (f := 4) d87_11 ⟨rfl, rfl⟩ (hS.1.1) (hS.1.2.2.2.2.2.2.1) ?_
        refine q_getr (c := 6) (f := 3) d87_14 ⟨rfl, rfl⟩ hwr.1 hwr.2.2.2.2.1 ?_
        refine q_iload_n d87_17 rfl ?_
        refine n_aald d87_18 hwr.2.2.2.2.2.1 (by decide) (by omega) (by decide) (hwr.2.2.2.2.2.2 _ (by omega)) ?_
        refine q_astore_n d87_19 (by decide) rfl ?_
        refine q_iload_n d87_20 rfl ?_
        refine n_tsI (90) 111 d87_21 (by decide) (by decide) rfl (by decide) ?_
        refine q_aload_n d87_111 rfl ?_
        refine q_v0 d87_112 rfl rfl hsg.1 (Nat.le_of_ble_eq_true rfl) (c82 hsg q7 (OKS_12 hO.1.2 hOs) q8 ?_)
        refine q_iret d87_115 rfl ?_
        exact k _ hR (Fc.refl _)
    · rw [oz_n ew] at k
      refine q_iload_n d87_0 rfl ?_
      refine q_s1 d87_1 (Or.inl rfl) rfl (Nat.le_of_ble_eq_true rfl) (c60t (by omega) ?_)
      refine n0_ne 10 d87_4 (by decide) (by decide) (fun _ => ?_) (fun q => absurd q (by decide))
      refine q_aload_n d87_10 rfl ?_
      refine q_getr (c := 7) (f := 4) d87_11 ⟨rfl, rfl⟩ (hS.1.1) (hS.1.2.2.2.2.2.2.1) ?_
      refine q_getr (c := 6) (f := 3) d87_14 ⟨rfl, rfl⟩ hwr.1 hwr.2.2.2.2.1 ?_
      refine q_iload_n d87_17 rfl ?_
      refine n_aald d87_18 hwr.2.2.2.2.2.1 (by decide) (by omega) (by decide) (hwr.2.2.2.2.2.2 _ (by omega)) ?_
      refine q_astore_n d87_19 (by decide) rfl ?_
      refine q_iload_n d87_20 rfl ?_
      refine q_tsO 116 d87_21 (zix_sw ew) (by decide) ?_
      refine q_bipush (x := (-2)) d87_116 rfl ?_
      refine q_iret d87_118 rfl ?_
      exact k _ hR (Fc.refl _)
  · rw [oz_n es] at k
    refine q_iload_n d87_0 rfl ?_
    refine q_s1 d87_1 (Or.inl rfl) rfl (Nat.le_of_ble_eq_true rfl) (c60f es ?_)
    refine n0_ne 10 d87_4 (by decide) (by decide) (fun q => absurd q (by decide)) (fun _ => ?_)
    refine q_bipush (x := (-2)) d87_7 rfl ?_
    refine q_iret d87_9 rfl ?_
    exact k _ hR (Fc.refl _)
theorem c67nt {d a i : Nat} {M : zM} {Q : Option Value → zM → Prop} (hs : SSg M a) (q2 : zr M a 2 = none) (h : i < 12) (k : Q (some (.int (nI 1))) M) : qC (d + 2) 67 [.ref a, .int (nI i)] M Q := c67n hs q2 (by rw [zix_in h (by omega)]; exact k)
theorem c67nf {d a : Nat} {M : zM} {Q : Option Value → zM → Prop} {x : Int32} (hs : SSg M a) (q2 : zr M a 2 = none) (h : zix x 12 = none) (k : Q (some (.int (nI 0))) M) : qC (d + 2) 67 [.ref a, .int x] M Q := c67n hs q2 (by rw [h]; exact k)
theorem c67t {d a b i : Nat} {M : zM} {Q : Option Value → zM → Prop} {T : yT} (hs : SSg M a) (q2 : zr M a 2 = some b) (hp : SPr M b) (hr : RP M b T) (hn : tn T ≤ 12) (h : i < tn T) (k : Q (some (.int (nI 1))) M) : qC (d + 2) 67 [.ref a, .int (nI i)] M Q := c67 hs q2 hp hr hn (by rw [zix_in h (by omega)]; exact k)
theorem c67f {d a b : Nat} {M : zM} {Q : Option Value → zM → Prop} {T : yT} {x : Int32} (hs : SSg M a) (q2 : zr M a 2 = some b) (hp : SPr M b) (hr : RP M b T) (hn : tn T ≤ 12) (h : zix x (tn T) = none) (k : Q (some (.int (nI 0))) M) : qC (d + 2) 67 [.ref a, .int x] M Q := c67 hs q2 hp hr hn (by rw [h]; exact k)
theorem d89_0 : decode (zB 89) 0 = .ok (.iload_n 1, 1) := by decide +kernel
theorem d89_1 : decode (zB 89) 1 = .ok (.invokestatic 141, 3) := by decide +kernel
theorem d89_4 : decode (zB 89) 4 = .ok (.ifCond .eq 19, 3) := by decide +kernel
theorem d89_7 : decode (zB 89) 7 = .ok (.aload_n 0, 1) := by decide +kernel
theorem d89_8 : decode (zB 89) 8 = .ok (.getfield 37, 3) := by decide +kernel
theorem d89_11 : decode (zB 89) 11 = .ok (.getfield 144, 3) := by decide +kernel
theorem d89_14 : decode (zB 89) 14 = .ok (.iload_n 1, 1) := by decide +kernel
theorem d89_15 : decode (zB 89) 15 = .ok (.aaload, 1) := by decide +kernel
theorem d89_16 : decode (zB 89) 16 = .ok (.iload_n 2, 1) := by decide +kernel
theorem d89_17 : decode (zB 89) 17 = .ok (.invokevirtual 163, 3) := by decide +kernel
theorem d89_20 : decode (zB 89) 20 = .ok (.ifCond .ne 6, 3) := by decide +kernel
theorem d89_23 : decode (zB 89) 23 = .ok (.bipush (-2), 2) := by decide +kernel
theorem d89_25 : decode (zB 89) 25 = .ok (.ireturn, 1) := by decide +kernel
theorem d89_26 : decode (zB 89) 26 = .ok (.aload_n 0, 1) := by decide +kernel
theorem d89_27 : decode (zB 89) 27 = .ok (.getfield 37, 3) := by decide +kernel
theorem d89_30 : decode (zB 89) 30 = .ok (.getfield 144, 3) := by decide +kernel
theorem d89_33 : decode (zB 89) 33 = .ok (.iload_n 1, 1) := by decide +kernel
theorem d89_34 : decode (zB 89) 34 = .ok (.aaload, 1) := by decide +kernel
theorem d89_35 : decode (zB 89) 35 = .ok (.astore_n 3, 1) := by decide +kernel
theorem d89_36 : decode (zB 89) 36 = .ok (.aload_n 3, 1) := by decide +kernel
theorem d89_37 : decode (zB 89) 37 = .ok (.getfield 166, 3) := by decide +kernel
theorem d89_40 : decode (zB 89) 40 = .ok (.ifCond .ne 8, 3) := by decide +kernel
theorem d89_43 : decode (zB 89) 43 = .ok (.bipush (-3), 2) := by decide +kernel
theorem d89_45 : decode (zB 89) 45 = .ok (.goto 9, 3) := by decide +kernel
theorem d89_48 : decode (zB 89) 48 = .ok (.aload_n 3, 1) := by decide +kernel
theorem d89_49 : decode (zB 89) 49 = .ok (.getfield 199, 3) := by decide +kernel
theorem d89_52 : decode (zB 89) 52 = .ok (.iload_n 2, 1) := by decide +kernel
theorem d89_53 : decode (zB 89) 53 = .ok (.iaload, 1) := by decide +kernel
theorem d89_54 : decode (zB 89) 54 = .ok (.ireturn, 1) := by decide +kernel
theorem p89 {d : Nat} {M : zM} {Q : Option Value → zM → Prop} {D : yD} {x y : Int32} (hR : RC M D) (hD : OKD D) (k : ∀ M', RC M' D → Fc M M' → Q (some (.int (sWhy D x y))) M') : qC (d + 3) 89 [.ref 16, .int x, .int y] M Q := by
  refine qC_of (by decide) (Nat.le_of_ble_eq_true rfl) ?_
  have hS := hR.1.1
  have hT := hR.1.2.2.1
  have hO := hR.1.2.2.2.1
  have hRW := hR.1.2.2.2.2
  have hJ : RL M 62 (dL D) := hRW.2.2.2
  have hc6 := hO.1.1
  have h240 := hD.2.1
  have h120 := hR.2.2.1.1
  have hwr := hS.wo (Or.inl ⟨rfl, rfl, rfl, rfl⟩)
  have hwt := hS.wo (Or.inr ⟨rfl, rfl, rfl, rfl⟩)
  have hpr := hS.pu (Or.inl ⟨rfl, rfl, rfl, rfl⟩)
  have hpt := hS.pu (Or.inr ⟨rfl, rfl, rfl, rfl⟩)
  unfold sWhy at k
  rcases zix_c x (n := 3) (by omega) with ⟨s, hs, rfl, es⟩ | ⟨es, ns⟩
  · rw [oz_s es] at k
    have hsg := hS.sg (show zSa (70 + 8 * s) by unfold zSa; omega)
    have hOs : OKS (dT D) (dc D) (dS D s) := hO.2.2 s hs
    have hg5 := hOs.1
    have hRs : RS M (70 + 8 * s) (dT D) (yNm (dT D) (dW D) s) (dS D s) := hRW.2.1 s hs
    obtain ⟨⟨q0, q1, q2⟩, ⟨q3, q4, q5⟩, ⟨q7, q8⟩, q9, qa, qb⟩ := hRs
    by_cases hg : gt (dS D s) = 0
    · rw [show yms D s = 12 from if_pos hg] at k
      have e2 : zr M (70 + 8 * s) 2 = none := q2.trans (if_pos hg)
      rcases zix_c y (n := 12) (by omega) with ⟨i, hi, rfl, ei⟩ | ⟨ei, ni⟩
      · rw [oz_s ei, if_pos hg] at k
        refine q_iload_n d89_0 rfl ?_
        refine q_s1 d89_1 (Or.inl rfl) rfl (Nat.le_of_ble_eq_true rfl) (c60t (by omega) ?_)
        refine n0_eq 23 d89_4 (by decide) (by decide) (fun q => absurd q (by decide)) (fun _ => ?_)
        refine q_aload_n d89_7 rfl ?_
        refine q_getr (c := 7) (f := 4) d89_8 ⟨rfl, rfl⟩ (hS.1.1) (hS.1.2.2.2.2.2.2.1) ?_
        refine q_getr (c := 6) (f := 3) d89_11 ⟨rfl, rfl⟩ hwr.1 hwr.2.2.2.2.1 ?_
        refine q_iload_n d89_14 rfl ?_
        refine n_aald d89_15 hwr.2.2.2.2.2.1 (by decide) (by omega) (by decide) (hwr.2.2.2.2.2.2 _ (by omega)) ?_
        refine q_iload_n d89_16 rfl ?_
        refine q_v1 d89_17 rfl rfl hsg.1 (Nat.le_of_ble_eq_true rfl) (c67nt hsg e2 hi ?_)
        refine n0_ne 26 d89_20 (by decide) (by decide) (fun _ => ?_) (fun q => absurd q (by decide))
        refine q_aload_n d89_26 rfl ?_
        refine q_getr (c := 7) (f := 4) d89_27 ⟨rfl, rfl⟩ (hS.1.1) (hS.1.2.2.2.2.2.2.1) ?_
        refine q_getr (c := 6) (f := 3) d89_30 ⟨rfl, rfl⟩ hwr.1 hwr.2.2.2.2.1 ?_
        refine q_iload_n d89_33 rfl ?_
        refine n_aald d89_34 hwr.2.2.2.2.2.1 (by decide) (by omega) (by decide) (hwr.2.2.2.2.2.2 _ (by omega)) ?_
        refine q_astore_n d89_35 (by decide) rfl ?_
        refine q_aload_n d89_36 rfl ?_
        refine q_getv (c := 5) (f := 0) d89_37 ⟨rfl, by decide⟩ hsg.1 q0 ?_
        refine n0_ne 48 d89_40 (by decide) (by omega) (fun h40 => (False.elim (h40 hg))) (fun h40 => ?_)
        refine q_bipush (x := (-3)) d89_43 rfl ?_
        refine q_goto 54 d89_45 (by decide) ?_
        refine q_iret d89_54 rfl ?_
        exact k _ hR (Fc.refl _)
      · rw [oz_n ei] at k
        refine q_iload_n d89_0 rfl ?_
        refine q_s1 d89_1 (Or.inl rfl) rfl (Nat.le_of_ble_eq_true rfl) (c60t (by omega) ?_)
        refine n0_eq 23 d89_4 (by decide) (by decide) (fun q => absurd q (by decide)) (fun _ => ?_)
        refine q_aload_n d89_7 rfl ?_
        refine q_getr (c := 7) (f := 4) d89_8 ⟨rfl, rfl⟩ (hS.1.1) (hS.1.2.2.2.2.2.2.1) ?_
        refine q_getr (c := 6) (f := 3) d89_11 ⟨rfl, rfl⟩ hwr.1 hwr.2.2.2.2.1 ?_
        refine q_iload_n d89_14 rfl ?_
        refine n_aald d89_15 hwr.2.2.2.2.2.1 (by decide) (by omega) (by decide) (hwr.2.2.2.2.2.2 _ (by omega)) ?_
        refine q_iload_n d89_16 rfl ?_
        refine q_v1 d89_17 rfl rfl hsg.1 (Nat.le_of_ble_eq_true rfl) (c67nf hsg e2 ei ?_)
        refine n0_ne 26 d89_20 (by decide) (by decide) (fun q => absurd q (by decide)) (fun _ => ?_)
        refine q_bipush (x := (-2)) d89_23 rfl ?_
        refine q_iret d89_25 rfl ?_
        exact k _ hR (Fc.refl _)
    · rw [show yms D s = tn (dT D (gx (dS D s))) from if_neg hg] at k
      have e2 : zr M (70 + 8 * s) 2 = some (20 + 7 * gx (dS D s)) := q2.trans (if_neg hg)
      have hx : gx (dS D s) < dc D := hOs.2.1 hg
      have ho := hO.1.2 _ hx
      have hn := ho.n
      rcases zix_c y (n := tn (dT D (gx (dS D s)))) (by omega) with ⟨i, hi, rfl, ei⟩ | ⟨ei, ni⟩
      · rw [oz_s ei, if_neg hg] at k
        refine q_iload_n d89_0 rfl ?_
        refine q_s1 d89_1 (Or.inl rfl) rfl (Nat.le_of_ble_eq_true rfl) (c60t (by omega) ?_)
        refine n0_eq 23 d89_4 (by decide) (by decide) (fun q => absurd q (by decide)) (fun _ => ?_)
        refine q_aload_n d89_7 rfl ?_
        refine q_getr (c := 7) (f := 4) d89_8 ⟨rfl, rfl⟩ (hS.1.1) (hS.1.2.2.2.2.2.2.1) ?_
        refine q_getr (c := 6) (f := 3) d89_11 ⟨rfl, rfl⟩ hwr.1 hwr.2.2.2.2.1 ?_
        refine q_iload_n d89_14 rfl ?_
        refine n_aald d89_15 hwr.2.2.2.2.2.1 (by decide) (by omega) (by decide) (hwr.2.2.2.2.2.2 _ (by omega)) ?_
        refine q_iload_n d89_16 rfl ?_
        refine q_v1 d89_17 rfl rfl hsg.1 (Nat.le_of_ble_eq_true rfl) (c67t hsg e2 (hS.pr (by omega)) (hT _ hx) hn hi ?_)
        refine n0_ne 26 d89_20 (by decide) (by decide) (fun _ => ?_) (fun q => absurd q (by decide))
        refine q_aload_n d89_26 rfl ?_
        refine q_getr (c := 7) (f := 4) d89_27 ⟨rfl, rfl⟩ (hS.1.1) (hS.1.2.2.2.2.2.2.1) ?_
        refine q_getr (c := 6) (f := 3) d89_30 ⟨rfl, rfl⟩ hwr.1 hwr.2.2.2.2.1 ?_
        refine q_iload_n d89_33 rfl ?_
        refine n_aald d89_34 hwr.2.2.2.2.2.1 (by decide) (by omega) (by decide) (hwr.2.2.2.2.2.2 _ (by omega)) ?_
        refine q_astore_n d89_35 (by decide) rfl ?_
        refine q_aload_n d89_36 rfl ?_
        refine q_getv (c := 5) (f := 0) d89_37 ⟨rfl, by decide⟩ hsg.1 q0 ?_
        refine n0_ne 48 d89_40 (by decide) (by omega) (fun h40 => ?_) (fun h40 => (False.elim (hg h40)))
        refine q_aload_n d89_48 rfl ?_
        refine q_getr (c := 5) (f := 13) d89_49 ⟨rfl, rfl⟩ hsg.1 (hsg.2.2.1 5 (by decide)) ?_
        refine q_iload_n d89_52 rfl ?_
        refine n_iald d89_53 (hsg.2.2.2 6 (by decide)) (by omega) (by decide) (qb _ (by omega)).2.2.2 ?_
        refine q_iret d89_54 rfl ?_
        exact k _ hR (Fc.refl _)
      · rw [oz_n ei] at k
        refine q_iload_n d89_0 rfl ?_
        refine q_s1 d89_1 (Or.inl rfl) rfl (Nat.le_of_ble_eq_true rfl) (c60t (by omega) ?_)
        refine n0_eq 23 d89_4 (by decide) (by decide) (fun q => absurd q (by decide)) (fun _ => ?_)
        refine q_aload_n d89_7 rfl ?_
        refine q_getr (c := 7) (f := 4) d89_8 ⟨rfl, rfl⟩ (hS.1.1) (hS.1.2.2.2.2.2.2.1) ?_
        refine q_getr (c := 6) (f := 3) d89_11 ⟨rfl, rfl⟩ hwr.1 hwr.2.2.2.2.1 ?_
        refine q_iload_n d89_14 rfl ?_
        refine n_aald d89_15 hwr.2.2.2.2.2.1 (by decide) (by omega) (by decide) (hwr.2.2.2.2.2.2 _ (by omega)) ?_
        refine q_iload_n d89_16 rfl ?_
        refine q_v1 d89_17 rfl rfl hsg.1 (Nat.le_of_ble_eq_true rfl) (c67f hsg e2 (hS.pr (by omega)) (hT _ hx) hn ei ?_)
        refine n0_ne 26 d89_20 (by decide) (by decide) (fun q => absurd q (by decide)) (fun _ => ?_)
        refine q_bipush (x := (-2)) d89_23 rfl ?_
        refine q_iret d89_25 rfl ?_
        exact k _ hR (Fc.refl _)
  · rw [oz_n es] at k
    refine q_iload_n d89_0 rfl ?_
    refine q_s1 d89_1 (Or.inl rfl) rfl (Nat.le_of_ble_eq_true rfl) (c60f es ?_)
    refine n0_eq 23 d89_4 (by decide) (by decide) (fun _ => ?_) (fun q => absurd q (by decide))
    refine q_bipush (x := (-2)) d89_23 rfl ?_
    refine q_iret d89_25 rfl ?_
    exact k _ hR (Fc.refl _)
