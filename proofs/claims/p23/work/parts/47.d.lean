/-! ===== the calls of the class: lines, sagas told ===== -/
theorem c10e {d b : Nat} {M : zM} {Q : Option Value → zM → Prop} {x : Int32} (h : zix x b = none) (hb : b < 2147483648) (k : Q (some (.int (nI 0))) M) : qC (d + 1) 10 [.int x, .int (nI 0), .int (nI b - nI 1)] M Q := c10s hb (by rw [h]; exact k)
theorem OKS_12 {T : Nat → yT} {c : Nat} {S : yS} (ho : ∀ i, i < c → OKT (T i)) (h : OKS T c S) : (go S).length ≤ 12 := by
  have hz : gz T S ≤ 12 := by
    unfold gz
    by_cases e : gt S = 0
    · rw [if_pos e]; exact Nat.zero_le _
    · rw [if_neg e]; exact (ho _ (h.2.1 e)).n
  exact Nat.le_trans (OKS_len h hz) (by omega)
/-- the world's cells change, and the log's -/
theorem RC.wo {M M' : zM} {D : yD} {W : yW} {L : List yL} (hR : RC M D) (h : CN M' 62 66 67 62 (dT D) (dc D) (W, some L)) (f : Fi (FW 62) M M') : RC M' (dwS D W L) :=
  ⟨h, (f.1 _ _ (fun q => by have := q.1; omega)).trans hR.2.1, RTp_fi hR.2.2.1 f.fr ⟨fun q => by have := q.1; omega, fun k q => by have := q.1; omega⟩, fun i hi => ⟨(f.1 _ _ (fun q => by have := q.2; omega)).trans (hR.2.2.2 i hi).1, (f.1 _ _ (fun q => by have := q.2; omega)).trans (hR.2.2.2 i hi).2⟩⟩
theorem FW.c {M M' : zM} (f : Fi (FW 62) M M') : Fc M M' := f.fr.c (fun a k ha q => by have := q.1; have := q.2; omega)
theorem d91_0 : decode (zB 91) 0 = .ok (.iload_n 2, 1) := (congrArg (fun c => decode c 0) zeq91).trans (by decide +kernel)
theorem d91_1 : decode (zB 91) 1 = .ok (.iconst 0, 1) := (congrArg (fun c => decode c 1) zeq91).trans (by decide +kernel)
theorem d91_2 : decode (zB 91) 2 = .ok (.iconst 2, 1) := (congrArg (fun c => decode c 2) zeq91).trans (by decide +kernel)
theorem d91_3 : decode (zB 91) 3 = .ok (.invokestatic 55, 3) := (congrArg (fun c => decode c 3) zeq91).trans (by decide +kernel)
theorem d91_6 : decode (zB 91) 6 = .ok (.ifCond .ne 6, 3) := (congrArg (fun c => decode c 6) zeq91).trans (by decide +kernel)
theorem d91_9 : decode (zB 91) 9 = .ok (.bipush (-2), 2) := (congrArg (fun c => decode c 9) zeq91).trans (by decide +kernel)
theorem d91_11 : decode (zB 91) 11 = .ok (.ireturn, 1) := (congrArg (fun c => decode c 11) zeq91).trans (by decide +kernel)
theorem d91_12 : decode (zB 91) 12 = .ok (.iload_n 1, 1) := (congrArg (fun c => decode c 12) zeq91).trans (by decide +kernel)
theorem d91_13 : decode (zB 91) 13 = .ok (.iconst 0, 1) := (congrArg (fun c => decode c 13) zeq91).trans (by decide +kernel)
theorem d91_14 : decode (zB 91) 14 = .ok (.aload_n 0, 1) := (congrArg (fun c => decode c 14) zeq91).trans (by decide +kernel)
theorem d91_15 : decode (zB 91) 15 = .ok (.getfield 28, 3) := (congrArg (fun c => decode c 15) zeq91).trans (by decide +kernel)
theorem d91_18 : decode (zB 91) 18 = .ok (.getfield 154, 3) := (congrArg (fun c => decode c 18) zeq91).trans (by decide +kernel)
theorem d91_21 : decode (zB 91) 21 = .ok (.iconst 1, 1) := (congrArg (fun c => decode c 21) zeq91).trans (by decide +kernel)
theorem d91_22 : decode (zB 91) 22 = .ok (.isub, 1) := (congrArg (fun c => decode c 22) zeq91).trans (by decide +kernel)
theorem d91_23 : decode (zB 91) 23 = .ok (.invokestatic 55, 3) := (congrArg (fun c => decode c 23) zeq91).trans (by decide +kernel)
theorem d91_26 : decode (zB 91) 26 = .ok (.ifCond .ne 6, 3) := (congrArg (fun c => decode c 26) zeq91).trans (by decide +kernel)
theorem d91_29 : decode (zB 91) 29 = .ok (.bipush (-12), 2) := (congrArg (fun c => decode c 29) zeq91).trans (by decide +kernel)
theorem d91_31 : decode (zB 91) 31 = .ok (.ireturn, 1) := (congrArg (fun c => decode c 31) zeq91).trans (by decide +kernel)
theorem d91_32 : decode (zB 91) 32 = .ok (.iload_n 2, 1) := (congrArg (fun c => decode c 32) zeq91).trans (by decide +kernel)
theorem d91_33 : decode (zB 91) 33 = .ok (.ifCond .ne 15, 3) := (congrArg (fun c => decode c 33) zeq91).trans (by decide +kernel)
theorem d91_36 : decode (zB 91) 36 = .ok (.aload_n 0, 1) := (congrArg (fun c => decode c 36) zeq91).trans (by decide +kernel)
theorem d91_37 : decode (zB 91) 37 = .ok (.getfield 28, 3) := (congrArg (fun c => decode c 37) zeq91).trans (by decide +kernel)
theorem d91_40 : decode (zB 91) 40 = .ok (.getfield 208, 3) := (congrArg (fun c => decode c 40) zeq91).trans (by decide +kernel)
theorem d91_43 : decode (zB 91) 43 = .ok (.iload_n 1, 1) := (congrArg (fun c => decode c 43) zeq91).trans (by decide +kernel)
theorem d91_44 : decode (zB 91) 44 = .ok (.iaload, 1) := (congrArg (fun c => decode c 44) zeq91).trans (by decide +kernel)
theorem d91_45 : decode (zB 91) 45 = .ok (.goto 29, 3) := (congrArg (fun c => decode c 45) zeq91).trans (by decide +kernel)
theorem d91_48 : decode (zB 91) 48 = .ok (.iload_n 2, 1) := (congrArg (fun c => decode c 48) zeq91).trans (by decide +kernel)
theorem d91_49 : decode (zB 91) 49 = .ok (.iconst 1, 1) := (congrArg (fun c => decode c 49) zeq91).trans (by decide +kernel)
theorem d91_50 : decode (zB 91) 50 = .ok (.if_icmp .ne 15, 3) := (congrArg (fun c => decode c 50) zeq91).trans (by decide +kernel)
theorem d91_53 : decode (zB 91) 53 = .ok (.aload_n 0, 1) := (congrArg (fun c => decode c 53) zeq91).trans (by decide +kernel)
theorem d91_54 : decode (zB 91) 54 = .ok (.getfield 28, 3) := (congrArg (fun c => decode c 54) zeq91).trans (by decide +kernel)
theorem d91_57 : decode (zB 91) 57 = .ok (.getfield 211, 3) := (congrArg (fun c => decode c 57) zeq91).trans (by decide +kernel)
theorem d91_60 : decode (zB 91) 60 = .ok (.iload_n 1, 1) := (congrArg (fun c => decode c 60) zeq91).trans (by decide +kernel)
theorem d91_61 : decode (zB 91) 61 = .ok (.iaload, 1) := (congrArg (fun c => decode c 61) zeq91).trans (by decide +kernel)
theorem d91_62 : decode (zB 91) 62 = .ok (.goto 12, 3) := (congrArg (fun c => decode c 62) zeq91).trans (by decide +kernel)
theorem d91_65 : decode (zB 91) 65 = .ok (.aload_n 0, 1) := (congrArg (fun c => decode c 65) zeq91).trans (by decide +kernel)
theorem d91_66 : decode (zB 91) 66 = .ok (.getfield 28, 3) := (congrArg (fun c => decode c 66) zeq91).trans (by decide +kernel)
theorem d91_69 : decode (zB 91) 69 = .ok (.getfield 214, 3) := (congrArg (fun c => decode c 69) zeq91).trans (by decide +kernel)
theorem d91_72 : decode (zB 91) 72 = .ok (.iload_n 1, 1) := (congrArg (fun c => decode c 72) zeq91).trans (by decide +kernel)
theorem d91_73 : decode (zB 91) 73 = .ok (.iaload, 1) := (congrArg (fun c => decode c 73) zeq91).trans (by decide +kernel)
theorem d91_74 : decode (zB 91) 74 = .ok (.ireturn, 1) := (congrArg (fun c => decode c 74) zeq91).trans (by decide +kernel)
theorem p91 {d : Nat} {M : zM} {Q : Option Value → zM → Prop} {D : yD} {x y : Int32} (hR : RC M D) (hD : OKD D) (k : ∀ M', RC M' D → Fc M M' → Q (some (.int (sLine D x y))) M') : qC (d + 2) 91 [.ref 16, .int x, .int y] M Q := by
  refine qC_of (by decide) (Nat.le_of_ble_eq_true rfl) ?_
  have hS := hR.1.1
  have hT := hR.1.2.2.1
  have hO := hR.1.2.2.2.1
  have hRW := hR.1.2.2.2.2
  have hJ : RL M 62 (dL D) := hRW.2.2.2
  have hc6 := hO.1.1
  have h240 := hD.2.1
  have h120 := hR.2.2.1.1
  have hwr := hS.wo (Or.inl ⟨rfl, rfl, rfl, rfl⟩)
  have hwt := hS.wo (Or.inr ⟨rfl, rfl, rfl, rfl⟩)
  have hpr := hS.pu (Or.inl ⟨rfl, rfl, rfl, rfl⟩)
  have hpt := hS.pu (Or.inr ⟨rfl, rfl, rfl, rfl⟩)
  unfold sLine at k
  rcases zix_c y (n := 3) (by omega) with ⟨w, hw, rfl, ew⟩ | ⟨ew, nw⟩
  · rw [oz_s ew] at k
    rcases zix_c x (n := (dL D).length) (by omega) with ⟨n, hn, rfl, en⟩ | ⟨en, nn⟩
    · rw [oz_s en] at k
      rcases (show w = 0 ∨ w = 1 ∨ w = 2 by omega) with rfl | rfl | rfl
      · refine q_iload_n d91_0 rfl ?_
        refine q_iconstN (z := 0) d91_1 ?_
        refine q_iconstN (z := 2) d91_2 ?_
        refine q_s3 d91_3 (Or.inl rfl) rfl (Nat.le_of_ble_eq_true rfl) (c10t ⟨by decide, by decide⟩ (by decide) ?_)
        refine n0_ne 12 d91_6 (by decide) (by decide) (fun _ => ?_) (fun q => absurd q (by decide))
        refine q_iload_n d91_12 rfl ?_
        refine q_iconstN (z := 0) d91_13 ?_
        refine q_aload_n d91_14 rfl ?_
        refine q_getr (c := 7) (f := 3) d91_15 ⟨rfl, rfl⟩ (hS.1.1) (hS.1.2.2.2.2.2.1) ?_
        refine q_getv (c := 0) (f := 3) d91_18 ⟨rfl, by decide⟩ hS.2.2.2.1.1 hJ.1 ?_
        refine q_iconstN (z := 1) d91_21 ?_
        refine n_isub d91_22 (by omega) ?_
        refine q_s3 d91_23 (Or.inl rfl) rfl (Nat.le_of_ble_eq_true rfl) (c10t ⟨by omega, by omega⟩ (by omega) ?_)
        refine n0_ne 32 d91_26 (by decide) (by decide) (fun _ => ?_) (fun q => absurd q (by decide))
        refine q_iload_n d91_32 rfl ?_
        refine n0_ne 48 d91_33 (by decide) (by decide) (fun q => absurd q (by decide)) (fun _ => ?_)
        refine q_aload_n d91_36 rfl ?_
        refine q_getr (c := 7) (f := 3) d91_37 ⟨rfl, rfl⟩ (hS.1.1) (hS.1.2.2.2.2.2.1) ?_
        refine q_getr (c := 0) (f := 0) d91_40 ⟨rfl, rfl⟩ hS.2.2.2.1.1 (hS.2.2.2.1.2 0 (by decide)).1 ?_
        refine q_iload_n d91_43 rfl ?_
        refine n_iald d91_44 (hS.2.2.2.1.2 0 (by decide)).2 (by omega) (by decide) (hJ.2 _ (by omega)).1 ?_
        refine q_goto 74 d91_45 (by decide) ?_
        refine q_iret d91_74 rfl ?_
        exact k _ hR (Fc.refl _)
      · refine q_iload_n d91_0 rfl ?_
        refine q_iconstN (z := 0) d91_1 ?_
        refine q_iconstN (z := 2) d91_2 ?_
        refine q_s3 d91_3 (Or.inl rfl) rfl (Nat.le_of_ble_eq_true rfl) (c10t ⟨by decide, by decide⟩ (by decide) ?_)
        refine n0_ne 12 d91_6 (by decide) (by decide) (fun _ => ?_) (fun q => absurd q (by decide))
        refine q_iload_n d91_12 rfl ?_
        refine q_iconstN (z := 0) d91_13 ?_
        refine q_aload_n d91_14 rfl ?_
        refine q_getr (c := 7) (f := 3) d91_15 ⟨rfl, rfl⟩ (hS.1.1) (hS.1.2.2.2.2.2.1) ?_
        refine q_getv (c := 0) (f := 3) d91_18 ⟨rfl, by decide⟩ hS.2.2.2.1.1 hJ.1 ?_
        refine q_iconstN (z := 1) d91_21 ?_
        refine n_isub d91_22 (by omega) ?_
        refine q_s3 d91_23 (Or.inl rfl) rfl (Nat.le_of_ble_eq_true rfl) (c10t ⟨by omega, by omega⟩ (by omega) ?_)
        refine n0_ne 32 d91_26 (by decide) (by decide) (fun _ => ?_) (fun q => absurd q (by decide))
        refine q_iload_n d91_32 rfl ?_
        refine n0_ne 48 d91_33 (by decide) (by decide) (fun _ => ?_) (fun q => absurd q (by decide))
        refine q_iload_n d91_48 rfl ?_
        refine q_iconstN (z := 1) d91_49 ?_
        refine nc_ne 65 d91_50 (by decide) (by decide) (by decide) (fun q => absurd q (by decide)) (fun _ => ?_)
        refine q_aload_n d91_53 rfl ?_
        refine q_getr (c := 7) (f := 3) d91_54 ⟨rfl, rfl⟩ (hS.1.1) (hS.1.2.2.2.2.2.1) ?_
        refine q_getr (c := 0) (f := 1) d91_57 ⟨rfl, rfl⟩ hS.2.2.2.1.1 (hS.2.2.2.1.2 1 (by decide)).1 ?_
        refine q_iload_n d91_60 rfl ?_
        refine n_iald d91_61 (hS.2.2.2.1.2 1 (by decide)).2 (by omega) (by decide) (hJ.2 _ (by omega)).2.1 ?_
        refine q_goto 74 d91_62 (by decide) ?_
        refine q_iret d91_74 rfl ?_
        exact k _ hR (Fc.refl _)
      · refine q_iload_n d91_0 rfl ?_
        refine q_iconstN (z := 0) d91_1 ?_
        refine q_iconstN (z := 2) d91_2 ?_
        refine q_s3 d91_3 (Or.inl rfl) rfl (Nat.le_of_ble_eq_true rfl) (c10t ⟨by decide, by decide⟩ (by decide) ?_)
        refine n0_ne 12 d91_6 (by decide) (by decide) (fun _ => ?_) (fun q => absurd q (by decide))
        refine q_iload_n d91_12 rfl ?_
        refine q_iconstN (z := 0) d91_13 ?_
        refine q_aload_n d91_14 rfl ?_
        refine q_getr (c := 7) (f := 3) d91_15 ⟨rfl, rfl⟩ (hS.1.1) (hS.1.2.2.2.2.2.1) ?_
        refine q_getv (c := 0) (f := 3) d91_18 ⟨rfl, by decide⟩ hS.2.2.2.1.1 hJ.1 ?_
        refine q_iconstN (z := 1) d91_21 ?_
        refine n_isub d91_22 (by omega) ?_
        refine q_s3 d91_23 (Or.inl rfl) rfl (Nat.le_of_ble_eq_true rfl) (c10t ⟨by omega, by omega⟩ (by omega) ?_)
        refine n0_ne 32 d91_26 (by decide) (by decide) (fun _ => ?_) (fun q => absurd q (by decide))
        refine q_iload_n d91_32 rfl ?_
        refine n0_ne 48 d91_33 (by decide) (by decide) (fun _ => ?_) (fun q => absurd q (by decide))
        refine q_iload_n d91_48 rfl ?_
        refine q_iconstN (z := 1) d91_49 ?_
        refine nc_ne 65 d91_50 (by decide) (by decide) (by decide) (fun _ => ?_) (fun q => absurd q (by decide))
        refine q_aload_n d91_65 rfl ?_
        refine q_getr (c := 7) (f := 3) d91_66 ⟨rfl, rfl⟩ (hS.1.1) (hS.1.2.2.2.2.2.1) ?_
        refine q_getr (c := 0) (f := 2) d91_69 ⟨rfl, rfl⟩ hS.2.2.2.1.1 (hS.2.2.2.1.2 2 (by decide)).1 ?_
        refine q_iload_n d91_72 rfl ?_
        refine n_iald d91_73 (hS.2.2.2.1.2 2 (by decide)).2 (by omega) (by decide) (hJ.2 _ (by omega)).2.2 ?_
        refine q_iret d91_74 rfl ?_
        exact k _ hR (Fc.refl _)
    · rw [oz_n en] at k
      refine q_iload_n d91_0 rfl ?_
      refine q_iconstN (z := 0) d91_1 ?_
      refine q_iconstN (z := 2) d91_2 ?_
      refine q_s3 d91_3 (Or.inl rfl) rfl (Nat.le_of_ble_eq_true rfl) (c10t ⟨by omega, by omega⟩ (by decide) ?_)
      refine n0_ne 12 d91_6 (by decide) (by decide) (fun _ => ?_) (fun q => absurd q (by decide))
      refine q_iload_n d91_12 rfl ?_
      refine q_iconstN (z := 0) d91_13 ?_
      refine q_aload_n d91_14 rfl ?_
      refine q_getr (c := 7) (f := 3) d91_15 ⟨rfl, rfl⟩ (hS.1.1) (hS.1.2.2.2.2.2.1) ?_
      refine q_getv (c := 0) (f := 3) d91_18 ⟨rfl, by decide⟩ hS.2.2.2.1.1 hJ.1 ?_
      refine q_iconstN (z := 1) d91_21 ?_
      refine q_isub d91_22 ?_
      refine q_s3 d91_23 (Or.inl rfl) rfl (Nat.le_of_ble_eq_true rfl) (c10e en (by omega) ?_)
      refine n0_ne 32 d91_26 (by decide) (by decide) (fun q => absurd q (by decide)) (fun _ => ?_)
      refine q_bipush (x := (-12)) d91_29 rfl ?_
      refine q_iret d91_31 rfl ?_
      exact k _ hR (Fc.refl _)
  · rw [oz_n ew] at k
    refine q_iload_n d91_0 rfl ?_
    refine q_iconstN (z := 0) d91_1 ?_
    refine q_iconstN (z := 2) d91_2 ?_
    refine q_s3 d91_3 (Or.inl rfl) rfl (Nat.le_of_ble_eq_true rfl) (c10f (by decide) (by omega) (by decide) ?_)
    refine n0_ne 12 d91_6 (by decide) (by decide) (fun q => absurd q (by decide)) (fun _ => ?_)
    refine q_bipush (x := (-2)) d91_9 rfl ?_
    refine q_iret d91_11 rfl ?_
    exact k _ hR (Fc.refl _)
theorem d87_0 : decode (zB 87) 0 = .ok (.iload_n 1, 1) := (congrArg (fun c => decode c 0) zeq87).trans (by decide +kernel)
theorem d87_1 : decode (zB 87) 1 = .ok (.invokestatic 141, 3) := (congrArg (fun c => decode c 1) zeq87).trans (by decide +kernel)
theorem d87_4 : decode (zB 87) 4 = .ok (.ifCond .ne 6, 3) := (congrArg (fun c => decode c 4) zeq87).trans (by decide +kernel)
theorem d87_7 : decode (zB 87) 7 = .ok (.bipush (-2), 2) := (congrArg (fun c => decode c 7) zeq87).trans (by decide +kernel)
theorem d87_9 : decode (zB 87) 9 = .ok (.ireturn, 1) := (congrArg (fun c => decode c 9) zeq87).trans (by decide +kernel)
theorem d87_10 : decode (zB 87) 10 = .ok (.aload_n 0, 1) := (congrArg (fun c => decode c 10) zeq87).trans (by decide +kernel)
theorem d87_11 : decode (zB 87) 11 = .ok (.getfield 37, 3) := (congrArg (fun c => decode c 11) zeq87).trans (by decide +kernel)
theorem d87_14 : decode (zB 87) 14 = .ok (.getfield 144, 3) := (congrArg (fun c => decode c 14) zeq87).trans (by decide +kernel)
theorem d87_17 : decode (zB 87) 17 = .ok (.iload_n 1, 1) := (congrArg (fun c => decode c 17) zeq87).trans (by decide +kernel)
theorem d87_18 : decode (zB 87) 18 = .ok (.aaload, 1) := (congrArg (fun c => decode c 18) zeq87).trans (by decide +kernel)
theorem d87_19 : decode (zB 87) 19 = .ok (.astore_n 3, 1) := (congrArg (fun c => decode c 19) zeq87).trans (by decide +kernel)
theorem d87_20 : decode (zB 87) 20 = .ok (.iload_n 2, 1) := (congrArg (fun c => decode c 20) zeq87).trans (by decide +kernel)
theorem d87_21 : decode (zB 87) 21 = .ok (.tableswitch 95 0 7 #[47, 52, 57, 62, 67, 72, 77, 90], 47) := (congrArg (fun c => decode c 21) zeq87).trans (by decide +kernel)
theorem d87_68 : decode (zB 87) 68 = .ok (.aload_n 3, 1) := (congrArg (fun c => decode c 68) zeq87).trans (by decide +kernel)
theorem d87_69 : decode (zB 87) 69 = .ok (.getfield 166, 3) := (congrArg (fun c => decode c 69) zeq87).trans (by decide +kernel)
theorem d87_72 : decode (zB 87) 72 = .ok (.ireturn, 1) := (congrArg (fun c => decode c 72) zeq87).trans (by decide +kernel)
theorem d87_73 : decode (zB 87) 73 = .ok (.aload_n 3, 1) := (congrArg (fun c => decode c 73) zeq87).trans (by decide +kernel)
theorem d87_74 : decode (zB 87) 74 = .ok (.getfield 178, 3) := (congrArg (fun c => decode c 74) zeq87).trans (by decide +kernel)
theorem d87_77 : decode (zB 87) 77 = .ok (.ireturn, 1) := (congrArg (fun c => decode c 77) zeq87).trans (by decide +kernel)
theorem d87_78 : decode (zB 87) 78 = .ok (.aload_n 3, 1) := (congrArg (fun c => decode c 78) zeq87).trans (by decide +kernel)
theorem d87_79 : decode (zB 87) 79 = .ok (.getfield 181, 3) := (congrArg (fun c => decode c 79) zeq87).trans (by decide +kernel)
theorem d87_82 : decode (zB 87) 82 = .ok (.ireturn, 1) := (congrArg (fun c => decode c 82) zeq87).trans (by decide +kernel)
theorem d87_83 : decode (zB 87) 83 = .ok (.aload_n 3, 1) := (congrArg (fun c => decode c 83) zeq87).trans (by decide +kernel)
theorem d87_84 : decode (zB 87) 84 = .ok (.getfield 184, 3) := (congrArg (fun c => decode c 84) zeq87).trans (by decide +kernel)
theorem d87_87 : decode (zB 87) 87 = .ok (.ireturn, 1) := (congrArg (fun c => decode c 87) zeq87).trans (by decide +kernel)
theorem d87_88 : decode (zB 87) 88 = .ok (.aload_n 3, 1) := (congrArg (fun c => decode c 88) zeq87).trans (by decide +kernel)
theorem d87_89 : decode (zB 87) 89 = .ok (.getfield 187, 3) := (congrArg (fun c => decode c 89) zeq87).trans (by decide +kernel)
theorem d87_92 : decode (zB 87) 92 = .ok (.ireturn, 1) := (congrArg (fun c => decode c 92) zeq87).trans (by decide +kernel)
theorem d87_93 : decode (zB 87) 93 = .ok (.aload_n 3, 1) := (congrArg (fun c => decode c 93) zeq87).trans (by decide +kernel)
theorem d87_94 : decode (zB 87) 94 = .ok (.invokevirtual 190, 3) := (congrArg (fun c => decode c 94) zeq87).trans (by decide +kernel)
theorem d87_97 : decode (zB 87) 97 = .ok (.ireturn, 1) := (congrArg (fun c => decode c 97) zeq87).trans (by decide +kernel)
theorem d87_98 : decode (zB 87) 98 = .ok (.aload_n 3, 1) := (congrArg (fun c => decode c 98) zeq87).trans (by decide +kernel)
theorem d87_99 : decode (zB 87) 99 = .ok (.invokevirtual 193, 3) := (congrArg (fun c => decode c 99) zeq87).trans (by decide +kernel)
theorem d87_102 : decode (zB 87) 102 = .ok (.ifCond .eq 7, 3) := (congrArg (fun c => decode c 102) zeq87).trans (by decide +kernel)
theorem d87_105 : decode (zB 87) 105 = .ok (.iconst 1, 1) := (congrArg (fun c => decode c 105) zeq87).trans (by decide +kernel)
theorem d87_106 : decode (zB 87) 106 = .ok (.goto 4, 3) := (congrArg (fun c => decode c 106) zeq87).trans (by decide +kernel)
theorem d87_109 : decode (zB 87) 109 = .ok (.iconst 0, 1) := (congrArg (fun c => decode c 109) zeq87).trans (by decide +kernel)
theorem d87_110 : decode (zB 87) 110 = .ok (.ireturn, 1) := (congrArg (fun c => decode c 110) zeq87).trans (by decide +kernel)
theorem d87_111 : decode (zB 87) 111 = .ok (.aload_n 3, 1) := (congrArg (fun c => decode c 111) zeq87).trans (by decide +kernel)
theorem d87_112 : decode (zB 87) 112 = .ok (.invokevirtual 196, 3) := (congrArg (fun c => decode c 112) zeq87).trans (by decide +kernel)
theorem d87_115 : decode (zB 87) 115 = .ok (.ireturn, 1) := (congrArg (fun c => decode c 115) zeq87).trans (by decide +kernel)
theorem d87_116 : decode (zB 87) 116 = .ok (.bipush (-2), 2) := (congrArg (fun c => decode c 116) zeq87).trans (by decide +kernel)
theorem d87_118 : decode (zB 87) 118 = .ok (.ireturn, 1) := (congrArg (fun c => decode c 118) zeq87).trans (by decide +kernel)
theorem p87 {d : Nat} {M : zM} {Q : Option Value → zM → Prop} {D : yD} {x y : Int32} (hR : RC M D) (hD : OKD D) (k : ∀ M', RC M' D → Fc M M' → Q (some (.int (sTold D x y))) M') : qC (d + 4) 87 [.ref 16, .int x, .int y] M Q := by
  refine qC_of (by decide) (Nat.le_of_ble_eq_true rfl) ?_
  have hS := hR.1.1
  have hT := hR.1.2.2.1
  have hO := hR.1.2.2.2.1
  have hRW := hR.1.2.2.2.2
  have hJ : RL M 62 (dL D) := hRW.2.2.2
  have hc6 := hO.1.1
  have h240 := hD.2.1
  have h120 := hR.2.2.1.1
  have hwr := hS.wo (Or.inl ⟨rfl, rfl, rfl, rfl⟩)
  have hwt := hS.wo (Or.inr ⟨rfl, rfl, rfl, rfl⟩)
  have hpr := hS.pu (Or.inl ⟨rfl, rfl, rfl, rfl⟩)
  have hpt := hS.pu (Or.inr ⟨rfl, rfl, rfl, rfl⟩)
  unfold sTold at k
  rcases zix_c x (n := 3) (by omega) with ⟨s, hs, rfl, es⟩ | ⟨es, ns⟩
  · rw [oz_s es] at k
    have hsg := hS.sg (show zSa (70 + 8 * s) by unfold zSa; omega)
    have hOs : OKS (dT D) (dc D) (dS D s) := hO.2.2 s hs
    have hg5 := hOs.1
    have hRs : RS M (70 + 8 * s) (dT D) (yNm (dT D) (dW D) s) (dS D s) := hRW.2.1 s hs
    obtain ⟨⟨q0, q1, q2⟩, ⟨q3, q4, q5⟩, ⟨q7, q8⟩, q9, qa, qb⟩ := hRs
    rcases zix_c y (n := 8) (by omega) with ⟨w, hw, rfl, ew⟩ | ⟨ew, nw⟩
    · rw [oz_s ew] at k
      rcases (show w = 0 ∨ w = 1 ∨ w = 2 ∨ w = 3 ∨ w = 4 ∨ w = 5 ∨ w = 6 ∨ w = 7 by omega) with rfl | rfl | rfl | rfl | rfl | rfl | rfl | rfl
      · refine q_iload_n d87_0 rfl ?_
        refine q_s1 d87_1 (Or.inl rfl) rfl (Nat.le_of_ble_eq_true rfl) (c60t (by omega) ?_)
        refine n0_ne 10 d87_4 (by decide) (by decide) (fun _ => ?_) (fun q => absurd q (by decide))
        refine q_aload_n d87_10 rfl ?_
        refine q_getr (c := 7) (f := 4) d87_11 ⟨rfl, rfl⟩ (hS.1.1) (hS.1.2.2.2.2.2.2.1) ?_
        refine q_getr (c := 6) (f := 3) d87_14 ⟨rfl, rfl⟩ hwr.1 hwr.2.2.2.2.1 ?_
        refine q_iload_n d87_17 rfl ?_
        refine n_aald d87_18 hwr.2.2.2.2.2.1 (by decide) (by omega) (by decide) (hwr.2.2.2.2.2.2 _ (by omega)) ?_
        refine q_astore_n d87_19 (by decide) rfl ?_
        refine q_iload_n d87_20 rfl ?_
        refine n_tsI (47) 68 d87_21 (by decide) (by decide) rfl (by decide) ?_
        refine q_aload_n d87_68 rfl ?_
        refine q_getv (c := 5) (f := 0) d87_69 ⟨rfl, by decide⟩ hsg.1 q0 ?_
        refine q_iret d87_72 rfl ?_
        exact k _ hR (Fc.refl _)
      · refine q_iload_n d87_0 rfl ?_
        refine q_s1 d87_1 (Or.inl rfl) rfl (Nat.le_of_ble_eq_true rfl) (c60t (by omega) ?_)
        refine n0_ne 10 d87_4 (by decide) (by decide) (fun _ => ?_) (fun q => absurd q (by decide))
        refine q_aload_n d87_10 rfl ?_
        refine q_getr (c := 7) (f := 4) d87_11 ⟨rfl, rfl⟩ (hS.1.1) (hS.1.2.2.2.2.2.2.1) ?_
        refine q_getr (c := 6) (f := 3) d87_14 ⟨rfl, rfl⟩ hwr.1 hwr.2.2.2.2.1 ?_
        refine q_iload_n d87_17 rfl ?_
        refine n_aald d87_18 hwr.2.2.2.2.2.1 (by decide) (by omega) (by decide) (hwr.2.2.2.2.2.2 _ (by omega)) ?_
        refine q_astore_n d87_19 (by decide) rfl ?_
        refine q_iload_n d87_20 rfl ?_
        refine n_tsI (52) 73 d87_21 (by decide) (by decide) rfl (by decide) ?_
        refine q_aload_n d87_73 rfl ?_
        refine q_getv (c := 5) (f := 1) d87_74 ⟨rfl, by decide⟩ hsg.1 q1 ?_
        refine q_iret d87_77 rfl ?_
        exact k _ hR (Fc.refl _)
      · refine q_iload_n d87_0 rfl ?_
        refine q_s1 d87_1 (Or.inl rfl) rfl (Nat.le_of_ble_eq_true rfl) (c60t (by omega) ?_)
        refine n0_ne 10 d87_4 (by decide) (by decide) (fun _ => ?_) (fun q => absurd q (by decide))
        refine q_aload_n d87_10 rfl ?_
        refine q_getr (c := 7) (f := 4) d87_11 ⟨rfl, rfl⟩ (hS.1.1) (hS.1.2.2.2.2.2.2.1) ?_
        refine q_getr (c := 6) (f := 3) d87_14 ⟨rfl, rfl⟩ hwr.1 hwr.2.2.2.2.1 ?_
        refine q_iload_n d87_17 rfl ?_
        refine n_aald d87_18 hwr.2.2.2.2.2.1 (by decide) (by omega) (by decide) (hwr.2.2.2.2.2.2 _ (by omega)) ?_
        refine q_astore_n d87_19 (by decide) rfl ?_
        refine q_iload_n d87_20 rfl ?_
        refine n_tsI (57) 78 d87_21 (by decide) (by decide) rfl (by decide) ?_
        refine q_aload_n d87_78 rfl ?_
        refine q_getv (c := 5) (f := 3) d87_79 ⟨rfl, by decide⟩ hsg.1 q3 ?_
        refine q_iret d87_82 rfl ?_
        exact k _ hR (Fc.refl _)
      · refine q_iload_n d87_0 rfl ?_
        refine q_s1 d87_1 (Or.inl rfl) rfl (Nat.le_of_ble_eq_true rfl) (c60t (by omega) ?_)
        refine n0_ne 10 d87_4 (by decide) (by decide) (fun _ => ?_) (fun q => absurd q (by decide))
        refine q_aload_n d87_10 rfl ?_
        refine q_getr (c := 7) (f := 4) d87_11 ⟨rfl, rfl⟩ (hS.1.1) (hS.1.2.2.2.2.2.2.1) ?_
        refine q_getr (c := 6) (f := 3) d87_14 ⟨rfl, rfl⟩ hwr.1 hwr.2.2.2.2.1 ?_
        refine q_iload_n d87_17 rfl ?_
        refine n_aald d87_18 hwr.2.2.2.2.2.1 (by decide) (by omega) (by decide) (hwr.2.2.2.2.2.2 _ (by omega)) ?_
        refine q_astore_n d87_19 (by decide) rfl ?_
        refine q_iload_n d87_20 rfl ?_
        refine n_tsI (62) 83 d87_21 (by decide) (by decide) rfl (by decide) ?_
        refine q_aload_n d87_83 rfl ?_
        refine q_getv (c := 5) (f := 4) d87_84 ⟨rfl, by decide⟩ hsg.1 q4 ?_
        refine q_iret d87_87 rfl ?_
        exact k _ hR (Fc.refl _)
      · refine q_iload_n d87_0 rfl ?_
        refine q_s1 d87_1 (Or.inl rfl) rfl (Nat.le_of_ble_eq_true rfl) (c60t (by omega) ?_)
        refine n0_ne 10 d87_4 (by decide) (by decide) (fun _ => ?_) (fun q => absurd q (by decide))
        refine q_aload_n d87_10 rfl ?_
        refine q_getr (c := 7) (f := 4) d87_11 ⟨rfl, rfl⟩ (hS.1.1) (hS.1.2.2.2.2.2.2.1) ?_
        refine q_getr (c := 6) (f := 3) d87_14 ⟨rfl, rfl⟩ hwr.1 hwr.2.2.2.2.1 ?_
        refine q_iload_n d87_17 rfl ?_
        refine n_aald d87_18 hwr.2.2.2.2.2.1 (by decide) (by omega) (by decide) (hwr.2.2.2.2.2.2 _ (by omega)) ?_
        refine q_astore_n d87_19 (by decide) rfl ?_
        refine q_iload_n d87_20 rfl ?_
        refine n_tsI (67) 88 d87_21 (by decide) (by decide) rfl (by decide) ?_
        refine q_aload_n d87_88 rfl ?_
        refine q_getv (c := 5) (f := 5) d87_89 ⟨rfl, by decide⟩ hsg.1 q5 ?_
        refine q_iret d87_92 rfl ?_
        exact k _ hR (Fc.refl _)
      · have k2 : ∀ M', RC M' D → Fc M M' → Q (some (.int (if gt (dS D s) = 1 then nI (yfr (dT D (gx (dS D s))) (dS D s)) else nI 0))) M' := k
        by_cases hg : gt (dS D s) = 0
        · rw [if_neg (by omega)] at k2
          have e2 : zr M (70 + 8 * s) 2 = none := q2.trans (if_pos hg)
          refine q_iload_n d87_0 rfl ?_
          refine q_s1 d87_1 (Or.inl rfl) rfl (Nat.le_of_ble_eq_true rfl) (c60t (by omega) ?_)
          refine n0_ne 10 d87_4 (by decide) (by decide) (fun _ => ?_) (fun q => absurd q (by decide))
          refine q_aload_n d87_10 rfl ?_
          refine q_getr (c := 7) (f := 4) d87_11 ⟨rfl, rfl⟩ (hS.1.1) (hS.1.2.2.2.2.2.2.1) ?_
          refine q_getr (c := 6) (f := 3) d87_14 ⟨rfl, rfl⟩ hwr.1 hwr.2.2.2.2.1 ?_
          refine q_iload_n d87_17 rfl ?_
          refine n_aald d87_18 hwr.2.2.2.2.2.1 (by decide) (by omega) (by decide) (hwr.2.2.2.2.2.2 _ (by omega)) ?_
          refine q_astore_n d87_19 (by decide) rfl ?_
          refine q_iload_n d87_20 rfl ?_
          refine n_tsI (72) 93 d87_21 (by decide) (by decide) rfl (by decide) ?_
          refine q_aload_n d87_93 rfl ?_
          refine q_v0 d87_94 rfl rfl hsg.1 (Nat.le_of_ble_eq_true rfl) (c71n hsg e2 ?_)
          refine q_iret d87_97 rfl ?_
          exact k2 _ hR (Fc.refl _)
        · skip
          have e2 : zr M (70 + 8 * s) 2 = some (20 + 7 * gx (dS D s)) := q2.trans (if_neg hg)
          have hx : gx (dS D s) < dc D := hOs.2.1 hg
          have ho := hO.1.2 _ hx
          have hn := ho.n
          refine q_iload_n d87_0 rfl ?_
          refine q_s1 d87_1 (Or.inl rfl) rfl (Nat.le_of_ble_eq_true rfl) (c60t (by omega) ?_)
          refine n0_ne 10 d87_4 (by decide) (by decide) (fun _ => ?_) (fun q => absurd q (by decide))
          refine q_aload_n d87_10 rfl ?_
          refine q_getr (c := 7) (f := 4) d87_11 ⟨rfl, rfl⟩ (hS.1.1) (hS.1.2.2.2.2.2.2.1) ?_
          refine q_getr (c := 6) (f := 3) d87_14 ⟨rfl, rfl⟩ hwr.1 hwr.2.2.2.2.1 ?_
          refine q_iload_n d87_17 rfl ?_
          refine n_aald d87_18 hwr.2.2.2.2.2.1 (by decide) (by omega) (by decide) (hwr.2.2.2.2.2.2 _ (by omega)) ?_
          refine q_astore_n d87_19 (by decide) rfl ?_
          refine q_iload_n d87_20 rfl ?_
          refine n_tsI (72) 93 d87_21 (by decide) (by decide) rfl (by decide) ?_
          refine q_aload_n d87_93 rfl ?_
          refine q_v0 d87_94 rfl rfl hsg.1 (Nat.le_of_ble_eq_true rfl) (c71 hsg e2 (hS.pr (by omega)) (hT _ hx) ho hOs.2.2.2.2.2 q0 hOs.1 q3 q4 q5 ?_)
          refine q_iret d87_97 rfl ?_
          by_cases h1 : gt (dS D s) = 1
          · rw [if_pos h1] at k2 ⊢; exact k2 _ hR (Fc.refl _)
          · rw [if_neg h1] at k2 ⊢; exact k2 _ hR (Fc.refl _)
      · have k2 : ∀ M', RC M' D → Fc M M' → Q (some (.int (if gt (dS D s) = 0 then nI 0 else bI (ypa (dT D (gx (dS D s))) (gm (dS D s) 1))))) M' := k
        by_cases hg : gt (dS D s) = 0
        · rw [if_pos hg] at k2
          have e2 : zr M (70 + 8 * s) 2 = none := q2.trans (if_pos hg)
          refine q_iload_n d87_0 rfl ?_
          refine q_s1 d87_1 (Or.inl rfl) rfl (Nat.le_of_ble_eq_true rfl) (c60t (by omega) ?_)
          refine n0_ne 10 d87_4 (by decide) (by decide) (fun _ => ?_) (fun q => absurd q (by decide))
          refine q_aload_n d87_10 rfl ?_
          refine q_getr (c := 7) (f := 4) d87_11 ⟨rfl, rfl⟩ (hS.1.1) (hS.1.2.2.2.2.2.2.1) ?_
          refine q_getr (c := 6) (f := 3) d87_14 ⟨rfl, rfl⟩ hwr.1 hwr.2.2.2.2.1 ?_
          refine q_iload_n d87_17 rfl ?_
          refine n_aald d87_18 hwr.2.2.2.2.2.1 (by decide) (by omega) (by decide) (hwr.2.2.2.2.2.2 _ (by omega)) ?_
          refine q_astore_n d87_19 (by decide) rfl ?_
          refine q_iload_n d87_20 rfl ?_
          refine n_tsI (77) 98 d87_21 (by decide) (by decide) rfl (by decide) ?_
          refine q_aload_n d87_98 rfl ?_
          refine q_v0 d87_99 rfl rfl hsg.1 (Nat.le_of_ble_eq_true rfl) (c88n hsg e2 ?_)
          refine n0_eq 109 d87_102 (by decide) (by decide) (fun _ => ?_) (fun q => absurd q (by decide))
          refine q_iconstN (z := 0) d87_109 ?_
          refine q_iret d87_110 rfl ?_
          exact k2 _ hR (Fc.refl _)
        · rw [if_neg hg] at k2
          have e2 : zr M (70 + 8 * s) 2 = some (20 + 7 * gx (dS D s)) := q2.trans (if_neg hg)
          have hx : gx (dS D s) < dc D := hOs.2.1 hg
          have ho := hO.1.2 _ hx
          have hn := ho.n
          refine q_iload_n d87_0 rfl ?_
          refine q_s1 d87_1 (Or.inl rfl) rfl (Nat.le_of_ble_eq_true rfl) (c60t (by omega) ?_)
          refine n0_ne 10 d87_4 (by decide) (by decide) (fun _ => ?_) (fun q => absurd q (by decide))
          refine q_aload_n d87_10 rfl ?_
          refine q_getr (c := 7) (f := 4) d87_11 ⟨rfl, rfl⟩ (hS.1.1) (hS.1.2.2.2.2.2.2.1) ?_
          refine q_getr (c := 6) (f := 3) d87_14 ⟨rfl, rfl⟩ hwr.1 hwr.2.2.2.2.1 ?_
          refine q_iload_n d87_17 rfl ?_
          refine n_aald d87_18 hwr.2.2.2.2.2.1 (by decide) (by omega) (by decide) (hwr.2.2.2.2.2.2 _ (by omega)) ?_
          refine q_astore_n d87_19 (by decide) rfl ?_
          refine q_iload_n d87_20 rfl ?_
          refine n_tsI (77) 98 d87_21 (by decide) (by decide) rfl (by decide) ?_
          refine q_aload_n d87_98 rfl ?_
          refine q_v0 d87_99 rfl rfl hsg.1 (Nat.le_of_ble_eq_true rfl) (c88 hsg e2 (hS.pr (by omega)) (hT _ hx) q3 ?_)
          refine b0_eq 109 d87_102 (by decide) (fun h102 => ?_) (fun h102 => ?_)
          · refine q_iconstN (z := 0) d87_109 ?_
            refine q_iret d87_110 rfl ?_
            rw [h102] at k2; exact k2 _ hR (Fc.refl _)
          · refine q_iconstN (z := 1) d87_105 ?_
            refine q_goto 110 d87_106 (by decide) ?_
            refine q_iret d87_110 rfl ?_
            rw [h102] at k2; exact k2 _ hR (Fc.refl _)
      · refine q_iload_n d87_0 rfl ?_
        refine q_s1 d87_1 (Or.inl rfl) rfl (Nat.le_of_ble_eq_true rfl) (c60t (by omega) ?_)
        refine n0_ne 10 d87_4 (by decide) (by decide) (fun _ => ?_) (fun q => absurd q (by decide))
        refine q_aload_n d87_10 rfl ?_
        refine q_getr (c := 7) (f := 4) d87_11 ⟨rfl, rfl⟩ (hS.1.1) (hS.1.2.2.2.2.2.2.1) ?_
        refine q_getr (c := 6) (f := 3) d87_14 ⟨rfl, rfl⟩ hwr.1 hwr.2.2.2.2.1 ?_
        refine q_iload_n d87_17 rfl ?_
        refine n_aald d87_18 hwr.2.2.2.2.2.1 (by decide) (by omega) (by decide) (hwr.2.2.2.2.2.2 _ (by omega)) ?_
        refine q_astore_n d87_19 (by decide) rfl ?_
        refine q_iload_n d87_20 rfl ?_
        refine n_tsI (90) 111 d87_21 (by decide) (by decide) rfl (by decide) ?_
        refine q_aload_n d87_111 rfl ?_
        refine q_v0 d87_112 rfl rfl hsg.1 (Nat.le_of_ble_eq_true rfl) (c82 hsg q7 (OKS_12 hO.1.2 hOs) q8 ?_)
        refine q_iret d87_115 rfl ?_
        exact k _ hR (Fc.refl _)
    · rw [oz_n ew] at k
      refine q_iload_n d87_0 rfl ?_
      refine q_s1 d87_1 (Or.inl rfl) rfl (Nat.le_of_ble_eq_true rfl) (c60t (by omega) ?_)
      refine n0_ne 10 d87_4 (by decide) (by decide) (fun _ => ?_) (fun q => absurd q (by decide))
      refine q_aload_n d87_10 rfl ?_
      refine q_getr (c := 7) (f := 4) d87_11 ⟨rfl, rfl⟩ (hS.1.1) (hS.1.2.2.2.2.2.2.1) ?_
      refine q_getr (c := 6) (f := 3) d87_14 ⟨rfl, rfl⟩ hwr.1 hwr.2.2.2.2.1 ?_
      refine q_iload_n d87_17 rfl ?_
      refine n_aald d87_18 hwr.2.2.2.2.2.1 (by decide) (by omega) (by decide) (hwr.2.2.2.2.2.2 _ (by omega)) ?_
      refine q_astore_n d87_19 (by decide) rfl ?_
      refine q_iload_n d87_20 rfl ?_
      refine q_tsO 116 d87_21 (zix_sw ew) (by decide) ?_
      refine q_bipush (x := (-2)) d87_116 rfl ?_
      refine q_iret d87_118 rfl ?_
      exact k _ hR (Fc.refl _)
  · rw [oz_n es] at k
    refine q_iload_n d87_0 rfl ?_
    refine q_s1 d87_1 (Or.inl rfl) rfl (Nat.le_of_ble_eq_true rfl) (c60f es ?_)
    refine n0_ne 10 d87_4 (by decide) (by decide) (fun q => absurd q (by decide)) (fun _ => ?_)
    refine q_bipush (x := (-2)) d87_7 rfl ?_
    refine q_iret d87_9 rfl ?_
    exact k _ hR (Fc.refl _)
theorem c67nt {d a i : Nat} {M : zM} {Q : Option Value → zM → Prop} (hs : SSg M a) (q2 : zr M a 2 = none) (h : i < 12) (k : Q (some (.int (nI 1))) M) : qC (d + 2) 67 [.ref a, .int (nI i)] M Q := c67n hs q2 (by rw [zix_in h (by omega)]; exact k)
theorem c67nf {d a : Nat} {M : zM} {Q : Option Value → zM → Prop} {x : Int32} (hs : SSg M a) (q2 : zr M a 2 = none) (h : zix x 12 = none) (k : Q (some (.int (nI 0))) M) : qC (d + 2) 67 [.ref a, .int x] M Q := c67n hs q2 (by rw [h]; exact k)
theorem c67t {d a b i : Nat} {M : zM} {Q : Option Value → zM → Prop} {T : yT} (hs : SSg M a) (q2 : zr M a 2 = some b) (hp : SPr M b) (hr : RP M b T) (hn : tn T ≤ 12) (h : i < tn T) (k : Q (some (.int (nI 1))) M) : qC (d + 2) 67 [.ref a, .int (nI i)] M Q := c67 hs q2 hp hr hn (by rw [zix_in h (by omega)]; exact k)
theorem c67f {d a b : Nat} {M : zM} {Q : Option Value → zM → Prop} {T : yT} {x : Int32} (hs : SSg M a) (q2 : zr M a 2 = some b) (hp : SPr M b) (hr : RP M b T) (hn : tn T ≤ 12) (h : zix x (tn T) = none) (k : Q (some (.int (nI 0))) M) : qC (d + 2) 67 [.ref a, .int x] M Q := c67 hs q2 hp hr hn (by rw [h]; exact k)
theorem d89_0 : decode (zB 89) 0 = .ok (.iload_n 1, 1) := (congrArg (fun c => decode c 0) zeq89).trans (by decide +kernel)
theorem d89_1 : decode (zB 89) 1 = .ok (.invokestatic 141, 3) := (congrArg (fun c => decode c 1) zeq89).trans (by decide +kernel)
theorem d89_4 : decode (zB 89) 4 = .ok (.ifCond .eq 19, 3) := (congrArg (fun c => decode c 4) zeq89).trans (by decide +kernel)
theorem d89_7 : decode (zB 89) 7 = .ok (.aload_n 0, 1) := (congrArg (fun c => decode c 7) zeq89).trans (by decide +kernel)
theorem d89_8 : decode (zB 89) 8 = .ok (.getfield 37, 3) := (congrArg (fun c => decode c 8) zeq89).trans (by decide +kernel)
theorem d89_11 : decode (zB 89) 11 = .ok (.getfield 144, 3) := (congrArg (fun c => decode c 11) zeq89).trans (by decide +kernel)
theorem d89_14 : decode (zB 89) 14 = .ok (.iload_n 1, 1) := (congrArg (fun c => decode c 14) zeq89).trans (by decide +kernel)
theorem d89_15 : decode (zB 89) 15 = .ok (.aaload, 1) := (congrArg (fun c => decode c 15) zeq89).trans (by decide +kernel)
theorem d89_16 : decode (zB 89) 16 = .ok (.iload_n 2, 1) := (congrArg (fun c => decode c 16) zeq89).trans (by decide +kernel)
theorem d89_17 : decode (zB 89) 17 = .ok (.invokevirtual 163, 3) := (congrArg (fun c => decode c 17) zeq89).trans (by decide +kernel)
theorem d89_20 : decode (zB 89) 20 = .ok (.ifCond .ne 6, 3) := (congrArg (fun c => decode c 20) zeq89).trans (by decide +kernel)
theorem d89_23 : decode (zB 89) 23 = .ok (.bipush (-2), 2) := (congrArg (fun c => decode c 23) zeq89).trans (by decide +kernel)
theorem d89_25 : decode (zB 89) 25 = .ok (.ireturn, 1) := (congrArg (fun c => decode c 25) zeq89).trans (by decide +kernel)
theorem d89_26 : decode (zB 89) 26 = .ok (.aload_n 0, 1) := (congrArg (fun c => decode c 26) zeq89).trans (by decide +kernel)
theorem d89_27 : decode (zB 89) 27 = .ok (.getfield 37, 3) := (congrArg (fun c => decode c 27) zeq89).trans (by decide +kernel)
theorem d89_30 : decode (zB 89) 30 = .ok (.getfield 144, 3) := (congrArg (fun c => decode c 30) zeq89).trans (by decide +kernel)
theorem d89_33 : decode (zB 89) 33 = .ok (.iload_n 1, 1) := (congrArg (fun c => decode c 33) zeq89).trans (by decide +kernel)
theorem d89_34 : decode (zB 89) 34 = .ok (.aaload, 1) := (congrArg (fun c => decode c 34) zeq89).trans (by decide +kernel)
theorem d89_35 : decode (zB 89) 35 = .ok (.astore_n 3, 1) := (congrArg (fun c => decode c 35) zeq89).trans (by decide +kernel)
theorem d89_36 : decode (zB 89) 36 = .ok (.aload_n 3, 1) := (congrArg (fun c => decode c 36) zeq89).trans (by decide +kernel)
theorem d89_37 : decode (zB 89) 37 = .ok (.getfield 166, 3) := (congrArg (fun c => decode c 37) zeq89).trans (by decide +kernel)
theorem d89_40 : decode (zB 89) 40 = .ok (.ifCond .ne 8, 3) := (congrArg (fun c => decode c 40) zeq89).trans (by decide +kernel)
theorem d89_43 : decode (zB 89) 43 = .ok (.bipush (-3), 2) := (congrArg (fun c => decode c 43) zeq89).trans (by decide +kernel)
theorem d89_45 : decode (zB 89) 45 = .ok (.goto 9, 3) := (congrArg (fun c => decode c 45) zeq89).trans (by decide +kernel)
theorem d89_48 : decode (zB 89) 48 = .ok (.aload_n 3, 1) := (congrArg (fun c => decode c 48) zeq89).trans (by decide +kernel)
theorem d89_49 : decode (zB 89) 49 = .ok (.getfield 199, 3) := (congrArg (fun c => decode c 49) zeq89).trans (by decide +kernel)
theorem d89_52 : decode (zB 89) 52 = .ok (.iload_n 2, 1) := (congrArg (fun c => decode c 52) zeq89).trans (by decide +kernel)
theorem d89_53 : decode (zB 89) 53 = .ok (.iaload, 1) := (congrArg (fun c => decode c 53) zeq89).trans (by decide +kernel)
theorem d89_54 : decode (zB 89) 54 = .ok (.ireturn, 1) := (congrArg (fun c => decode c 54) zeq89).trans (by decide +kernel)
theorem p89 {d : Nat} {M : zM} {Q : Option Value → zM → Prop} {D : yD} {x y : Int32} (hR : RC M D) (hD : OKD D) (k : ∀ M', RC M' D → Fc M M' → Q (some (.int (sWhy D x y))) M') : qC (d + 3) 89 [.ref 16, .int x, .int y] M Q := by
  refine qC_of (by decide) (Nat.le_of_ble_eq_true rfl) ?_
  have hS := hR.1.1
  have hT := hR.1.2.2.1
  have hO := hR.1.2.2.2.1
  have hRW := hR.1.2.2.2.2
  have hJ : RL M 62 (dL D) := hRW.2.2.2
  have hc6 := hO.1.1
  have h240 := hD.2.1
  have h120 := hR.2.2.1.1
  have hwr := hS.wo (Or.inl ⟨rfl, rfl, rfl, rfl⟩)
  have hwt := hS.wo (Or.inr ⟨rfl, rfl, rfl, rfl⟩)
  have hpr := hS.pu (Or.inl ⟨rfl, rfl, rfl, rfl⟩)
  have hpt := hS.pu (Or.inr ⟨rfl, rfl, rfl, rfl⟩)
  unfold sWhy at k
  rcases zix_c x (n := 3) (by omega) with ⟨s, hs, rfl, es⟩ | ⟨es, ns⟩
  · rw [oz_s es] at k
    have hsg := hS.sg (show zSa (70 + 8 * s) by unfold zSa; omega)
    have hOs : OKS (dT D) (dc D) (dS D s) := hO.2.2 s hs
    have hg5 := hOs.1
    have hRs : RS M (70 + 8 * s) (dT D) (yNm (dT D) (dW D) s) (dS D s) := hRW.2.1 s hs
    obtain ⟨⟨q0, q1, q2⟩, ⟨q3, q4, q5⟩, ⟨q7, q8⟩, q9, qa, qb⟩ := hRs
    by_cases hg : gt (dS D s) = 0
    · rw [show yms D s = 12 from if_pos hg] at k
      have e2 : zr M (70 + 8 * s) 2 = none := q2.trans (if_pos hg)
      rcases zix_c y (n := 12) (by omega) with ⟨i, hi, rfl, ei⟩ | ⟨ei, ni⟩
      · rw [oz_s ei, if_pos hg] at k
        refine q_iload_n d89_0 rfl ?_
        refine q_s1 d89_1 (Or.inl rfl) rfl (Nat.le_of_ble_eq_true rfl) (c60t (by omega) ?_)
        refine n0_eq 23 d89_4 (by decide) (by decide) (fun q => absurd q (by decide)) (fun _ => ?_)
        refine q_aload_n d89_7 rfl ?_
        refine q_getr (c := 7) (f := 4) d89_8 ⟨rfl, rfl⟩ (hS.1.1) (hS.1.2.2.2.2.2.2.1) ?_
        refine q_getr (c := 6) (f := 3) d89_11 ⟨rfl, rfl⟩ hwr.1 hwr.2.2.2.2.1 ?_
        refine q_iload_n d89_14 rfl ?_
        refine n_aald d89_15 hwr.2.2.2.2.2.1 (by decide) (by omega) (by decide) (hwr.2.2.2.2.2.2 _ (by omega)) ?_
        refine q_iload_n d89_16 rfl ?_
        refine q_v1 d89_17 rfl rfl hsg.1 (Nat.le_of_ble_eq_true rfl) (c67nt hsg e2 hi ?_)
        refine n0_ne 26 d89_20 (by decide) (by decide) (fun _ => ?_) (fun q => absurd q (by decide))
        refine q_aload_n d89_26 rfl ?_
        refine q_getr (c := 7) (f := 4) d89_27 ⟨rfl, rfl⟩ (hS.1.1) (hS.1.2.2.2.2.2.2.1) ?_
        refine q_getr (c := 6) (f := 3) d89_30 ⟨rfl, rfl⟩ hwr.1 hwr.2.2.2.2.1 ?_
        refine q_iload_n d89_33 rfl ?_
        refine n_aald d89_34 hwr.2.2.2.2.2.1 (by decide) (by omega) (by decide) (hwr.2.2.2.2.2.2 _ (by omega)) ?_
        refine q_astore_n d89_35 (by decide) rfl ?_
        refine q_aload_n d89_36 rfl ?_
        refine q_getv (c := 5) (f := 0) d89_37 ⟨rfl, by decide⟩ hsg.1 q0 ?_
        refine n0_ne 48 d89_40 (by decide) (by omega) (fun h40 => (False.elim (h40 hg))) (fun h40 => ?_)
        refine q_bipush (x := (-3)) d89_43 rfl ?_
        refine q_goto 54 d89_45 (by decide) ?_
        refine q_iret d89_54 rfl ?_
        exact k _ hR (Fc.refl _)
      · rw [oz_n ei] at k
        refine q_iload_n d89_0 rfl ?_
        refine q_s1 d89_1 (Or.inl rfl) rfl (Nat.le_of_ble_eq_true rfl) (c60t (by omega) ?_)
        refine n0_eq 23 d89_4 (by decide) (by decide) (fun q => absurd q (by decide)) (fun _ => ?_)
        refine q_aload_n d89_7 rfl ?_
        refine q_getr (c := 7) (f := 4) d89_8 ⟨rfl, rfl⟩ (hS.1.1) (hS.1.2.2.2.2.2.2.1) ?_
        refine q_getr (c := 6) (f := 3) d89_11 ⟨rfl, rfl⟩ hwr.1 hwr.2.2.2.2.1 ?_
        refine q_iload_n d89_14 rfl ?_
        refine n_aald d89_15 hwr.2.2.2.2.2.1 (by decide) (by omega) (by decide) (hwr.2.2.2.2.2.2 _ (by omega)) ?_
        refine q_iload_n d89_16 rfl ?_
        refine q_v1 d89_17 rfl rfl hsg.1 (Nat.le_of_ble_eq_true rfl) (c67nf hsg e2 ei ?_)
        refine n0_ne 26 d89_20 (by decide) (by decide) (fun q => absurd q (by decide)) (fun _ => ?_)
        refine q_bipush (x := (-2)) d89_23 rfl ?_
        refine q_iret d89_25 rfl ?_
        exact k _ hR (Fc.refl _)
    · rw [show yms D s = tn (dT D (gx (dS D s))) from if_neg hg] at k
      have e2 : zr M (70 + 8 * s) 2 = some (20 + 7 * gx (dS D s)) := q2.trans (if_neg hg)
      have hx : gx (dS D s) < dc D := hOs.2.1 hg
      have ho := hO.1.2 _ hx
      have hn := ho.n
      rcases zix_c y (n := tn (dT D (gx (dS D s)))) (by omega) with ⟨i, hi, rfl, ei⟩ | ⟨ei, ni⟩
      · rw [oz_s ei, if_neg hg] at k
        refine q_iload_n d89_0 rfl ?_
        refine q_s1 d89_1 (Or.inl rfl) rfl (Nat.le_of_ble_eq_true rfl) (c60t (by omega) ?_)
        refine n0_eq 23 d89_4 (by decide) (by decide) (fun q => absurd q (by decide)) (fun _ => ?_)
        refine q_aload_n d89_7 rfl ?_
        refine q_getr (c := 7) (f := 4) d89_8 ⟨rfl, rfl⟩ (hS.1.1) (hS.1.2.2.2.2.2.2.1) ?_
        refine q_getr (c := 6) (f := 3) d89_11 ⟨rfl, rfl⟩ hwr.1 hwr.2.2.2.2.1 ?_
        refine q_iload_n d89_14 rfl ?_
        refine n_aald d89_15 hwr.2.2.2.2.2.1 (by decide) (by omega) (by decide) (hwr.2.2.2.2.2.2 _ (by omega)) ?_
        refine q_iload_n d89_16 rfl ?_
        refine q_v1 d89_17 rfl rfl hsg.1 (Nat.le_of_ble_eq_true rfl) (c67t hsg e2 (hS.pr (by omega)) (hT _ hx) hn hi ?_)
        refine n0_ne 26 d89_20 (by decide) (by decide) (fun _ => ?_) (fun q => absurd q (by decide))
        refine q_aload_n d89_26 rfl ?_
        refine q_getr (c := 7) (f := 4) d89_27 ⟨rfl, rfl⟩ (hS.1.1) (hS.1.2.2.2.2.2.2.1) ?_
        refine q_getr (c := 6) (f := 3) d89_30 ⟨rfl, rfl⟩ hwr.1 hwr.2.2.2.2.1 ?_
        refine q_iload_n d89_33 rfl ?_
        refine n_aald d89_34 hwr.2.2.2.2.2.1 (by decide) (by omega) (by decide) (hwr.2.2.2.2.2.2 _ (by omega)) ?_
        refine q_astore_n d89_35 (by decide) rfl ?_
        refine q_aload_n d89_36 rfl ?_
        refine q_getv (c := 5) (f := 0) d89_37 ⟨rfl, by decide⟩ hsg.1 q0 ?_
        refine n0_ne 48 d89_40 (by decide) (by omega) (fun h40 => ?_) (fun h40 => (False.elim (hg h40)))
        refine q_aload_n d89_48 rfl ?_
        refine q_getr (c := 5) (f := 13) d89_49 ⟨rfl, rfl⟩ hsg.1 (hsg.2.2.1 5 (by decide)) ?_
        refine q_iload_n d89_52 rfl ?_
        refine n_iald d89_53 (hsg.2.2.2 6 (by decide)) (by omega) (by decide) (qb _ (by omega)).2.2.2 ?_
        refine q_iret d89_54 rfl ?_
        exact k _ hR (Fc.refl _)
      · rw [oz_n ei] at k
        refine q_iload_n d89_0 rfl ?_
        refine q_s1 d89_1 (Or.inl rfl) rfl (Nat.le_of_ble_eq_true rfl) (c60t (by omega) ?_)
        refine n0_eq 23 d89_4 (by decide) (by decide) (fun q => absurd q (by decide)) (fun _ => ?_)
        refine q_aload_n d89_7 rfl ?_
        refine q_getr (c := 7) (f := 4) d89_8 ⟨rfl, rfl⟩ (hS.1.1) (hS.1.2.2.2.2.2.2.1) ?_
        refine q_getr (c := 6) (f := 3) d89_11 ⟨rfl, rfl⟩ hwr.1 hwr.2.2.2.2.1 ?_
        refine q_iload_n d89_14 rfl ?_
        refine n_aald d89_15 hwr.2.2.2.2.2.1 (by decide) (by omega) (by decide) (hwr.2.2.2.2.2.2 _ (by omega)) ?_
        refine q_iload_n d89_16 rfl ?_
        refine q_v1 d89_17 rfl rfl hsg.1 (Nat.le_of_ble_eq_true rfl) (c67f hsg e2 (hS.pr (by omega)) (hT _ hx) hn ei ?_)
        refine n0_ne 26 d89_20 (by decide) (by decide) (fun q => absurd q (by decide)) (fun _ => ?_)
        refine q_bipush (x := (-2)) d89_23 rfl ?_
        refine q_iret d89_25 rfl ?_
        exact k _ hR (Fc.refl _)
  · rw [oz_n es] at k
    refine q_iload_n d89_0 rfl ?_
    refine q_s1 d89_1 (Or.inl rfl) rfl (Nat.le_of_ble_eq_true rfl) (c60f es ?_)
    refine n0_eq 23 d89_4 (by decide) (by decide) (fun _ => ?_) (fun q => absurd q (by decide))
    refine q_bipush (x := (-2)) d89_23 rfl ?_
    refine q_iret d89_25 rfl ?_
    exact k _ hR (Fc.refl _)
/-! ===== the calls of the class: set, tick ===== -/
/-! a log grows at its end -/
def yE (g g' : Option (List yL)) : Prop := ∀ L, g = some L → ∃ A, g' = some (L ++ A)
theorem yE_id {g : Option (List yL)} : yE g g := fun L e => ⟨[], by rw [e, List.append_nil]⟩
theorem yE_lg {g : Option (List yL)} {x : yL} : yE g (ylg g x) := fun L e => ⟨[x], by rw [e]; rfl⟩
theorem yE.trans {g g' g'' : Option (List yL)} (h : yE g g') (h2 : yE g' g'') : yE g g'' := by
  intro L e
  obtain ⟨A, eA⟩ := h L e
  obtain ⟨B, eB⟩ := h2 _ eA
  exact ⟨A ++ B, by rw [eB, List.append_assoc]⟩
theorem ytr_E {T : yT} {n : Int32} {s i : Nat} {X : yX} : yE X.2 (ytr T n s i X).2 := by
  unfold ytr
  simp only []
  repeat' split
  all_goals first
    | exact yE_lg
    | exact yE.trans (g' := ylg X.2 (2, s, i)) yE_lg yE_lg
theorem yfl_E {T : yT} {nm : Nat → Int32} {s fr : Nat} : ∀ (k i : Nat) (X : yX), yE X.2 (yfl T nm s fr k i X).2
  | 0, _, _ => yE_id
  | k + 1, i, X => by
    rw [yfl]
    by_cases h1 : gt (yxs X s) = 1
    · rw [if_pos h1]
      by_cases hb : fr.testBit i = true
      · rw [if_pos hb]; exact ytr_E.trans (yfl_E k _ _)
      · rw [if_neg hb]; exact yfl_E k _ _
    · rw [if_neg h1]; exact yE_id
theorem yfo_E {T : yT} {nm : Nat → Int32} {s : Nat} {X : yX} : yE X.2 (yfo T nm s X).2 := by
  unfold yfo
  simp only []
  split
  · exact (yfl_E (T := T) (nm := nm) (s := s) (fr := yfr T (yxs X s)) 12 0 X).trans yE_lg
  · exact yfl_E 12 0 X
theorem yun_E {T : yT} {s : Nat} {X : yX} : yE X.2 (yun T s X).2 := by
  unfold yun
  simp only []
  repeat' split
  all_goals first
    | exact yE_id
    | exact yE_lg
theorem yba_E {T : yT} {s : Nat} {X : yX} : yE X.2 (yba T s X).2 := by
  unfold yba
  simp only []
  split
  · exact (yun_E (T := T) (s := s) (X := X)).trans yE_lg
  · exact yun_E
theorem ytu_E {T : Nat → yT} {nm : Nat → Nat → Int32} {s : Nat} {X : yX} : yE X.2 (ytu T nm s X).2 := by
  unfold ytu
  split
  · exact yfo_E
  · split
    · exact yba_E
    · exact yE_id
theorem yti_E {T : Nat → yT} {nm : Nat → Nat → Int32} {X : yX} : yE X.2 (yti T nm X).2 := ytu_E.trans (ytu_E.trans ytu_E)
/-- a tick of the desk -/
theorem yti_D {D : yD} (hO : OKW (dT D) (dc D) (dW D)) : ∃ W' A, yti (dT D) (dnm D) (dX D) = (W', some (dL D ++ A)) ∧ OKW (dT D) (dc D) W' ∧ (∀ s, gx (W'.2 s) = gx ((dW D).2 s)) ∧ (dL D ++ A).length ≤ (dL D).length + 39 := by
  obtain ⟨A, hA⟩ := yti_E (T := dT D) (nm := dnm D) (X := dX D) (dL D) rfl
  obtain ⟨h1, h2, h3⟩ := yti_ok (T := dT D) (nm := dnm D) (c := dc D) (X := dX D) hO
  refine ⟨(yti (dT D) (dnm D) (dX D)).1, A, Prod.ext rfl hA, h1, fun s => (h2 s).1, ?_⟩
  rw [hA] at h3
  exact h3
/-- by what its texts say -/
theorem CN_of {M : zM} {lo w u j c : Nat} {T : Nat → yT} {nm : Nat → Nat → Int32} {X : yX} (h : CW M lo w u j T c nm X) (e : ∀ s, s < 3 → ∀ k, k < gz T (yxs X s) → yNm T X.1 s k = nm s k) : CN M lo w u j T c X :=
  ⟨h.1, h.2.1, h.2.2.1, h.2.2.2.1, RW_nm h.2.2.2.2 e⟩
theorem d90_0 : decode (zB 90) 0 = .ok (.iload_n 1, 1) := (congrArg (fun c => decode c 0) zeq90).trans (by decide +kernel)
theorem d90_1 : decode (zB 90) 1 = .ok (.invokestatic 202, 3) := (congrArg (fun c => decode c 1) zeq90).trans (by decide +kernel)
theorem d90_4 : decode (zB 90) 4 = .ok (.ifCond .eq 14, 3) := (congrArg (fun c => decode c 4) zeq90).trans (by decide +kernel)
theorem d90_7 : decode (zB 90) 7 = .ok (.iload_n 2, 1) := (congrArg (fun c => decode c 7) zeq90).trans (by decide +kernel)
theorem d90_8 : decode (zB 90) 8 = .ok (.iconst 0, 1) := (congrArg (fun c => decode c 8) zeq90).trans (by decide +kernel)
theorem d90_9 : decode (zB 90) 9 = .ok (.sipush 9999, 3) := (congrArg (fun c => decode c 9) zeq90).trans (by decide +kernel)
theorem d90_12 : decode (zB 90) 12 = .ok (.invokestatic 55, 3) := (congrArg (fun c => decode c 12) zeq90).trans (by decide +kernel)
theorem d90_15 : decode (zB 90) 15 = .ok (.ifCond .ne 6, 3) := (congrArg (fun c => decode c 15) zeq90).trans (by decide +kernel)
theorem d90_18 : decode (zB 90) 18 = .ok (.bipush (-2), 2) := (congrArg (fun c => decode c 18) zeq90).trans (by decide +kernel)
theorem d90_20 : decode (zB 90) 20 = .ok (.ireturn, 1) := (congrArg (fun c => decode c 20) zeq90).trans (by decide +kernel)
theorem d90_21 : decode (zB 90) 21 = .ok (.aload_n 0, 1) := (congrArg (fun c => decode c 21) zeq90).trans (by decide +kernel)
theorem d90_22 : decode (zB 90) 22 = .ok (.getfield 28, 3) := (congrArg (fun c => decode c 22) zeq90).trans (by decide +kernel)
theorem d90_25 : decode (zB 90) 25 = .ok (.getfield 154, 3) := (congrArg (fun c => decode c 25) zeq90).trans (by decide +kernel)
theorem d90_28 : decode (zB 90) 28 = .ok (.sipush 240, 3) := (congrArg (fun c => decode c 28) zeq90).trans (by decide +kernel)
theorem d90_31 : decode (zB 90) 31 = .ok (.if_icmp .lt 6, 3) := (congrArg (fun c => decode c 31) zeq90).trans (by decide +kernel)
theorem d90_34 : decode (zB 90) 34 = .ok (.bipush (-4), 2) := (congrArg (fun c => decode c 34) zeq90).trans (by decide +kernel)
theorem d90_36 : decode (zB 90) 36 = .ok (.ireturn, 1) := (congrArg (fun c => decode c 36) zeq90).trans (by decide +kernel)
theorem d90_37 : decode (zB 90) 37 = .ok (.aload_n 0, 1) := (congrArg (fun c => decode c 37) zeq90).trans (by decide +kernel)
theorem d90_38 : decode (zB 90) 38 = .ok (.getfield 37, 3) := (congrArg (fun c => decode c 38) zeq90).trans (by decide +kernel)
theorem d90_41 : decode (zB 90) 41 = .ok (.getfield 94, 3) := (congrArg (fun c => decode c 41) zeq90).trans (by decide +kernel)
theorem d90_44 : decode (zB 90) 44 = .ok (.getfield 205, 3) := (congrArg (fun c => decode c 44) zeq90).trans (by decide +kernel)
theorem d90_47 : decode (zB 90) 47 = .ok (.iload_n 1, 1) := (congrArg (fun c => decode c 47) zeq90).trans (by decide +kernel)
theorem d90_48 : decode (zB 90) 48 = .ok (.iaload, 1) := (congrArg (fun c => decode c 48) zeq90).trans (by decide +kernel)
theorem d90_49 : decode (zB 90) 49 = .ok (.istore_n 3, 1) := (congrArg (fun c => decode c 49) zeq90).trans (by decide +kernel)
theorem d90_50 : decode (zB 90) 50 = .ok (.aload_n 0, 1) := (congrArg (fun c => decode c 50) zeq90).trans (by decide +kernel)
theorem d90_51 : decode (zB 90) 51 = .ok (.getfield 37, 3) := (congrArg (fun c => decode c 51) zeq90).trans (by decide +kernel)
theorem d90_54 : decode (zB 90) 54 = .ok (.getfield 94, 3) := (congrArg (fun c => decode c 54) zeq90).trans (by decide +kernel)
theorem d90_57 : decode (zB 90) 57 = .ok (.getfield 205, 3) := (congrArg (fun c => decode c 57) zeq90).trans (by decide +kernel)
theorem d90_60 : decode (zB 90) 60 = .ok (.iload_n 1, 1) := (congrArg (fun c => decode c 60) zeq90).trans (by decide +kernel)
theorem d90_61 : decode (zB 90) 61 = .ok (.iload_n 2, 1) := (congrArg (fun c => decode c 61) zeq90).trans (by decide +kernel)
theorem d90_62 : decode (zB 90) 62 = .ok (.iastore, 1) := (congrArg (fun c => decode c 62) zeq90).trans (by decide +kernel)
theorem d90_63 : decode (zB 90) 63 = .ok (.aload_n 0, 1) := (congrArg (fun c => decode c 63) zeq90).trans (by decide +kernel)
theorem d90_64 : decode (zB 90) 64 = .ok (.getfield 28, 3) := (congrArg (fun c => decode c 64) zeq90).trans (by decide +kernel)
theorem d90_67 : decode (zB 90) 67 = .ok (.bipush 6, 2) := (congrArg (fun c => decode c 67) zeq90).trans (by decide +kernel)
theorem d90_69 : decode (zB 90) 69 = .ok (.iload_n 1, 1) := (congrArg (fun c => decode c 69) zeq90).trans (by decide +kernel)
theorem d90_70 : decode (zB 90) 70 = .ok (.iload_n 2, 1) := (congrArg (fun c => decode c 70) zeq90).trans (by decide +kernel)
theorem d90_71 : decode (zB 90) 71 = .ok (.invokevirtual 159, 3) := (congrArg (fun c => decode c 71) zeq90).trans (by decide +kernel)
theorem d90_74 : decode (zB 90) 74 = .ok (.iload_n 3, 1) := (congrArg (fun c => decode c 74) zeq90).trans (by decide +kernel)
theorem d90_75 : decode (zB 90) 75 = .ok (.ireturn, 1) := (congrArg (fun c => decode c 75) zeq90).trans (by decide +kernel)
theorem p90 {d : Nat} {M : zM} {Q : Option Value → zM → Prop} {D : yD} {x y : Int32} (hR : RC M D) (hD : OKD D) (k : ∀ M', RC M' (sSet D x y).2 → Fc M M' → Q (some (.int (sSet D x y).1)) M') : qC (d + 3) 90 [.ref 16, .int x, .int y] M Q := by
  refine qC_of (by decide) (Nat.le_of_ble_eq_true rfl) ?_
  have hS := hR.1.1
  have hT := hR.1.2.2.1
  have hO := hR.1.2.2.2.1
  have hRW := hR.1.2.2.2.2
  have hJ : RL M 62 (dL D) := hRW.2.2.2
  have hc6 := hO.1.1
  have h240 := hD.2.1
  have h120 := hR.2.2.1.1
  have hwr := hS.wo (Or.inl ⟨rfl, rfl, rfl, rfl⟩)
  have hwt := hS.wo (Or.inr ⟨rfl, rfl, rfl, rfl⟩)
  have hpr := hS.pu (Or.inl ⟨rfl, rfl, rfl, rfl⟩)
  have hpt := hS.pu (Or.inr ⟨rfl, rfl, rfl, rfl⟩)
  unfold sSet at k
  rcases zix_c x (n := 6) (by omega) with ⟨a, ha, rfl, ea⟩ | ⟨ea, na⟩
  · rw [oz_s ea] at k
    rcases zix_c y (n := 10000) (by omega) with ⟨v, hv, rfl, ev⟩ | ⟨ev, nv⟩
    · rw [oz_s ev] at k
      by_cases hL : 240 ≤ (dL D).length
      · rw [if_pos hL] at k
        refine q_iload_n d90_0 rfl ?_
        refine q_s1 d90_1 (Or.inl rfl) rfl (Nat.le_of_ble_eq_true rfl) (c26t (by omega) ?_)
        refine n0_eq 18 d90_4 (by decide) (by decide) (fun q => absurd q (by decide)) (fun _ => ?_)
        refine q_iload_n d90_7 rfl ?_
        refine q_iconstN (z := 0) d90_8 ?_
        refine q_sipush (x := nI 9999) d90_9 rfl ?_
        refine q_s3 d90_12 (Or.inl rfl) rfl (Nat.le_of_ble_eq_true rfl) (c10t ⟨by omega, by omega⟩ (by decide) ?_)
        refine n0_ne 21 d90_15 (by decide) (by decide) (fun _ => ?_) (fun q => absurd q (by decide))
        refine q_aload_n d90_21 rfl ?_
        refine q_getr (c := 7) (f := 3) d90_22 ⟨rfl, rfl⟩ (hS.1.1) (hS.1.2.2.2.2.2.1) ?_
        refine q_getv (c := 0) (f := 3) d90_25 ⟨rfl, by decide⟩ hS.2.2.2.1.1 hJ.1 ?_
        refine q_sipush (x := nI 240) d90_28 rfl ?_
        refine nc_lt 37 d90_31 (by decide) (by omega) (by omega) (fun h31 => (False.elim (by omega))) (fun h31 => ?_)
        refine q_bipush (x := (-4)) d90_34 rfl ?_
        refine q_iret d90_36 rfl ?_
        exact k _ hR (Fc.refl _)
      · rw [if_neg hL] at k
        refine q_iload_n d90_0 rfl ?_
        refine q_s1 d90_1 (Or.inl rfl) rfl (Nat.le_of_ble_eq_true rfl) (c26t (by omega) ?_)
        refine n0_eq 18 d90_4 (by decide) (by decide) (fun q => absurd q (by decide)) (fun _ => ?_)
        refine q_iload_n d90_7 rfl ?_
        refine q_iconstN (z := 0) d90_8 ?_
        refine q_sipush (x := nI 9999) d90_9 rfl ?_
        refine q_s3 d90_12 (Or.inl rfl) rfl (Nat.le_of_ble_eq_true rfl) (c10t ⟨by omega, by omega⟩ (by decide) ?_)
        refine n0_ne 21 d90_15 (by decide) (by decide) (fun _ => ?_) (fun q => absurd q (by decide))
        refine q_aload_n d90_21 rfl ?_
        refine q_getr (c := 7) (f := 3) d90_22 ⟨rfl, rfl⟩ (hS.1.1) (hS.1.2.2.2.2.2.1) ?_
        refine q_getv (c := 0) (f := 3) d90_25 ⟨rfl, by decide⟩ hS.2.2.2.1.1 hJ.1 ?_
        refine q_sipush (x := nI 240) d90_28 rfl ?_
        refine nc_lt 37 d90_31 (by decide) (by omega) (by omega) (fun h31 => ?_) (fun h31 => (False.elim (by omega)))
        refine q_aload_n d90_37 rfl ?_
        refine q_getr (c := 7) (f := 4) d90_38 ⟨rfl, rfl⟩ (hS.1.1) (hS.1.2.2.2.2.2.2.1) ?_
        refine q_getr (c := 6) (f := 2) d90_41 ⟨rfl, rfl⟩ hwr.1 hwr.2.2.2.1 ?_
        refine q_getr (c := 2) (f := 0) d90_44 ⟨rfl, rfl⟩ hpr.1 hpr.2.1 ?_
        refine q_iload_n d90_47 rfl ?_
        refine n_iald d90_48 hpr.2.2 (by omega) (by decide) (hRW.1.1 _ (by omega)) ?_
        refine q_istore_n d90_49 (by decide) rfl ?_
        refine q_aload_n d90_50 rfl ?_
        refine q_getr (c := 7) (f := 4) d90_51 ⟨rfl, rfl⟩ (hS.1.1) (hS.1.2.2.2.2.2.2.1) ?_
        refine q_getr (c := 6) (f := 2) d90_54 ⟨rfl, rfl⟩ hwr.1 hwr.2.2.2.1 ?_
        refine q_getr (c := 2) (f := 0) d90_57 ⟨rfl, rfl⟩ hpr.1 hpr.2.1 ?_
        refine q_iload_n d90_60 rfl ?_
        refine q_iload_n d90_61 rfl ?_
        refine n_iast d90_62 hpr.2.2 (by omega) (by decide) ?_
        refine q_aload_n d90_63 rfl ?_
        refine q_getr (c := 7) (f := 3) d90_64 ⟨rfl, rfl⟩ (hS.1.1) (hS.1.2.2.2.2.2.1) ?_
        refine q_bipush (x := nI 6) d90_67 rfl ?_
        refine q_iload_n d90_69 rfl ?_
        refine q_iload_n d90_70 rfl ?_
        have hS1 : SC (zwi M (67 + 1) a (nI v)) := SC_wi hS (by omega)
        have hJ1 : RJ (zwi M (67 + 1) a (nI v)) 62 (some (dL D)) := RJ_fr hRW.2.2 ((Fi.refl (Fb 67 69) _).wi (a := 67 + 1) (k := a) (v := nI v) ⟨by omega, by omega⟩).fr (fun b q h1 h2 e => by have := e.1; omega)
        refine q_v3 d90_71 rfl rfl hS.2.2.2.1.1 (Nat.le_of_ble_eq_true rfl) (c65 (g := some (dL D)) hS1 hJ1 (by show (dL D).length + 1 ≤ 240; omega) (fun M2 hJ2 f2 => ?_))
        refine q_iload_n d90_74 rfl ?_
        refine q_iret d90_75 rfl ?_
        have f1 : Fi (Fb 62 69) M (zwi M (67 + 1) a (nI v)) := (Fi.refl _ _).wi ⟨by omega, by omega⟩
        have f12 : Fi (Fb 62 69) M M2 := f1.trans (f2.mono (fun b q e => ⟨by have := e.1; omega, by have := e.2; omega⟩))
        have g12 : Fi (FW 62) M M2 := f12.mono (fun b q e => ⟨by have := e.1; omega, by have := e.2; omega⟩)
        have hP2 : RPu M2 67 (yu (dW D).1.1 a (nI v), (dW D).1.2) := RPu_fr (RPu_b hRW.1) f2.fr (fun b q h1 h2 e => by have := e.2; omega)
        have hW2 : RW M2 67 62 (dT D) (yNm (dT D) (dW D)) (((yu (dW D).1.1 a (nI v), (dW D).1.2), (dW D).2), some (dL D ++ [(6, a, v)])) := ⟨hP2, fun s hs => RS_fr (hRW.2.1 s hs) f12.fr (fun b q h1 h2 e => by have := e.2; omega), hJ2⟩
        have hO2 : OKW (dT D) (dc D) ((yu (dW D).1.1 a (nI v), (dW D).1.2), (dW D).2) := ⟨hO.1, OKP_u hO.2.1 ⟨nI_pos' (by omega), nI_le (by omega) (by omega)⟩, hO.2.2⟩
        have hC2 : CW M2 62 66 67 62 (dT D) (dc D) (yNm (dT D) (dW D)) (((yu (dW D).1.1 a (nI v), (dW D).1.2), (dW D).2), some (dL D ++ [(6, a, v)])) := CW.up hR.1 hW2 hO2 g12
        exact k _ (hR.wo hC2 g12) (FW.c g12)
    · rw [oz_n ev] at k
      refine q_iload_n d90_0 rfl ?_
      refine q_s1 d90_1 (Or.inl rfl) rfl (Nat.le_of_ble_eq_true rfl) (c26t (by omega) ?_)
      refine n0_eq 18 d90_4 (by decide) (by decide) (fun q => absurd q (by decide)) (fun _ => ?_)
      refine q_iload_n d90_7 rfl ?_
      refine q_iconstN (z := 0) d90_8 ?_
      refine q_sipush (x := nI 9999) d90_9 rfl ?_
      refine q_s3 d90_12 (Or.inl rfl) rfl (Nat.le_of_ble_eq_true rfl) (c10f (by decide) (by omega) (by decide) ?_)
      refine n0_ne 21 d90_15 (by decide) (by decide) (fun q => absurd q (by decide)) (fun _ => ?_)
      refine q_bipush (x := (-2)) d90_18 rfl ?_
      refine q_iret d90_20 rfl ?_
      exact k _ hR (Fc.refl _)
  · rw [oz_n ea] at k
    refine q_iload_n d90_0 rfl ?_
    refine q_s1 d90_1 (Or.inl rfl) rfl (Nat.le_of_ble_eq_true rfl) (c26f ea ?_)
    refine n0_eq 18 d90_4 (by decide) (by decide) (fun _ => ?_) (fun q => absurd q (by decide))
    refine q_bipush (x := (-2)) d90_18 rfl ?_
    refine q_iret d90_20 rfl ?_
    exact k _ hR (Fc.refl _)
theorem d68_0 : decode (zB 68) 0 = .ok (.aload_n 0, 1) := (congrArg (fun c => decode c 0) zeq68).trans (by decide +kernel)
theorem d68_1 : decode (zB 68) 1 = .ok (.getfield 28, 3) := (congrArg (fun c => decode c 1) zeq68).trans (by decide +kernel)
theorem d68_4 : decode (zB 68) 4 = .ok (.getfield 154, 3) := (congrArg (fun c => decode c 4) zeq68).trans (by decide +kernel)
theorem d68_7 : decode (zB 68) 7 = .ok (.sipush 190, 3) := (congrArg (fun c => decode c 7) zeq68).trans (by decide +kernel)
theorem d68_10 : decode (zB 68) 10 = .ok (.if_icmp .le 6, 3) := (congrArg (fun c => decode c 10) zeq68).trans (by decide +kernel)
theorem d68_13 : decode (zB 68) 13 = .ok (.bipush (-4), 2) := (congrArg (fun c => decode c 13) zeq68).trans (by decide +kernel)
theorem d68_15 : decode (zB 68) 15 = .ok (.ireturn, 1) := (congrArg (fun c => decode c 15) zeq68).trans (by decide +kernel)
theorem d68_16 : decode (zB 68) 16 = .ok (.aload_n 0, 1) := (congrArg (fun c => decode c 16) zeq68).trans (by decide +kernel)
theorem d68_17 : decode (zB 68) 17 = .ok (.getfield 28, 3) := (congrArg (fun c => decode c 17) zeq68).trans (by decide +kernel)
theorem d68_20 : decode (zB 68) 20 = .ok (.getfield 154, 3) := (congrArg (fun c => decode c 20) zeq68).trans (by decide +kernel)
theorem d68_23 : decode (zB 68) 23 = .ok (.istore_n 1, 1) := (congrArg (fun c => decode c 23) zeq68).trans (by decide +kernel)
theorem d68_24 : decode (zB 68) 24 = .ok (.aload_n 0, 1) := (congrArg (fun c => decode c 24) zeq68).trans (by decide +kernel)
theorem d68_25 : decode (zB 68) 25 = .ok (.getfield 37, 3) := (congrArg (fun c => decode c 25) zeq68).trans (by decide +kernel)
theorem d68_28 : decode (zB 68) 28 = .ok (.invokevirtual 175, 3) := (congrArg (fun c => decode c 28) zeq68).trans (by decide +kernel)
theorem d68_31 : decode (zB 68) 31 = .ok (.aload_n 0, 1) := (congrArg (fun c => decode c 31) zeq68).trans (by decide +kernel)
theorem d68_32 : decode (zB 68) 32 = .ok (.getfield 28, 3) := (congrArg (fun c => decode c 32) zeq68).trans (by decide +kernel)
theorem d68_35 : decode (zB 68) 35 = .ok (.getfield 154, 3) := (congrArg (fun c => decode c 35) zeq68).trans (by decide +kernel)
theorem d68_38 : decode (zB 68) 38 = .ok (.iload_n 1, 1) := (congrArg (fun c => decode c 38) zeq68).trans (by decide +kernel)
theorem d68_39 : decode (zB 68) 39 = .ok (.isub, 1) := (congrArg (fun c => decode c 39) zeq68).trans (by decide +kernel)
theorem d68_40 : decode (zB 68) 40 = .ok (.ireturn, 1) := (congrArg (fun c => decode c 40) zeq68).trans (by decide +kernel)
theorem p68 {d : Nat} {M : zM} {Q : Option Value → zM → Prop} {D : yD} (hR : RC M D) (hD : OKD D) (k : ∀ M', RC M' (sTick D).2 → Fc M M' → Q (some (.int (sTick D).1)) M') : qC (d + 6) 68 [.ref 16] M Q := by
  refine qC_of (by decide) (Nat.le_of_ble_eq_true rfl) ?_
  have hS := hR.1.1
  have hT := hR.1.2.2.1
  have hO := hR.1.2.2.2.1
  have hRW := hR.1.2.2.2.2
  have hJ : RL M 62 (dL D) := hRW.2.2.2
  have hc6 := hO.1.1
  have h240 := hD.2.1
  have h120 := hR.2.2.1.1
  have hwr := hS.wo (Or.inl ⟨rfl, rfl, rfl, rfl⟩)
  have hwt := hS.wo (Or.inr ⟨rfl, rfl, rfl, rfl⟩)
  have hpr := hS.pu (Or.inl ⟨rfl, rfl, rfl, rfl⟩)
  have hpt := hS.pu (Or.inr ⟨rfl, rfl, rfl, rfl⟩)
  unfold sTick at k
  by_cases hL : 190 < (dL D).length
  · rw [if_pos hL] at k
    refine q_aload_n d68_0 rfl ?_
    refine q_getr (c := 7) (f := 3) d68_1 ⟨rfl, rfl⟩ (hS.1.1) (hS.1.2.2.2.2.2.1) ?_
    refine q_getv (c := 0) (f := 3) d68_4 ⟨rfl, by decide⟩ hS.2.2.2.1.1 hJ.1 ?_
    refine q_sipush (x := nI 190) d68_7 rfl ?_
    refine nc_le 16 d68_10 (by decide) (by omega) (by omega) (fun h10 => (False.elim (by omega))) (fun h10 => ?_)
    refine q_bipush (x := (-4)) d68_13 rfl ?_
    refine q_iret d68_15 rfl ?_
    exact k _ hR (Fc.refl _)
  · rw [if_neg hL] at k
    obtain ⟨W', A, hX, hO', hx, hlen⟩ := yti_D hO
    rw [hX] at k
    have hlA : (dL D).length ≤ (dL D ++ A).length := by rw [List.length_append]; omega
    refine q_aload_n d68_0 rfl ?_
    refine q_getr (c := 7) (f := 3) d68_1 ⟨rfl, rfl⟩ (hS.1.1) (hS.1.2.2.2.2.2.1) ?_
    refine q_getv (c := 0) (f := 3) d68_4 ⟨rfl, by decide⟩ hS.2.2.2.1.1 hJ.1 ?_
    refine q_sipush (x := nI 190) d68_7 rfl ?_
    refine nc_le 16 d68_10 (by decide) (by omega) (by omega) (fun h10 => ?_) (fun h10 => (False.elim (by omega)))
    refine q_aload_n d68_16 rfl ?_
    refine q_getr (c := 7) (f := 3) d68_17 ⟨rfl, rfl⟩ (hS.1.1) (hS.1.2.2.2.2.2.1) ?_
    refine q_getv (c := 0) (f := 3) d68_20 ⟨rfl, by decide⟩ hS.2.2.2.1.1 hJ.1 ?_
    refine q_istore_n d68_23 (by decide) rfl ?_
    refine q_aload_n d68_24 rfl ?_
    refine q_getr (c := 7) (f := 4) d68_25 ⟨rfl, rfl⟩ (hS.1.1) (hS.1.2.2.2.2.2.2.1) ?_
    refine q_v0 d68_28 rfl rfl hwr.1 (Nat.le_of_ble_eq_true rfl) (c69 (nm := dnm D) (X := dX D) hR.1 (by show (dL D).length + 39 ≤ 240; omega) (fun M1 hC1 f1 => ?_))
    rw [hX] at hC1
    have hS1 := hC1.1
    have hJ1 : RL M1 62 (dL D ++ A) := hC1.2.2.2.2.2.2.2
    refine q_aload_n d68_31 rfl ?_
    refine q_getr (c := 7) (f := 3) d68_32 ⟨rfl, rfl⟩ (hS1.1.1) (hS1.1.2.2.2.2.2.1) ?_
    refine q_getv (c := 0) (f := 3) d68_35 ⟨rfl, by decide⟩ hS1.2.2.2.1.1 hJ1.1 ?_
    refine q_iload_n d68_38 rfl ?_
    refine n_isub d68_39 (by omega) ?_
    refine q_iret d68_40 rfl ?_
    have hN : CN M1 62 66 67 62 (dT D) (dc D) (W', some (dL D ++ A)) := CN_of hC1 (fun s _ q _ => by show tu (dT D (gx (W'.2 s))) q = tu (dT D (gx ((dW D).2 s))) q; rw [hx s])
    exact k _ (hR.wo hN f1) (FW.c f1)
/-! ===== the calls of the class: begin, breaks ===== -/
theorem RC.wr {M M' : zM} {D : yD} {W : yW} {L : List yL} (hR : RC M D) (h : CN M' 62 66 67 62 (dT D) (dc D) (W, some L)) (f : Fr (FW 62) M M') : RC M' (dwS D W L) :=
  ⟨h, (f.i (fun q => by have := q.1; omega)).trans hR.2.1, RTp_fi hR.2.2.1 f ⟨fun q => by have := q.1; omega, fun k q => by have := q.1; omega⟩, fun i hi => ⟨(f.i (fun q => by have := q.2; omega)).trans (hR.2.2.2 i hi).1, (f.i (fun q => by have := q.2; omega)).trans (hR.2.2.2 i hi).2⟩⟩
theorem FW.cr {M M' : zM} (f : Fr (FW 62) M M') : Fc M M' := f.c (fun a k ha q => by have := q.1; have := q.2; omega)
theorem yva_take {T : Nat → yT} {c n : Nat} {L : List yL} (h : yva T c L) : yva T c (L.take n) := by
  intro k hk
  rw [List.length_take] at hk
  have := h k (by omega)
  rw [List.take_take, Nat.min_eq_left (by omega), List.getD_eq_getElem?_getD, List.getElem?_take_of_lt (by omega), ← List.getD_eq_getElem?_getD]
  exact this
theorem d59_0 : decode (zB 59) 0 = .ok (.iload_n 1, 1) := (congrArg (fun c => decode c 0) zeq59).trans (by decide +kernel)
theorem d59_1 : decode (zB 59) 1 = .ok (.invokestatic 141, 3) := (congrArg (fun c => decode c 1) zeq59).trans (by decide +kernel)
theorem d59_4 : decode (zB 59) 4 = .ok (.ifCond .eq 11, 3) := (congrArg (fun c => decode c 4) zeq59).trans (by decide +kernel)
theorem d59_7 : decode (zB 59) 7 = .ok (.aload_n 0, 1) := (congrArg (fun c => decode c 7) zeq59).trans (by decide +kernel)
theorem d59_8 : decode (zB 59) 8 = .ok (.iload_n 2, 1) := (congrArg (fun c => decode c 8) zeq59).trans (by decide +kernel)
theorem d59_9 : decode (zB 59) 9 = .ok (.invokevirtual 77, 3) := (congrArg (fun c => decode c 9) zeq59).trans (by decide +kernel)
theorem d59_12 : decode (zB 59) 12 = .ok (.ifCond .ne 6, 3) := (congrArg (fun c => decode c 12) zeq59).trans (by decide +kernel)
theorem d59_15 : decode (zB 59) 15 = .ok (.bipush (-2), 2) := (congrArg (fun c => decode c 15) zeq59).trans (by decide +kernel)
theorem d59_17 : decode (zB 59) 17 = .ok (.ireturn, 1) := (congrArg (fun c => decode c 17) zeq59).trans (by decide +kernel)
theorem d59_18 : decode (zB 59) 18 = .ok (.aload_n 0, 1) := (congrArg (fun c => decode c 18) zeq59).trans (by decide +kernel)
theorem d59_19 : decode (zB 59) 19 = .ok (.getfield 37, 3) := (congrArg (fun c => decode c 19) zeq59).trans (by decide +kernel)
theorem d59_22 : decode (zB 59) 22 = .ok (.getfield 144, 3) := (congrArg (fun c => decode c 22) zeq59).trans (by decide +kernel)
theorem d59_25 : decode (zB 59) 25 = .ok (.iload_n 1, 1) := (congrArg (fun c => decode c 25) zeq59).trans (by decide +kernel)
theorem d59_26 : decode (zB 59) 26 = .ok (.aaload, 1) := (congrArg (fun c => decode c 26) zeq59).trans (by decide +kernel)
theorem d59_27 : decode (zB 59) 27 = .ok (.astore_n 3, 1) := (congrArg (fun c => decode c 27) zeq59).trans (by decide +kernel)
theorem d59_28 : decode (zB 59) 28 = .ok (.aload_n 3, 1) := (congrArg (fun c => decode c 28) zeq59).trans (by decide +kernel)
theorem d59_29 : decode (zB 59) 29 = .ok (.invokevirtual 148, 3) := (congrArg (fun c => decode c 29) zeq59).trans (by decide +kernel)
theorem d59_32 : decode (zB 59) 32 = .ok (.ifCond .eq 6, 3) := (congrArg (fun c => decode c 32) zeq59).trans (by decide +kernel)
theorem d59_35 : decode (zB 59) 35 = .ok (.bipush (-3), 2) := (congrArg (fun c => decode c 35) zeq59).trans (by decide +kernel)
theorem d59_37 : decode (zB 59) 37 = .ok (.ireturn, 1) := (congrArg (fun c => decode c 37) zeq59).trans (by decide +kernel)
theorem d59_38 : decode (zB 59) 38 = .ok (.aload_n 0, 1) := (congrArg (fun c => decode c 38) zeq59).trans (by decide +kernel)
theorem d59_39 : decode (zB 59) 39 = .ok (.getfield 28, 3) := (congrArg (fun c => decode c 39) zeq59).trans (by decide +kernel)
theorem d59_42 : decode (zB 59) 42 = .ok (.getfield 154, 3) := (congrArg (fun c => decode c 42) zeq59).trans (by decide +kernel)
theorem d59_45 : decode (zB 59) 45 = .ok (.sipush 240, 3) := (congrArg (fun c => decode c 45) zeq59).trans (by decide +kernel)
theorem d59_48 : decode (zB 59) 48 = .ok (.if_icmp .lt 6, 3) := (congrArg (fun c => decode c 48) zeq59).trans (by decide +kernel)
theorem d59_51 : decode (zB 59) 51 = .ok (.bipush (-4), 2) := (congrArg (fun c => decode c 51) zeq59).trans (by decide +kernel)
theorem d59_53 : decode (zB 59) 53 = .ok (.ireturn, 1) := (congrArg (fun c => decode c 53) zeq59).trans (by decide +kernel)
theorem d59_54 : decode (zB 59) 54 = .ok (.aload_n 3, 1) := (congrArg (fun c => decode c 54) zeq59).trans (by decide +kernel)
theorem d59_55 : decode (zB 59) 55 = .ok (.aload_n 0, 1) := (congrArg (fun c => decode c 55) zeq59).trans (by decide +kernel)
theorem d59_56 : decode (zB 59) 56 = .ok (.getfield 18, 3) := (congrArg (fun c => decode c 56) zeq59).trans (by decide +kernel)
theorem d59_59 : decode (zB 59) 59 = .ok (.iload_n 2, 1) := (congrArg (fun c => decode c 59) zeq59).trans (by decide +kernel)
theorem d59_60 : decode (zB 59) 60 = .ok (.aaload, 1) := (congrArg (fun c => decode c 60) zeq59).trans (by decide +kernel)
theorem d59_61 : decode (zB 59) 61 = .ok (.iload_n 2, 1) := (congrArg (fun c => decode c 61) zeq59).trans (by decide +kernel)
theorem d59_62 : decode (zB 59) 62 = .ok (.invokevirtual 155, 3) := (congrArg (fun c => decode c 62) zeq59).trans (by decide +kernel)
theorem d59_65 : decode (zB 59) 65 = .ok (.aload_n 0, 1) := (congrArg (fun c => decode c 65) zeq59).trans (by decide +kernel)
theorem d59_66 : decode (zB 59) 66 = .ok (.getfield 28, 3) := (congrArg (fun c => decode c 66) zeq59).trans (by decide +kernel)
theorem d59_69 : decode (zB 59) 69 = .ok (.iconst 0, 1) := (congrArg (fun c => decode c 69) zeq59).trans (by decide +kernel)
theorem d59_70 : decode (zB 59) 70 = .ok (.iload_n 1, 1) := (congrArg (fun c => decode c 70) zeq59).trans (by decide +kernel)
theorem d59_71 : decode (zB 59) 71 = .ok (.iload_n 2, 1) := (congrArg (fun c => decode c 71) zeq59).trans (by decide +kernel)
theorem d59_72 : decode (zB 59) 72 = .ok (.invokevirtual 159, 3) := (congrArg (fun c => decode c 72) zeq59).trans (by decide +kernel)
theorem d59_75 : decode (zB 59) 75 = .ok (.aload_n 0, 1) := (congrArg (fun c => decode c 75) zeq59).trans (by decide +kernel)
theorem d59_76 : decode (zB 59) 76 = .ok (.getfield 18, 3) := (congrArg (fun c => decode c 76) zeq59).trans (by decide +kernel)
theorem d59_79 : decode (zB 59) 79 = .ok (.iload_n 2, 1) := (congrArg (fun c => decode c 79) zeq59).trans (by decide +kernel)
theorem d59_80 : decode (zB 59) 80 = .ok (.aaload, 1) := (congrArg (fun c => decode c 80) zeq59).trans (by decide +kernel)
theorem d59_81 : decode (zB 59) 81 = .ok (.getfield 80, 3) := (congrArg (fun c => decode c 81) zeq59).trans (by decide +kernel)
theorem d59_84 : decode (zB 59) 84 = .ok (.ireturn, 1) := (congrArg (fun c => decode c 84) zeq59).trans (by decide +kernel)
theorem p59 {d : Nat} {M : zM} {Q : Option Value → zM → Prop} {D : yD} {x y : Int32} (hR : RC M D) (hD : OKD D) (k : ∀ M', RC M' (sBegin D x y).2 → Fc M M' → Q (some (.int (sBegin D x y).1)) M') : qC (d + 5) 59 [.ref 16, .int x, .int y] M Q := by
  refine qC_of (by decide) (Nat.le_of_ble_eq_true rfl) ?_
  have hS := hR.1.1
  have hT := hR.1.2.2.1
  have hO := hR.1.2.2.2.1
  have hRW := hR.1.2.2.2.2
  have hJ : RL M 62 (dL D) := hRW.2.2.2
  have hc6 := hO.1.1
  have h240 := hD.2.1
  have h120 := hR.2.2.1.1
  have hwr := hS.wo (Or.inl ⟨rfl, rfl, rfl, rfl⟩)
  have hwt := hS.wo (Or.inr ⟨rfl, rfl, rfl, rfl⟩)
  have hpr := hS.pu (Or.inl ⟨rfl, rfl, rfl, rfl⟩)
  have hpt := hS.pu (Or.inr ⟨rfl, rfl, rfl, rfl⟩)
  unfold sBegin at k
  rcases zix_c x (n := 3) (by omega) with ⟨s, hs, rfl, es⟩ | ⟨es, ns⟩
  · rw [oz_s es] at k
    have hsg := hS.sg (show zSa (70 + 8 * s) by unfold zSa; omega)
    have hOs : OKS (dT D) (dc D) (dS D s) := hO.2.2 s hs
    have hg5 := hOs.1
    have q0 : zi M (70 + 8 * s) 0 = nI (gt (dS D s)) := (hRW.2.1 s hs).1.1
    rcases zix_c y (n := dc D) (by omega) with ⟨t, ht, rfl, et⟩ | ⟨et, nt⟩
    · rw [oz_s et] at k
      have ho := hO.1.2 _ ht
      have hn := ho.n
      by_cases ha : gt (dS D s) = 1 ∨ gt (dS D s) = 2
      · rw [if_pos ha] at k
        refine q_iload_n d59_0 rfl ?_
        refine q_s1 d59_1 (Or.inl rfl) rfl (Nat.le_of_ble_eq_true rfl) (c60t (by omega) ?_)
        refine n0_eq 15 d59_4 (by decide) (by decide) (fun q => absurd q (by decide)) (fun _ => ?_)
        refine q_aload_n d59_7 rfl ?_
        refine q_iload_n d59_8 rfl ?_
        refine q_v1 d59_9 rfl rfl (hS.1.1) (Nat.le_of_ble_eq_true rfl) (c33t hR (by omega) ?_)
        refine n0_ne 18 d59_12 (by decide) (by decide) (fun _ => ?_) (fun q => absurd q (by decide))
        refine q_aload_n d59_18 rfl ?_
        refine q_getr (c := 7) (f := 4) d59_19 ⟨rfl, rfl⟩ (hS.1.1) (hS.1.2.2.2.2.2.2.1) ?_
        refine q_getr (c := 6) (f := 3) d59_22 ⟨rfl, rfl⟩ hwr.1 hwr.2.2.2.2.1 ?_
        refine q_iload_n d59_25 rfl ?_
        refine n_aald d59_26 hwr.2.2.2.2.2.1 (by decide) (by omega) (by decide) (hwr.2.2.2.2.2.2 _ (by omega)) ?_
        refine q_astore_n d59_27 (by decide) rfl ?_
        refine q_aload_n d59_28 rfl ?_
        refine q_v0 d59_29 rfl rfl hsg.1 (Nat.le_of_ble_eq_true rfl) (c61 hsg q0 hg5 ?_)
        refine b0_eq 38 d59_32 (by decide) (fun h32 => (False.elim (absurd ha (of_decide_eq_false h32)))) (fun h32 => ?_)
        refine q_bipush (x := (-3)) d59_35 rfl ?_
        refine q_iret d59_37 rfl ?_
        exact k _ hR (Fc.refl _)
      · rw [if_neg ha] at k
        by_cases hL : 240 ≤ (dL D).length
        · rw [if_pos hL] at k
          refine q_iload_n d59_0 rfl ?_
          refine q_s1 d59_1 (Or.inl rfl) rfl (Nat.le_of_ble_eq_true rfl) (c60t (by omega) ?_)
          refine n0_eq 15 d59_4 (by decide) (by decide) (fun q => absurd q (by decide)) (fun _ => ?_)
          refine q_aload_n d59_7 rfl ?_
          refine q_iload_n d59_8 rfl ?_
          refine q_v1 d59_9 rfl rfl (hS.1.1) (Nat.le_of_ble_eq_true rfl) (c33t hR (by omega) ?_)
          refine n0_ne 18 d59_12 (by decide) (by decide) (fun _ => ?_) (fun q => absurd q (by decide))
          refine q_aload_n d59_18 rfl ?_
          refine q_getr (c := 7) (f := 4) d59_19 ⟨rfl, rfl⟩ (hS.1.1) (hS.1.2.2.2.2.2.2.1) ?_
          refine q_getr (c := 6) (f := 3) d59_22 ⟨rfl, rfl⟩ hwr.1 hwr.2.2.2.2.1 ?_
          refine q_iload_n d59_25 rfl ?_
          refine n_aald d59_26 hwr.2.2.2.2.2.1 (by decide) (by omega) (by decide) (hwr.2.2.2.2.2.2 _ (by omega)) ?_
          refine q_astore_n d59_27 (by decide) rfl ?_
          refine q_aload_n d59_28 rfl ?_
          refine q_v0 d59_29 rfl rfl hsg.1 (Nat.le_of_ble_eq_true rfl) (c61 hsg q0 hg5 ?_)
          refine b0_eq 38 d59_32 (by decide) (fun h32 => ?_) (fun h32 => (False.elim (ha (of_decide_eq_true h32))))
          refine q_aload_n d59_38 rfl ?_
          refine q_getr (c := 7) (f := 3) d59_39 ⟨rfl, rfl⟩ (hS.1.1) (hS.1.2.2.2.2.2.1) ?_
          refine q_getv (c := 0) (f := 3) d59_42 ⟨rfl, by decide⟩ hS.2.2.2.1.1 hJ.1 ?_
          refine q_sipush (x := nI 240) d59_45 rfl ?_
          refine nc_lt 54 d59_48 (by decide) (by omega) (by omega) (fun h48 => (False.elim (by omega))) (fun h48 => ?_)
          refine q_bipush (x := (-4)) d59_51 rfl ?_
          refine q_iret d59_53 rfl ?_
          exact k _ hR (Fc.refl _)
        · rw [if_neg hL] at k
          refine q_iload_n d59_0 rfl ?_
          refine q_s1 d59_1 (Or.inl rfl) rfl (Nat.le_of_ble_eq_true rfl) (c60t (by omega) ?_)
          refine n0_eq 15 d59_4 (by decide) (by decide) (fun q => absurd q (by decide)) (fun _ => ?_)
          refine q_aload_n d59_7 rfl ?_
          refine q_iload_n d59_8 rfl ?_
          refine q_v1 d59_9 rfl rfl (hS.1.1) (Nat.le_of_ble_eq_true rfl) (c33t hR (by omega) ?_)
          refine n0_ne 18 d59_12 (by decide) (by decide) (fun _ => ?_) (fun q => absurd q (by decide))
          refine q_aload_n d59_18 rfl ?_
          refine q_getr (c := 7) (f := 4) d59_19 ⟨rfl, rfl⟩ (hS.1.1) (hS.1.2.2.2.2.2.2.1) ?_
          refine q_getr (c := 6) (f := 3) d59_22 ⟨rfl, rfl⟩ hwr.1 hwr.2.2.2.2.1 ?_
          refine q_iload_n d59_25 rfl ?_
          refine n_aald d59_26 hwr.2.2.2.2.2.1 (by decide) (by omega) (by decide) (hwr.2.2.2.2.2.2 _ (by omega)) ?_
          refine q_astore_n d59_27 (by decide) rfl ?_
          refine q_aload_n d59_28 rfl ?_
          refine q_v0 d59_29 rfl rfl hsg.1 (Nat.le_of_ble_eq_true rfl) (c61 hsg q0 hg5 ?_)
          refine b0_eq 38 d59_32 (by decide) (fun h32 => ?_) (fun h32 => (False.elim (ha (of_decide_eq_true h32))))
          refine q_aload_n d59_38 rfl ?_
          refine q_getr (c := 7) (f := 3) d59_39 ⟨rfl, rfl⟩ (hS.1.1) (hS.1.2.2.2.2.2.1) ?_
          refine q_getv (c := 0) (f := 3) d59_42 ⟨rfl, by decide⟩ hS.2.2.2.1.1 hJ.1 ?_
          refine q_sipush (x := nI 240) d59_45 rfl ?_
          refine nc_lt 54 d59_48 (by decide) (by omega) (by omega) (fun h48 => ?_) (fun h48 => (False.elim (by omega)))
          refine q_aload_n d59_54 rfl ?_
          refine q_aload_n d59_55 rfl ?_
          refine q_getr (c := 7) (f := 1) d59_56 ⟨rfl, rfl⟩ (hS.1.1) (hS.1.2.2.1) ?_
          refine q_iload_n d59_59 rfl ?_
          refine n_aald d59_60 (hS.1.2.2.2.1) (by decide) (by omega) (by decide) ((hS.1.2.2.2.2.1) _ (by omega)) ?_
          refine q_iload_n d59_61 rfl ?_
          refine q_v2 d59_62 rfl rfl hsg.1 (Nat.le_of_ble_eq_true rfl) (c62 (T := dT D) (nm := yNm (dT D) ((dW D).1, yu (dW D).2 s (ySt t)) s) hS (by unfold zSa; omega) (by omega) (hT t ht) hn (fun j hj => by show tu (dT D (gx (yu (dW D).2 s (ySt t) s))) j = _; rw [yu_s]; rfl) (fun M1 hR1 f1 hS1 => ?_))
          have hJ1 := RJ_fr hRW.2.2 f1 (fun b q h1 h2 e => by have := e.1; omega)
          refine q_aload_n d59_65 rfl ?_
          refine q_getr (c := 7) (f := 3) d59_66 ⟨rfl, rfl⟩ (hS1.1.1) (hS1.1.2.2.2.2.2.1) ?_
          refine q_iconstN (z := 0) d59_69 ?_
          refine q_iload_n d59_70 rfl ?_
          refine q_iload_n d59_71 rfl ?_
          refine q_v3 d59_72 rfl rfl hS1.2.2.2.1.1 (Nat.le_of_ble_eq_true rfl) (c65 (g := some (dL D)) hS1 hJ1 (by show (dL D).length + 1 ≤ 240; omega) (fun M2 hJ2 f2 => ?_))
          have hS2 := f2.sc hS1 (fun a q ha e => by have := e.1; omega)
          have g1 : Fr (FW 62) M M1 := f1.mono (fun b q e => ⟨by have := e.1; omega, by have := e.2; omega⟩)
          have g2 : Fr (FW 62) M M2 := g1.trans (f2.fr.mono (fun b q e => ⟨by have := e.1; omega, by have := e.2; omega⟩))
          have hT2 : RTx M2 (dT D) (dc D) := RTx_fr hT hc6 g2 (fun b q h1 h2 e => by have := e.1; omega)
          refine q_aload_n d59_75 rfl ?_
          refine q_getr (c := 7) (f := 1) d59_76 ⟨rfl, rfl⟩ (hS2.1.1) (hS2.1.2.2.1) ?_
          refine q_iload_n d59_79 rfl ?_
          refine n_aald d59_80 (hS2.1.2.2.2.1) (by decide) (by omega) (by decide) ((hS2.1.2.2.2.2.1) _ (by omega)) ?_
          refine q_getv (c := 1) (f := 6) d59_81 ⟨rfl, by decide⟩ (hS2.pr (by omega)).1 (hT2 _ ht).1 ?_
          refine q_iret d59_84 rfl ?_
          have hP2 : RPu M2 67 (dW D).1 := RPu_fr (RPu_fr hRW.1 f1 (fun b q h1 h2 e => by have := e.1; omega)) f2.fr (fun b q h1 h2 e => by have := e.2; omega)
          have hs2 : ∀ r, r < 3 → RS M2 (67 + 3 + 8 * r) (dT D) (yNm (dT D) ((dW D).1, yu (dW D).2 s (ySt t)) r) (yu (dW D).2 s (ySt t) r) := by
            intro r hr
            by_cases e : r = s
            · subst e; rw [yu_s]; exact RS_fr hR1 f2.fr (fun b q h1 h2 e => by have := e.2; omega)
            · rw [yu_n e]
              exact RS_fr (RS_fr (RS_nm (hRW.2.1 r hr) (fun q _ => by show tu (dT D (gx (yu (dW D).2 s (ySt t) r))) q = _; rw [yu_n e]; rfl)) f1 (fun b q h1 h2 e => by have := e.1; have := e.2; omega)) f2.fr (fun b q h1 h2 e => by have := e.2; omega)
          have hO2 : OKW (dT D) (dc D) ((dW D).1, yu (dW D).2 s (ySt t)) := ⟨hO.1, hO.2.1, fun r hr => by
            show OKS (dT D) (dc D) (yu (dW D).2 s (ySt t) r)
            by_cases e : r = s
            · subst e; rw [yu_s]; exact OKS_St ht
            · rw [yu_n e]; exact hO.2.2 r hr⟩
          have hN : CN M2 62 66 67 62 (dT D) (dc D) (((dW D).1, yu (dW D).2 s (ySt t)), some (dL D ++ [(0, s, t)])) := ⟨hS2, Or.inl ⟨rfl, rfl, rfl, rfl⟩, hT2, hO2, ⟨hP2, hs2, hJ2⟩⟩
          exact k _ (hR.wr hN g2) (FW.cr g2)
    · rw [oz_n et] at k
      refine q_iload_n d59_0 rfl ?_
      refine q_s1 d59_1 (Or.inl rfl) rfl (Nat.le_of_ble_eq_true rfl) (c60t (by omega) ?_)
      refine n0_eq 15 d59_4 (by decide) (by decide) (fun q => absurd q (by decide)) (fun _ => ?_)
      refine q_aload_n d59_7 rfl ?_
      refine q_iload_n d59_8 rfl ?_
      refine q_v1 d59_9 rfl rfl (hS.1.1) (Nat.le_of_ble_eq_true rfl) (c33f hR et ?_)
      refine n0_ne 18 d59_12 (by decide) (by decide) (fun q => absurd q (by decide)) (fun _ => ?_)
      refine q_bipush (x := (-2)) d59_15 rfl ?_
      refine q_iret d59_17 rfl ?_
      exact k _ hR (Fc.refl _)
  · rw [oz_n es] at k
    refine q_iload_n d59_0 rfl ?_
    refine q_s1 d59_1 (Or.inl rfl) rfl (Nat.le_of_ble_eq_true rfl) (c60f es ?_)
    refine n0_eq 15 d59_4 (by decide) (by decide) (fun _ => ?_) (fun q => absurd q (by decide))
    refine q_bipush (x := (-2)) d59_15 rfl ?_
    refine q_iret d59_17 rfl ?_
    exact k _ hR (Fc.refl _)
theorem c10g {d b : Nat} {M : zM} {Q : Option Value → zM → Prop} {x : Int32} (h : zix x (b + 1) = none) (hb : b + 1 < 2147483648) (k : Q (some (.int (nI 0))) M) : qC (d + 1) 10 [.int x, .int (nI 0), .int (nI b)] M Q :=
  c10f (by omega) (fun q => by have := zix_none h; omega) (by decide) k
theorem d99_0 : decode (zB 99) 0 = .ok (.iload_n 1, 1) := (congrArg (fun c => decode c 0) zeq99).trans (by decide +kernel)
theorem d99_1 : decode (zB 99) 1 = .ok (.iconst 0, 1) := (congrArg (fun c => decode c 1) zeq99).trans (by decide +kernel)
theorem d99_2 : decode (zB 99) 2 = .ok (.aload_n 0, 1) := (congrArg (fun c => decode c 2) zeq99).trans (by decide +kernel)
theorem d99_3 : decode (zB 99) 3 = .ok (.getfield 28, 3) := (congrArg (fun c => decode c 3) zeq99).trans (by decide +kernel)
theorem d99_6 : decode (zB 99) 6 = .ok (.getfield 154, 3) := (congrArg (fun c => decode c 6) zeq99).trans (by decide +kernel)
theorem d99_9 : decode (zB 99) 9 = .ok (.invokestatic 55, 3) := (congrArg (fun c => decode c 9) zeq99).trans (by decide +kernel)
theorem d99_12 : decode (zB 99) 12 = .ok (.ifCond .ne 6, 3) := (congrArg (fun c => decode c 12) zeq99).trans (by decide +kernel)
theorem d99_15 : decode (zB 99) 15 = .ok (.bipush (-2), 2) := (congrArg (fun c => decode c 15) zeq99).trans (by decide +kernel)
theorem d99_17 : decode (zB 99) 17 = .ok (.ireturn, 1) := (congrArg (fun c => decode c 17) zeq99).trans (by decide +kernel)
theorem d99_18 : decode (zB 99) 18 = .ok (.aload_n 0, 1) := (congrArg (fun c => decode c 18) zeq99).trans (by decide +kernel)
theorem d99_19 : decode (zB 99) 19 = .ok (.getfield 28, 3) := (congrArg (fun c => decode c 19) zeq99).trans (by decide +kernel)
theorem d99_22 : decode (zB 99) 22 = .ok (.getfield 154, 3) := (congrArg (fun c => decode c 22) zeq99).trans (by decide +kernel)
theorem d99_25 : decode (zB 99) 25 = .ok (.iload_n 1, 1) := (congrArg (fun c => decode c 25) zeq99).trans (by decide +kernel)
theorem d99_26 : decode (zB 99) 26 = .ok (.isub, 1) := (congrArg (fun c => decode c 26) zeq99).trans (by decide +kernel)
theorem d99_27 : decode (zB 99) 27 = .ok (.istore_n 2, 1) := (congrArg (fun c => decode c 27) zeq99).trans (by decide +kernel)
theorem d99_28 : decode (zB 99) 28 = .ok (.aload_n 0, 1) := (congrArg (fun c => decode c 28) zeq99).trans (by decide +kernel)
theorem d99_29 : decode (zB 99) 29 = .ok (.getfield 28, 3) := (congrArg (fun c => decode c 29) zeq99).trans (by decide +kernel)
theorem d99_32 : decode (zB 99) 32 = .ok (.iload_n 1, 1) := (congrArg (fun c => decode c 32) zeq99).trans (by decide +kernel)
theorem d99_33 : decode (zB 99) 33 = .ok (.putfield 154, 3) := (congrArg (fun c => decode c 33) zeq99).trans (by decide +kernel)
theorem d99_36 : decode (zB 99) 36 = .ok (.aload_n 0, 1) := (congrArg (fun c => decode c 36) zeq99).trans (by decide +kernel)
theorem d99_37 : decode (zB 99) 37 = .ok (.getfield 37, 3) := (congrArg (fun c => decode c 37) zeq99).trans (by decide +kernel)
theorem d99_40 : decode (zB 99) 40 = .ok (.aload_n 0, 1) := (congrArg (fun c => decode c 40) zeq99).trans (by decide +kernel)
theorem d99_41 : decode (zB 99) 41 = .ok (.getfield 28, 3) := (congrArg (fun c => decode c 41) zeq99).trans (by decide +kernel)
theorem d99_44 : decode (zB 99) 44 = .ok (.iload_n 1, 1) := (congrArg (fun c => decode c 44) zeq99).trans (by decide +kernel)
theorem d99_45 : decode (zB 99) 45 = .ok (.invokevirtual 220, 3) := (congrArg (fun c => decode c 45) zeq99).trans (by decide +kernel)
theorem d99_48 : decode (zB 99) 48 = .ok (.iload_n 2, 1) := (congrArg (fun c => decode c 48) zeq99).trans (by decide +kernel)
theorem d99_49 : decode (zB 99) 49 = .ok (.ireturn, 1) := (congrArg (fun c => decode c 49) zeq99).trans (by decide +kernel)
theorem p99 {d : Nat} {M : zM} {Q : Option Value → zM → Prop} {D : yD} {x : Int32} (hR : RC M D) (hD : OKD D) (k : ∀ M', RC M' (sBreaks D x).2 → Fc M M' → Q (some (.int (sBreaks D x).1)) M') : qC (d + 8) 99 [.ref 16, .int x] M Q := by
  refine qC_of (by decide) (Nat.le_of_ble_eq_true rfl) ?_
  have hS := hR.1.1
  have hT := hR.1.2.2.1
  have hO := hR.1.2.2.2.1
  have hRW := hR.1.2.2.2.2
  have hJ : RL M 62 (dL D) := hRW.2.2.2
  have hc6 := hO.1.1
  have h240 := hD.2.1
  have h120 := hR.2.2.1.1
  have hwr := hS.wo (Or.inl ⟨rfl, rfl, rfl, rfl⟩)
  have hwt := hS.wo (Or.inr ⟨rfl, rfl, rfl, rfl⟩)
  have hpr := hS.pu (Or.inl ⟨rfl, rfl, rfl, rfl⟩)
  have hpt := hS.pu (Or.inr ⟨rfl, rfl, rfl, rfl⟩)
  unfold sBreaks at k
  rcases zix_c x (n := (dL D).length + 1) (by omega) with ⟨n, hn, rfl, en⟩ | ⟨en, nn⟩
  · rw [oz_s en] at k
    refine q_iload_n d99_0 rfl ?_
    refine q_iconstN (z := 0) d99_1 ?_
    refine q_aload_n d99_2 rfl ?_
    refine q_getr (c := 7) (f := 3) d99_3 ⟨rfl, rfl⟩ (hS.1.1) (hS.1.2.2.2.2.2.1) ?_
    refine q_getv (c := 0) (f := 3) d99_6 ⟨rfl, by decide⟩ hS.2.2.2.1.1 hJ.1 ?_
    refine q_s3 d99_9 (Or.inl rfl) rfl (Nat.le_of_ble_eq_true rfl) (c10t ⟨by omega, by omega⟩ (by omega) ?_)
    refine n0_ne 18 d99_12 (by decide) (by decide) (fun _ => ?_) (fun q => absurd q (by decide))
    refine q_aload_n d99_18 rfl ?_
    refine q_getr (c := 7) (f := 3) d99_19 ⟨rfl, rfl⟩ (hS.1.1) (hS.1.2.2.2.2.2.1) ?_
    refine q_getv (c := 0) (f := 3) d99_22 ⟨rfl, by decide⟩ hS.2.2.2.1.1 hJ.1 ?_
    refine q_iload_n d99_25 rfl ?_
    refine n_isub d99_26 (by omega) ?_
    refine q_istore_n d99_27 (by decide) rfl ?_
    refine q_aload_n d99_28 rfl ?_
    refine q_getr (c := 7) (f := 3) d99_29 ⟨rfl, rfl⟩ (hS.1.1) (hS.1.2.2.2.2.2.1) ?_
    refine q_iload_n d99_32 rfl ?_
    refine q_puti (c := 0) (f := 3) d99_33 ⟨rfl, rfl, by decide⟩ hS.2.2.2.1.1 ?_
    refine q_aload_n d99_36 rfl ?_
    refine q_getr (c := 7) (f := 4) d99_37 ⟨rfl, rfl⟩ (hS.1.1) (hS.1.2.2.2.2.2.2.1) ?_
    refine q_aload_n d99_40 rfl ?_
    refine q_getr (c := 7) (f := 3) d99_41 ⟨rfl, rfl⟩ (hS.1.1) (hS.1.2.2.2.2.2.1) ?_
    refine q_iload_n d99_44 rfl ?_
    have hlt : ((dL D).take n).length = n := by rw [List.length_take]; omega
    have hS1 : SC (zwi M 62 3 (nI n)) := SC_wi hS (by omega)
    have hL1 : RL (zwi M 62 3 (nI n)) 62 ((dL D).take n) := by
      refine ⟨by rw [wi_s, hlt], fun q hq => ?_⟩
      rw [hlt] at hq
      have h3 := hJ.2 q (by omega)
      rw [List.getD_eq_getElem?_getD, List.getElem?_take_of_lt hq, ← List.getD_eq_getElem?_getD, wi_n (Or.inl (by omega)), wi_n (Or.inl (by omega)), wi_n (Or.inl (by omega))]
      exact h3
    have f1 : Fr (FW 62) M (zwi M 62 3 (nI n)) := (Fr.refl _ _).wi ⟨by omega, by omega⟩
    refine q_v2 d99_45 rfl rfl hwr.1 (Nat.le_of_ble_eq_true rfl) (c94 (g := some ((dL D).take n)) (L := (dL D).take n) (n := n) hS1 (RTx_fr hT hc6 f1 (fun b q h1 h2 e => by have := e.1; omega)) ⟨rfl, hL1⟩ (Or.inl ⟨rfl, rfl, rfl, rfl⟩) hO.1 hL1 (by omega) (by omega) (yva_take hD.2.2.1) (fun M2 hN f2 => ?_))
    refine q_iload_n d99_48 rfl ?_
    refine q_iret d99_49 rfl ?_
    have g2 : Fr (FW 62) M M2 := f1.trans (f2.mono (fun b q e => ⟨by have := e.1; omega, by have := e.2; omega⟩))
    rw [List.take_take, Nat.min_self] at hN
    exact k _ (hR.wr hN g2) (FW.cr g2)
  · rw [oz_n en] at k
    refine q_iload_n d99_0 rfl ?_
    refine q_iconstN (z := 0) d99_1 ?_
    refine q_aload_n d99_2 rfl ?_
    refine q_getr (c := 7) (f := 3) d99_3 ⟨rfl, rfl⟩ (hS.1.1) (hS.1.2.2.2.2.2.1) ?_
    refine q_getv (c := 0) (f := 3) d99_6 ⟨rfl, by decide⟩ hS.2.2.2.1.1 hJ.1 ?_
    refine q_s3 d99_9 (Or.inl rfl) rfl (Nat.le_of_ble_eq_true rfl) (c10g en (by omega) ?_)
    refine n0_ne 18 d99_12 (by decide) (by decide) (fun q => absurd q (by decide)) (fun _ => ?_)
    refine q_bipush (x := (-2)) d99_15 rfl ?_
    refine q_iret d99_17 rfl ?_
    exact k _ hR (Fc.refl _)
/-! ===== the calls of the class: views, replays ===== -/
theorem ov_n {x : Int32} {f : Nat → Int32} (h : yvx x = none) : ov x f = -2 := by unfold ov; rw [h]
theorem ov_s {x : Int32} {f : Nat → Int32} {m : Nat} (h : yvx x = some m) : ov x f = f m := by unfold ov; rw [h]
theorem yvx_s {x : Int32} {m : Nat} (h : yvx x = some m) : x = nI m ∧ ywv m = true ∧ m < 50 := by
  unfold yvx at h
  rcases zix_c x (n := 50) (by omega) with ⟨j, hj, rfl, e⟩ | ⟨e, hn⟩
  · rw [e] at h
    have h : (if ywv j = true then some j else none) = some m := h
    by_cases hw : ywv j = true
    · rw [if_pos hw] at h
      have := Option.some.inj h
      subst this
      exact ⟨rfl, hw, hj⟩
    · rw [if_neg hw] at h
      exact absurd h.symm (Option.some_ne_none _)
  · rw [e] at h
    exact absurd (Eq.symm h) (Option.some_ne_none _)
theorem c93t {d m : Nat} {M : zM} {Q : Option Value → zM → Prop} {x : Int32} (h : yvx x = some m) (k : Q (some (.int (nI 1))) M) : qC (d + 2) 93 [.int x] M Q := c93 (by rw [h]; exact k)
theorem c93f {d : Nat} {M : zM} {Q : Option Value → zM → Prop} {x : Int32} (h : yvx x = none) (k : Q (some (.int (nI 0))) M) : qC (d + 2) 93 [.int x] M Q := c93 (by rw [h]; exact k)
theorem yvx_n {m : Nat} (h : ywv m = true) (h5 : m < 50) : yvx (nI m) = some m := by
  unfold yvx
  rw [zix_in h5 (by omega)]
  show (if ywv m = true then some m else none) = some m
  rw [if_pos h]
theorem RC.th {M M' : zM} {D : yD} (hR : RC M D) (hS : SC M') (f : Fr (FW 94) M M') : RC M' D ∧ Fc M M' :=
  ⟨hR.fr hS f ⟨fun k q => by have := q.1; omega, fun q => by have := q.1; omega, fun a k h1 h2 q => by have := q.1; omega, fun a k h1 h2 q => by have := q.2; omega⟩, f.c (fun a k ha q => by have := q.1; have := q.2; omega)⟩
theorem d98_0 : decode (zB 98) 0 = .ok (.iload_n 1, 1) := (congrArg (fun c => decode c 0) zeq98).trans (by decide +kernel)
theorem d98_1 : decode (zB 98) 1 = .ok (.invokestatic 47, 3) := (congrArg (fun c => decode c 1) zeq98).trans (by decide +kernel)
theorem d98_4 : decode (zB 98) 4 = .ok (.ifCond .ne 6, 3) := (congrArg (fun c => decode c 4) zeq98).trans (by decide +kernel)
theorem d98_7 : decode (zB 98) 7 = .ok (.bipush (-2), 2) := (congrArg (fun c => decode c 7) zeq98).trans (by decide +kernel)
theorem d98_9 : decode (zB 98) 9 = .ok (.ireturn, 1) := (congrArg (fun c => decode c 9) zeq98).trans (by decide +kernel)
theorem d98_10 : decode (zB 98) 10 = .ok (.iload_n 1, 1) := (congrArg (fun c => decode c 10) zeq98).trans (by decide +kernel)
theorem d98_11 : decode (zB 98) 11 = .ok (.invokestatic 51, 3) := (congrArg (fun c => decode c 11) zeq98).trans (by decide +kernel)
theorem d98_14 : decode (zB 98) 14 = .ok (.ifCond .eq 13, 3) := (congrArg (fun c => decode c 14) zeq98).trans (by decide +kernel)
theorem d98_17 : decode (zB 98) 17 = .ok (.aload_n 0, 1) := (congrArg (fun c => decode c 17) zeq98).trans (by decide +kernel)
theorem d98_18 : decode (zB 98) 18 = .ok (.getfield 12, 3) := (congrArg (fun c => decode c 18) zeq98).trans (by decide +kernel)
theorem d98_21 : decode (zB 98) 21 = .ok (.getfield 54, 3) := (congrArg (fun c => decode c 21) zeq98).trans (by decide +kernel)
theorem d98_24 : decode (zB 98) 24 = .ok (.iload_n 1, 1) := (congrArg (fun c => decode c 24) zeq98).trans (by decide +kernel)
theorem d98_25 : decode (zB 98) 25 = .ok (.iaload, 1) := (congrArg (fun c => decode c 25) zeq98).trans (by decide +kernel)
theorem d98_26 : decode (zB 98) 26 = .ok (.ireturn, 1) := (congrArg (fun c => decode c 26) zeq98).trans (by decide +kernel)
theorem d98_27 : decode (zB 98) 27 = .ok (.iload_n 1, 1) := (congrArg (fun c => decode c 27) zeq98).trans (by decide +kernel)
theorem d98_28 : decode (zB 98) 28 = .ok (.bipush 10, 2) := (congrArg (fun c => decode c 28) zeq98).trans (by decide +kernel)
theorem d98_30 : decode (zB 98) 30 = .ok (.if_icmp .ge 27, 3) := (congrArg (fun c => decode c 30) zeq98).trans (by decide +kernel)
theorem d98_33 : decode (zB 98) 33 = .ok (.iload_n 1, 1) := (congrArg (fun c => decode c 33) zeq98).trans (by decide +kernel)
theorem d98_34 : decode (zB 98) 34 = .ok (.bipush 6, 2) := (congrArg (fun c => decode c 34) zeq98).trans (by decide +kernel)
theorem d98_36 : decode (zB 98) 36 = .ok (.if_icmp .ne 13, 3) := (congrArg (fun c => decode c 36) zeq98).trans (by decide +kernel)
theorem d98_39 : decode (zB 98) 39 = .ok (.aload_n 0, 1) := (congrArg (fun c => decode c 39) zeq98).trans (by decide +kernel)
theorem d98_40 : decode (zB 98) 40 = .ok (.getfield 12, 3) := (congrArg (fun c => decode c 40) zeq98).trans (by decide +kernel)
theorem d98_43 : decode (zB 98) 43 = .ok (.getfield 58, 3) := (congrArg (fun c => decode c 43) zeq98).trans (by decide +kernel)
theorem d98_46 : decode (zB 98) 46 = .ok (.goto 10, 3) := (congrArg (fun c => decode c 46) zeq98).trans (by decide +kernel)
theorem d98_49 : decode (zB 98) 49 = .ok (.aload_n 0, 1) := (congrArg (fun c => decode c 49) zeq98).trans (by decide +kernel)
theorem d98_50 : decode (zB 98) 50 = .ok (.getfield 12, 3) := (congrArg (fun c => decode c 50) zeq98).trans (by decide +kernel)
theorem d98_53 : decode (zB 98) 53 = .ok (.getfield 62, 3) := (congrArg (fun c => decode c 53) zeq98).trans (by decide +kernel)
theorem d98_56 : decode (zB 98) 56 = .ok (.ireturn, 1) := (congrArg (fun c => decode c 56) zeq98).trans (by decide +kernel)
theorem d98_57 : decode (zB 98) 57 = .ok (.aload_n 0, 1) := (congrArg (fun c => decode c 57) zeq98).trans (by decide +kernel)
theorem d98_58 : decode (zB 98) 58 = .ok (.getfield 20, 3) := (congrArg (fun c => decode c 58) zeq98).trans (by decide +kernel)
theorem d98_61 : decode (zB 98) 61 = .ok (.iload_n 1, 1) := (congrArg (fun c => decode c 61) zeq98).trans (by decide +kernel)
theorem d98_62 : decode (zB 98) 62 = .ok (.bipush 10, 2) := (congrArg (fun c => decode c 62) zeq98).trans (by decide +kernel)
theorem d98_64 : decode (zB 98) 64 = .ok (.irem, 1) := (congrArg (fun c => decode c 64) zeq98).trans (by decide +kernel)
theorem d98_65 : decode (zB 98) 65 = .ok (.aaload, 1) := (congrArg (fun c => decode c 65) zeq98).trans (by decide +kernel)
theorem d98_66 : decode (zB 98) 66 = .ok (.astore_n 2, 1) := (congrArg (fun c => decode c 66) zeq98).trans (by decide +kernel)
theorem d98_67 : decode (zB 98) 67 = .ok (.iload_n 1, 1) := (congrArg (fun c => decode c 67) zeq98).trans (by decide +kernel)
theorem d98_68 : decode (zB 98) 68 = .ok (.bipush 10, 2) := (congrArg (fun c => decode c 68) zeq98).trans (by decide +kernel)
theorem d98_70 : decode (zB 98) 70 = .ok (.idiv, 1) := (congrArg (fun c => decode c 70) zeq98).trans (by decide +kernel)
theorem d98_71 : decode (zB 98) 71 = .ok (.tableswitch 40 1 3 #[25, 30, 35], 25) := (congrArg (fun c => decode c 71) zeq98).trans (by decide +kernel)
theorem d98_96 : decode (zB 98) 96 = .ok (.aload_n 2, 1) := (congrArg (fun c => decode c 96) zeq98).trans (by decide +kernel)
theorem d98_97 : decode (zB 98) 97 = .ok (.getfield 65, 3) := (congrArg (fun c => decode c 97) zeq98).trans (by decide +kernel)
theorem d98_100 : decode (zB 98) 100 = .ok (.ireturn, 1) := (congrArg (fun c => decode c 100) zeq98).trans (by decide +kernel)
theorem d98_101 : decode (zB 98) 101 = .ok (.aload_n 2, 1) := (congrArg (fun c => decode c 101) zeq98).trans (by decide +kernel)
theorem d98_102 : decode (zB 98) 102 = .ok (.getfield 68, 3) := (congrArg (fun c => decode c 102) zeq98).trans (by decide +kernel)
theorem d98_105 : decode (zB 98) 105 = .ok (.ireturn, 1) := (congrArg (fun c => decode c 105) zeq98).trans (by decide +kernel)
theorem d98_106 : decode (zB 98) 106 = .ok (.aload_n 2, 1) := (congrArg (fun c => decode c 106) zeq98).trans (by decide +kernel)
theorem d98_107 : decode (zB 98) 107 = .ok (.getfield 71, 3) := (congrArg (fun c => decode c 107) zeq98).trans (by decide +kernel)
theorem d98_110 : decode (zB 98) 110 = .ok (.ireturn, 1) := (congrArg (fun c => decode c 110) zeq98).trans (by decide +kernel)
theorem d98_111 : decode (zB 98) 111 = .ok (.aload_n 2, 1) := (congrArg (fun c => decode c 111) zeq98).trans (by decide +kernel)
theorem d98_112 : decode (zB 98) 112 = .ok (.getfield 74, 3) := (congrArg (fun c => decode c 112) zeq98).trans (by decide +kernel)
theorem d98_115 : decode (zB 98) 115 = .ok (.ireturn, 1) := (congrArg (fun c => decode c 115) zeq98).trans (by decide +kernel)
theorem c98 {d lo w u j c m : Nat} {M : zM} {Q : Option Value → zM → Prop} {T : Nat → yT} {nm : Nat → Nat → Int32} {X : yX} (hC : CW M lo w u j T c nm X) (hm : ywv m = true) (h50 : m < 50) (k : Q (some (.int (yvw X.1 m))) M) : qC (d + 3) 98 [.ref w, .int (nI m)] M Q := by
  refine qC_of (by decide) (Nat.le_of_ble_eq_true rfl) ?_
  have hv := yvx_n hm h50
  obtain ⟨hS, hw, hT, hO, hR⟩ := hC
  have hwo := hS.wo hw
  have hpu := hS.pu hw
  simp only [ywv, Bool.or_eq_true, Bool.and_eq_true, decide_eq_true_eq] at hm
  by_cases h6 : m < 6
  · rw [show yvw X.1 m = X.1.1.1 m from if_pos h6] at k
    refine q_iload_n d98_0 rfl ?_
    refine q_s1 d98_1 (Or.inr rfl) rfl (Nat.le_of_ble_eq_true rfl) (c93t hv ?_)
    refine n0_ne 10 d98_4 (by decide) (by decide) (fun _ => ?_) (fun q => absurd q (by decide))
    refine q_iload_n d98_10 rfl ?_
    refine q_s1 d98_11 (Or.inr rfl) rfl (Nat.le_of_ble_eq_true rfl) (c26t h6 ?_)
    refine n0_eq 27 d98_14 (by decide) (by decide) (fun q => absurd q (by decide)) (fun _ => ?_)
    refine q_aload_n d98_17 rfl ?_
    refine q_getr (c := 6) (f := 2) d98_18 ⟨rfl, rfl⟩ hwo.1 hwo.2.2.2.1 ?_
    refine q_getr (c := 2) (f := 0) d98_21 ⟨rfl, rfl⟩ hpu.1 hpu.2.1 ?_
    refine q_iload_n d98_24 rfl ?_
    refine n_iald d98_25 hpu.2.2 (by omega) (by decide) (hR.1.1 _ (by omega)) ?_
    refine q_iret d98_26 rfl ?_
    exact k
  · rcases (show m = 6 ∨ m = 7 ∨ m = 10 ∨ m = 11 ∨ m = 12 ∨ m = 20 ∨ m = 21 ∨ m = 22 ∨ m = 30 ∨ m = 31 ∨ m = 32 ∨ m = 40 ∨ m = 41 ∨ m = 42 by omega) with rfl | rfl | rfl | rfl | rfl | rfl | rfl | rfl | rfl | rfl | rfl | rfl | rfl | rfl
    · refine q_iload_n d98_0 rfl ?_
      refine q_s1 d98_1 (Or.inr rfl) rfl (Nat.le_of_ble_eq_true rfl) (c93t hv ?_)
      refine n0_ne 10 d98_4 (by decide) (by decide) (fun _ => ?_) (fun q => absurd q (by decide))
      refine q_iload_n d98_10 rfl ?_
      refine q_s1 d98_11 (Or.inr rfl) rfl (Nat.le_of_ble_eq_true rfl) (c26f (by decide) ?_)
      refine n0_eq 27 d98_14 (by decide) (by decide) (fun _ => ?_) (fun q => absurd q (by decide))
      refine q_iload_n d98_27 rfl ?_
      refine q_bipush (x := nI 10) d98_28 rfl ?_
      refine nc_ge 57 d98_30 (by decide) (by decide) (by decide) (fun q => absurd q (by decide)) (fun _ => ?_)
      refine q_iload_n d98_33 rfl ?_
      refine q_bipush (x := nI 6) d98_34 rfl ?_
      refine nc_ne 49 d98_36 (by decide) (by decide) (by decide) (fun q => absurd q (by decide)) (fun _ => ?_)
      refine q_aload_n d98_39 rfl ?_
      refine q_getr (c := 6) (f := 2) d98_40 ⟨rfl, rfl⟩ hwo.1 hwo.2.2.2.1 ?_
      refine q_getv (c := 2) (f := 1) d98_43 ⟨rfl, by decide⟩ hpu.1 hR.1.2.1 ?_
      refine q_goto 56 d98_46 (by decide) ?_
      refine q_iret d98_56 rfl ?_
      exact k
    · refine q_iload_n d98_0 rfl ?_
      refine q_s1 d98_1 (Or.inr rfl) rfl (Nat.le_of_ble_eq_true rfl) (c93t hv ?_)
      refine n0_ne 10 d98_4 (by decide) (by decide) (fun _ => ?_) (fun q => absurd q (by decide))
      refine q_iload_n d98_10 rfl ?_
      refine q_s1 d98_11 (Or.inr rfl) rfl (Nat.le_of_ble_eq_true rfl) (c26f (by decide) ?_)
      refine n0_eq 27 d98_14 (by decide) (by decide) (fun _ => ?_) (fun q => absurd q (by decide))
      refine q_iload_n d98_27 rfl ?_
      refine q_bipush (x := nI 10) d98_28 rfl ?_
      refine nc_ge 57 d98_30 (by decide) (by decide) (by decide) (fun q => absurd q (by decide)) (fun _ => ?_)
      refine q_iload_n d98_33 rfl ?_
      refine q_bipush (x := nI 6) d98_34 rfl ?_
      refine nc_ne 49 d98_36 (by decide) (by decide) (by decide) (fun _ => ?_) (fun q => absurd q (by decide))
      refine q_aload_n d98_49 rfl ?_
      refine q_getr (c := 6) (f := 2) d98_50 ⟨rfl, rfl⟩ hwo.1 hwo.2.2.2.1 ?_
      refine q_getv (c := 2) (f := 2) d98_53 ⟨rfl, by decide⟩ hpu.1 hR.1.2.2 ?_
      refine q_iret d98_56 rfl ?_
      exact k
    · have hs := hS.sg (hw.sg (show 0 < 3 by omega))
      have hRs := hR.2.1 0 (by omega)
      refine q_iload_n d98_0 rfl ?_
      refine q_s1 d98_1 (Or.inr rfl) rfl (Nat.le_of_ble_eq_true rfl) (c93t hv ?_)
      refine n0_ne 10 d98_4 (by decide) (by decide) (fun _ => ?_) (fun q => absurd q (by decide))
      refine q_iload_n d98_10 rfl ?_
      refine q_s1 d98_11 (Or.inr rfl) rfl (Nat.le_of_ble_eq_true rfl) (c26f (by decide) ?_)
      refine n0_eq 27 d98_14 (by decide) (by decide) (fun _ => ?_) (fun q => absurd q (by decide))
      refine q_iload_n d98_27 rfl ?_
      refine q_bipush (x := nI 10) d98_28 rfl ?_
      refine nc_ge 57 d98_30 (by decide) (by decide) (by decide) (fun _ => ?_) (fun q => absurd q (by decide))
      refine q_aload_n d98_57 rfl ?_
      refine q_getr (c := 6) (f := 3) d98_58 ⟨rfl, rfl⟩ hwo.1 hwo.2.2.2.2.1 ?_
      refine q_iload_n d98_61 rfl ?_
      refine q_bipush (x := nI 10) d98_62 rfl ?_
      refine n_irem d98_64 (by omega) (by omega) (by omega) ?_
      refine n_aald d98_65 hwo.2.2.2.2.2.1 (by decide) (by omega) (by decide) (hwo.2.2.2.2.2.2 0 (by omega)) ?_
      refine q_astore_n d98_66 (by decide) rfl ?_
      refine q_iload_n d98_67 rfl ?_
      refine q_bipush (x := nI 10) d98_68 rfl ?_
      refine n_idiv d98_70 (by omega) (by omega) (by omega) ?_
      refine n_tsI (25) 96 d98_71 (by decide) (by decide) rfl (by decide) ?_
      refine q_aload_n d98_96 rfl ?_
      refine q_getv (c := 5) (f := 0) d98_97 ⟨rfl, by decide⟩ hs.1 hRs.1.1 ?_
      refine q_iret d98_100 rfl ?_
      exact k
    · have hs := hS.sg (hw.sg (show 1 < 3 by omega))
      have hRs := hR.2.1 1 (by omega)
      refine q_iload_n d98_0 rfl ?_
      refine q_s1 d98_1 (Or.inr rfl) rfl (Nat.le_of_ble_eq_true rfl) (c93t hv ?_)
      refine n0_ne 10 d98_4 (by decide) (by decide) (fun _ => ?_) (fun q => absurd q (by decide))
      refine q_iload_n d98_10 rfl ?_
      refine q_s1 d98_11 (Or.inr rfl) rfl (Nat.le_of_ble_eq_true rfl) (c26f (by decide) ?_)
      refine n0_eq 27 d98_14 (by decide) (by decide) (fun _ => ?_) (fun q => absurd q (by decide))
      refine q_iload_n d98_27 rfl ?_
      refine q_bipush (x := nI 10) d98_28 rfl ?_
      refine nc_ge 57 d98_30 (by decide) (by decide) (by decide) (fun _ => ?_) (fun q => absurd q (by decide))
      refine q_aload_n d98_57 rfl ?_
      refine q_getr (c := 6) (f := 3) d98_58 ⟨rfl, rfl⟩ hwo.1 hwo.2.2.2.2.1 ?_
      refine q_iload_n d98_61 rfl ?_
      refine q_bipush (x := nI 10) d98_62 rfl ?_
      refine n_irem d98_64 (by omega) (by omega) (by omega) ?_
      refine n_aald d98_65 hwo.2.2.2.2.2.1 (by decide) (by omega) (by decide) (hwo.2.2.2.2.2.2 1 (by omega)) ?_
      refine q_astore_n d98_66 (by decide) rfl ?_
      refine q_iload_n d98_67 rfl ?_
      refine q_bipush (x := nI 10) d98_68 rfl ?_
      refine n_idiv d98_70 (by omega) (by omega) (by omega) ?_
      refine n_tsI (25) 96 d98_71 (by decide) (by decide) rfl (by decide) ?_
      refine q_aload_n d98_96 rfl ?_
      refine q_getv (c := 5) (f := 0) d98_97 ⟨rfl, by decide⟩ hs.1 hRs.1.1 ?_
      refine q_iret d98_100 rfl ?_
      exact k
    · have hs := hS.sg (hw.sg (show 2 < 3 by omega))
      have hRs := hR.2.1 2 (by omega)
      refine q_iload_n d98_0 rfl ?_
      refine q_s1 d98_1 (Or.inr rfl) rfl (Nat.le_of_ble_eq_true rfl) (c93t hv ?_)
      refine n0_ne 10 d98_4 (by decide) (by decide) (fun _ => ?_) (fun q => absurd q (by decide))
      refine q_iload_n d98_10 rfl ?_
      refine q_s1 d98_11 (Or.inr rfl) rfl (Nat.le_of_ble_eq_true rfl) (c26f (by decide) ?_)
      refine n0_eq 27 d98_14 (by decide) (by decide) (fun _ => ?_) (fun q => absurd q (by decide))
      refine q_iload_n d98_27 rfl ?_
      refine q_bipush (x := nI 10) d98_28 rfl ?_
      refine nc_ge 57 d98_30 (by decide) (by decide) (by decide) (fun _ => ?_) (fun q => absurd q (by decide))
      refine q_aload_n d98_57 rfl ?_
      refine q_getr (c := 6) (f := 3) d98_58 ⟨rfl, rfl⟩ hwo.1 hwo.2.2.2.2.1 ?_
      refine q_iload_n d98_61 rfl ?_
      refine q_bipush (x := nI 10) d98_62 rfl ?_
      refine n_irem d98_64 (by omega) (by omega) (by omega) ?_
      refine n_aald d98_65 hwo.2.2.2.2.2.1 (by decide) (by omega) (by decide) (hwo.2.2.2.2.2.2 2 (by omega)) ?_
      refine q_astore_n d98_66 (by decide) rfl ?_
      refine q_iload_n d98_67 rfl ?_
      refine q_bipush (x := nI 10) d98_68 rfl ?_
      refine n_idiv d98_70 (by omega) (by omega) (by omega) ?_
      refine n_tsI (25) 96 d98_71 (by decide) (by decide) rfl (by decide) ?_
      refine q_aload_n d98_96 rfl ?_
      refine q_getv (c := 5) (f := 0) d98_97 ⟨rfl, by decide⟩ hs.1 hRs.1.1 ?_
      refine q_iret d98_100 rfl ?_
      exact k
    · have hs := hS.sg (hw.sg (show 0 < 3 by omega))
      have hRs := hR.2.1 0 (by omega)
      refine q_iload_n d98_0 rfl ?_
      refine q_s1 d98_1 (Or.inr rfl) rfl (Nat.le_of_ble_eq_true rfl) (c93t hv ?_)
      refine n0_ne 10 d98_4 (by decide) (by decide) (fun _ => ?_) (fun q => absurd q (by decide))
      refine q_iload_n d98_10 rfl ?_
      refine q_s1 d98_11 (Or.inr rfl) rfl (Nat.le_of_ble_eq_true rfl) (c26f (by decide) ?_)
      refine n0_eq 27 d98_14 (by decide) (by decide) (fun _ => ?_) (fun q => absurd q (by decide))
      refine q_iload_n d98_27 rfl ?_
      refine q_bipush (x := nI 10) d98_28 rfl ?_
      refine nc_ge 57 d98_30 (by decide) (by decide) (by decide) (fun _ => ?_) (fun q => absurd q (by decide))
      refine q_aload_n d98_57 rfl ?_
      refine q_getr (c := 6) (f := 3) d98_58 ⟨rfl, rfl⟩ hwo.1 hwo.2.2.2.2.1 ?_
      refine q_iload_n d98_61 rfl ?_
      refine q_bipush (x := nI 10) d98_62 rfl ?_
      refine n_irem d98_64 (by omega) (by omega) (by omega) ?_
      refine n_aald d98_65 hwo.2.2.2.2.2.1 (by decide) (by omega) (by decide) (hwo.2.2.2.2.2.2 0 (by omega)) ?_
      refine q_astore_n d98_66 (by decide) rfl ?_
      refine q_iload_n d98_67 rfl ?_
      refine q_bipush (x := nI 10) d98_68 rfl ?_
      refine n_idiv d98_70 (by omega) (by omega) (by omega) ?_
      refine n_tsI (30) 101 d98_71 (by decide) (by decide) rfl (by decide) ?_
      refine q_aload_n d98_101 rfl ?_
      refine q_getv (c := 5) (f := 3) d98_102 ⟨rfl, by decide⟩ hs.1 hRs.2.1.1 ?_
      refine q_iret d98_105 rfl ?_
      exact k
    · have hs := hS.sg (hw.sg (show 1 < 3 by omega))
      have hRs := hR.2.1 1 (by omega)
      refine q_iload_n d98_0 rfl ?_
      refine q_s1 d98_1 (Or.inr rfl) rfl (Nat.le_of_ble_eq_true rfl) (c93t hv ?_)
      refine n0_ne 10 d98_4 (by decide) (by decide) (fun _ => ?_) (fun q => absurd q (by decide))
      refine q_iload_n d98_10 rfl ?_
      refine q_s1 d98_11 (Or.inr rfl) rfl (Nat.le_of_ble_eq_true rfl) (c26f (by decide) ?_)
      refine n0_eq 27 d98_14 (by decide) (by decide) (fun _ => ?_) (fun q => absurd q (by decide))
      refine q_iload_n d98_27 rfl ?_
      refine q_bipush (x := nI 10) d98_28 rfl ?_
      refine nc_ge 57 d98_30 (by decide) (by decide) (by decide) (fun _ => ?_) (fun q => absurd q (by decide))
      refine q_aload_n d98_57 rfl ?_
      refine q_getr (c := 6) (f := 3) d98_58 ⟨rfl, rfl⟩ hwo.1 hwo.2.2.2.2.1 ?_
      refine q_iload_n d98_61 rfl ?_
      refine q_bipush (x := nI 10) d98_62 rfl ?_
      refine n_irem d98_64 (by omega) (by omega) (by omega) ?_
      refine n_aald d98_65 hwo.2.2.2.2.2.1 (by decide) (by omega) (by decide) (hwo.2.2.2.2.2.2 1 (by omega)) ?_
      refine q_astore_n d98_66 (by decide) rfl ?_
      refine q_iload_n d98_67 rfl ?_
      refine q_bipush (x := nI 10) d98_68 rfl ?_
      refine n_idiv d98_70 (by omega) (by omega) (by omega) ?_
      refine n_tsI (30) 101 d98_71 (by decide) (by decide) rfl (by decide) ?_
      refine q_aload_n d98_101 rfl ?_
      refine q_getv (c := 5) (f := 3) d98_102 ⟨rfl, by decide⟩ hs.1 hRs.2.1.1 ?_
      refine q_iret d98_105 rfl ?_
      exact k
    · have hs := hS.sg (hw.sg (show 2 < 3 by omega))
      have hRs := hR.2.1 2 (by omega)
      refine q_iload_n d98_0 rfl ?_
      refine q_s1 d98_1 (Or.inr rfl) rfl (Nat.le_of_ble_eq_true rfl) (c93t hv ?_)
      refine n0_ne 10 d98_4 (by decide) (by decide) (fun _ => ?_) (fun q => absurd q (by decide))
      refine q_iload_n d98_10 rfl ?_
      refine q_s1 d98_11 (Or.inr rfl) rfl (Nat.le_of_ble_eq_true rfl) (c26f (by decide) ?_)
      refine n0_eq 27 d98_14 (by decide) (by decide) (fun _ => ?_) (fun q => absurd q (by decide))
      refine q_iload_n d98_27 rfl ?_
      refine q_bipush (x := nI 10) d98_28 rfl ?_
      refine nc_ge 57 d98_30 (by decide) (by decide) (by decide) (fun _ => ?_) (fun q => absurd q (by decide))
      refine q_aload_n d98_57 rfl ?_
      refine q_getr (c := 6) (f := 3) d98_58 ⟨rfl, rfl⟩ hwo.1 hwo.2.2.2.2.1 ?_
      refine q_iload_n d98_61 rfl ?_
      refine q_bipush (x := nI 10) d98_62 rfl ?_
      refine n_irem d98_64 (by omega) (by omega) (by omega) ?_
      refine n_aald d98_65 hwo.2.2.2.2.2.1 (by decide) (by omega) (by decide) (hwo.2.2.2.2.2.2 2 (by omega)) ?_
      refine q_astore_n d98_66 (by decide) rfl ?_
      refine q_iload_n d98_67 rfl ?_
      refine q_bipush (x := nI 10) d98_68 rfl ?_
      refine n_idiv d98_70 (by omega) (by omega) (by omega) ?_
      refine n_tsI (30) 101 d98_71 (by decide) (by decide) rfl (by decide) ?_
      refine q_aload_n d98_101 rfl ?_
      refine q_getv (c := 5) (f := 3) d98_102 ⟨rfl, by decide⟩ hs.1 hRs.2.1.1 ?_
      refine q_iret d98_105 rfl ?_
      exact k
    · have hs := hS.sg (hw.sg (show 0 < 3 by omega))
      have hRs := hR.2.1 0 (by omega)
      refine q_iload_n d98_0 rfl ?_
      refine q_s1 d98_1 (Or.inr rfl) rfl (Nat.le_of_ble_eq_true rfl) (c93t hv ?_)
      refine n0_ne 10 d98_4 (by decide) (by decide) (fun _ => ?_) (fun q => absurd q (by decide))
      refine q_iload_n d98_10 rfl ?_
      refine q_s1 d98_11 (Or.inr rfl) rfl (Nat.le_of_ble_eq_true rfl) (c26f (by decide) ?_)
      refine n0_eq 27 d98_14 (by decide) (by decide) (fun _ => ?_) (fun q => absurd q (by decide))
      refine q_iload_n d98_27 rfl ?_
      refine q_bipush (x := nI 10) d98_28 rfl ?_
      refine nc_ge 57 d98_30 (by decide) (by decide) (by decide) (fun _ => ?_) (fun q => absurd q (by decide))
      refine q_aload_n d98_57 rfl ?_
      refine q_getr (c := 6) (f := 3) d98_58 ⟨rfl, rfl⟩ hwo.1 hwo.2.2.2.2.1 ?_
      refine q_iload_n d98_61 rfl ?_
      refine q_bipush (x := nI 10) d98_62 rfl ?_
      refine n_irem d98_64 (by omega) (by omega) (by omega) ?_
      refine n_aald d98_65 hwo.2.2.2.2.2.1 (by decide) (by omega) (by decide) (hwo.2.2.2.2.2.2 0 (by omega)) ?_
      refine q_astore_n d98_66 (by decide) rfl ?_
      refine q_iload_n d98_67 rfl ?_
      refine q_bipush (x := nI 10) d98_68 rfl ?_
      refine n_idiv d98_70 (by omega) (by omega) (by omega) ?_
      refine n_tsI (35) 106 d98_71 (by decide) (by decide) rfl (by decide) ?_
      refine q_aload_n d98_106 rfl ?_
      refine q_getv (c := 5) (f := 4) d98_107 ⟨rfl, by decide⟩ hs.1 hRs.2.1.2.1 ?_
      refine q_iret d98_110 rfl ?_
      exact k
    · have hs := hS.sg (hw.sg (show 1 < 3 by omega))
      have hRs := hR.2.1 1 (by omega)
      refine q_iload_n d98_0 rfl ?_
      refine q_s1 d98_1 (Or.inr rfl) rfl (Nat.le_of_ble_eq_true rfl) (c93t hv ?_)
      refine n0_ne 10 d98_4 (by decide) (by decide) (fun _ => ?_) (fun q => absurd q (by decide))
      refine q_iload_n d98_10 rfl ?_
      refine q_s1 d98_11 (Or.inr rfl) rfl (Nat.le_of_ble_eq_true rfl) (c26f (by decide) ?_)
      refine n0_eq 27 d98_14 (by decide) (by decide) (fun _ => ?_) (fun q => absurd q (by decide))
      refine q_iload_n d98_27 rfl ?_
      refine q_bipush (x := nI 10) d98_28 rfl ?_
      refine nc_ge 57 d98_30 (by decide) (by decide) (by decide) (fun _ => ?_) (fun q => absurd q (by decide))
      refine q_aload_n d98_57 rfl ?_
      refine q_getr (c := 6) (f := 3) d98_58 ⟨rfl, rfl⟩ hwo.1 hwo.2.2.2.2.1 ?_
      refine q_iload_n d98_61 rfl ?_
      refine q_bipush (x := nI 10) d98_62 rfl ?_
      refine n_irem d98_64 (by omega) (by omega) (by omega) ?_
      refine n_aald d98_65 hwo.2.2.2.2.2.1 (by decide) (by omega) (by decide) (hwo.2.2.2.2.2.2 1 (by omega)) ?_
      refine q_astore_n d98_66 (by decide) rfl ?_
      refine q_iload_n d98_67 rfl ?_
      refine q_bipush (x := nI 10) d98_68 rfl ?_
      refine n_idiv d98_70 (by omega) (by omega) (by omega) ?_
      refine n_tsI (35) 106 d98_71 (by decide) (by decide) rfl (by decide) ?_
      refine q_aload_n d98_106 rfl ?_
      refine q_getv (c := 5) (f := 4) d98_107 ⟨rfl, by decide⟩ hs.1 hRs.2.1.2.1 ?_
      refine q_iret d98_110 rfl ?_
      exact k
    · have hs := hS.sg (hw.sg (show 2 < 3 by omega))
      have hRs := hR.2.1 2 (by omega)
      refine q_iload_n d98_0 rfl ?_
      refine q_s1 d98_1 (Or.inr rfl) rfl (Nat.le_of_ble_eq_true rfl) (c93t hv ?_)
      refine n0_ne 10 d98_4 (by decide) (by decide) (fun _ => ?_) (fun q => absurd q (by decide))
      refine q_iload_n d98_10 rfl ?_
      refine q_s1 d98_11 (Or.inr rfl) rfl (Nat.le_of_ble_eq_true rfl) (c26f (by decide) ?_)
      refine n0_eq 27 d98_14 (by decide) (by decide) (fun _ => ?_) (fun q => absurd q (by decide))
      refine q_iload_n d98_27 rfl ?_
      refine q_bipush (x := nI 10) d98_28 rfl ?_
      refine nc_ge 57 d98_30 (by decide) (by decide) (by decide) (fun _ => ?_) (fun q => absurd q (by decide))
      refine q_aload_n d98_57 rfl ?_
      refine q_getr (c := 6) (f := 3) d98_58 ⟨rfl, rfl⟩ hwo.1 hwo.2.2.2.2.1 ?_
      refine q_iload_n d98_61 rfl ?_
      refine q_bipush (x := nI 10) d98_62 rfl ?_
      refine n_irem d98_64 (by omega) (by omega) (by omega) ?_
      refine n_aald d98_65 hwo.2.2.2.2.2.1 (by decide) (by omega) (by decide) (hwo.2.2.2.2.2.2 2 (by omega)) ?_
      refine q_astore_n d98_66 (by decide) rfl ?_
      refine q_iload_n d98_67 rfl ?_
      refine q_bipush (x := nI 10) d98_68 rfl ?_
      refine n_idiv d98_70 (by omega) (by omega) (by omega) ?_
      refine n_tsI (35) 106 d98_71 (by decide) (by decide) rfl (by decide) ?_
      refine q_aload_n d98_106 rfl ?_
      refine q_getv (c := 5) (f := 4) d98_107 ⟨rfl, by decide⟩ hs.1 hRs.2.1.2.1 ?_
      refine q_iret d98_110 rfl ?_
      exact k
    · have hs := hS.sg (hw.sg (show 0 < 3 by omega))
      have hRs := hR.2.1 0 (by omega)
      refine q_iload_n d98_0 rfl ?_
      refine q_s1 d98_1 (Or.inr rfl) rfl (Nat.le_of_ble_eq_true rfl) (c93t hv ?_)
      refine n0_ne 10 d98_4 (by decide) (by decide) (fun _ => ?_) (fun q => absurd q (by decide))
      refine q_iload_n d98_10 rfl ?_
      refine q_s1 d98_11 (Or.inr rfl) rfl (Nat.le_of_ble_eq_true rfl) (c26f (by decide) ?_)
      refine n0_eq 27 d98_14 (by decide) (by decide) (fun _ => ?_) (fun q => absurd q (by decide))
      refine q_iload_n d98_27 rfl ?_
      refine q_bipush (x := nI 10) d98_28 rfl ?_
      refine nc_ge 57 d98_30 (by decide) (by decide) (by decide) (fun _ => ?_) (fun q => absurd q (by decide))
      refine q_aload_n d98_57 rfl ?_
      refine q_getr (c := 6) (f := 3) d98_58 ⟨rfl, rfl⟩ hwo.1 hwo.2.2.2.2.1 ?_
      refine q_iload_n d98_61 rfl ?_
      refine q_bipush (x := nI 10) d98_62 rfl ?_
      refine n_irem d98_64 (by omega) (by omega) (by omega) ?_
      refine n_aald d98_65 hwo.2.2.2.2.2.1 (by decide) (by omega) (by decide) (hwo.2.2.2.2.2.2 0 (by omega)) ?_
      refine q_astore_n d98_66 (by decide) rfl ?_
      refine q_iload_n d98_67 rfl ?_
      refine q_bipush (x := nI 10) d98_68 rfl ?_
      refine n_idiv d98_70 (by omega) (by omega) (by omega) ?_
      refine n_tsO 111 d98_71 (by omega) (Or.inr (by omega)) (by decide) ?_
      refine q_aload_n d98_111 rfl ?_
      refine q_getv (c := 5) (f := 5) d98_112 ⟨rfl, by decide⟩ hs.1 hRs.2.1.2.2 ?_
      refine q_iret d98_115 rfl ?_
      exact k
    · have hs := hS.sg (hw.sg (show 1 < 3 by omega))
      have hRs := hR.2.1 1 (by omega)
      refine q_iload_n d98_0 rfl ?_
      refine q_s1 d98_1 (Or.inr rfl) rfl (Nat.le_of_ble_eq_true rfl) (c93t hv ?_)
      refine n0_ne 10 d98_4 (by decide) (by decide) (fun _ => ?_) (fun q => absurd q (by decide))
      refine q_iload_n d98_10 rfl ?_
      refine q_s1 d98_11 (Or.inr rfl) rfl (Nat.le_of_ble_eq_true rfl) (c26f (by decide) ?_)
      refine n0_eq 27 d98_14 (by decide) (by decide) (fun _ => ?_) (fun q => absurd q (by decide))
      refine q_iload_n d98_27 rfl ?_
      refine q_bipush (x := nI 10) d98_28 rfl ?_
      refine nc_ge 57 d98_30 (by decide) (by decide) (by decide) (fun _ => ?_) (fun q => absurd q (by decide))
      refine q_aload_n d98_57 rfl ?_
      refine q_getr (c := 6) (f := 3) d98_58 ⟨rfl, rfl⟩ hwo.1 hwo.2.2.2.2.1 ?_
      refine q_iload_n d98_61 rfl ?_
      refine q_bipush (x := nI 10) d98_62 rfl ?_
      refine n_irem d98_64 (by omega) (by omega) (by omega) ?_
      refine n_aald d98_65 hwo.2.2.2.2.2.1 (by decide) (by omega) (by decide) (hwo.2.2.2.2.2.2 1 (by omega)) ?_
      refine q_astore_n d98_66 (by decide) rfl ?_
      refine q_iload_n d98_67 rfl ?_
      refine q_bipush (x := nI 10) d98_68 rfl ?_
      refine n_idiv d98_70 (by omega) (by omega) (by omega) ?_
      refine n_tsO 111 d98_71 (by omega) (Or.inr (by omega)) (by decide) ?_
      refine q_aload_n d98_111 rfl ?_
      refine q_getv (c := 5) (f := 5) d98_112 ⟨rfl, by decide⟩ hs.1 hRs.2.1.2.2 ?_
      refine q_iret d98_115 rfl ?_
      exact k
    · have hs := hS.sg (hw.sg (show 2 < 3 by omega))
      have hRs := hR.2.1 2 (by omega)
      refine q_iload_n d98_0 rfl ?_
      refine q_s1 d98_1 (Or.inr rfl) rfl (Nat.le_of_ble_eq_true rfl) (c93t hv ?_)
      refine n0_ne 10 d98_4 (by decide) (by decide) (fun _ => ?_) (fun q => absurd q (by decide))
      refine q_iload_n d98_10 rfl ?_
      refine q_s1 d98_11 (Or.inr rfl) rfl (Nat.le_of_ble_eq_true rfl) (c26f (by decide) ?_)
      refine n0_eq 27 d98_14 (by decide) (by decide) (fun _ => ?_) (fun q => absurd q (by decide))
      refine q_iload_n d98_27 rfl ?_
      refine q_bipush (x := nI 10) d98_28 rfl ?_
      refine nc_ge 57 d98_30 (by decide) (by decide) (by decide) (fun _ => ?_) (fun q => absurd q (by decide))
      refine q_aload_n d98_57 rfl ?_
      refine q_getr (c := 6) (f := 3) d98_58 ⟨rfl, rfl⟩ hwo.1 hwo.2.2.2.2.1 ?_
      refine q_iload_n d98_61 rfl ?_
      refine q_bipush (x := nI 10) d98_62 rfl ?_
      refine n_irem d98_64 (by omega) (by omega) (by omega) ?_
      refine n_aald d98_65 hwo.2.2.2.2.2.1 (by decide) (by omega) (by decide) (hwo.2.2.2.2.2.2 2 (by omega)) ?_
      refine q_astore_n d98_66 (by decide) rfl ?_
      refine q_iload_n d98_67 rfl ?_
      refine q_bipush (x := nI 10) d98_68 rfl ?_
      refine n_idiv d98_70 (by omega) (by omega) (by omega) ?_
      refine n_tsO 111 d98_71 (by omega) (Or.inr (by omega)) (by decide) ?_
      refine q_aload_n d98_111 rfl ?_
      refine q_getv (c := 5) (f := 5) d98_112 ⟨rfl, by decide⟩ hs.1 hRs.2.1.2.2 ?_
      refine q_iret d98_115 rfl ?_
      exact k
theorem d92_0 : decode (zB 92) 0 = .ok (.iload_n 1, 1) := (congrArg (fun c => decode c 0) zeq92).trans (by decide +kernel)
theorem d92_1 : decode (zB 92) 1 = .ok (.iconst 0, 1) := (congrArg (fun c => decode c 1) zeq92).trans (by decide +kernel)
theorem d92_2 : decode (zB 92) 2 = .ok (.aload_n 0, 1) := (congrArg (fun c => decode c 2) zeq92).trans (by decide +kernel)
theorem d92_3 : decode (zB 92) 3 = .ok (.getfield 28, 3) := (congrArg (fun c => decode c 3) zeq92).trans (by decide +kernel)
theorem d92_6 : decode (zB 92) 6 = .ok (.getfield 154, 3) := (congrArg (fun c => decode c 6) zeq92).trans (by decide +kernel)
theorem d92_9 : decode (zB 92) 9 = .ok (.invokestatic 55, 3) := (congrArg (fun c => decode c 9) zeq92).trans (by decide +kernel)
theorem d92_12 : decode (zB 92) 12 = .ok (.ifCond .eq 10, 3) := (congrArg (fun c => decode c 12) zeq92).trans (by decide +kernel)
theorem d92_15 : decode (zB 92) 15 = .ok (.iload_n 2, 1) := (congrArg (fun c => decode c 15) zeq92).trans (by decide +kernel)
theorem d92_16 : decode (zB 92) 16 = .ok (.invokestatic 217, 3) := (congrArg (fun c => decode c 16) zeq92).trans (by decide +kernel)
theorem d92_19 : decode (zB 92) 19 = .ok (.ifCond .ne 6, 3) := (congrArg (fun c => decode c 19) zeq92).trans (by decide +kernel)
theorem d92_22 : decode (zB 92) 22 = .ok (.bipush (-2), 2) := (congrArg (fun c => decode c 22) zeq92).trans (by decide +kernel)
theorem d92_24 : decode (zB 92) 24 = .ok (.ireturn, 1) := (congrArg (fun c => decode c 24) zeq92).trans (by decide +kernel)
theorem d92_25 : decode (zB 92) 25 = .ok (.aload_n 0, 1) := (congrArg (fun c => decode c 25) zeq92).trans (by decide +kernel)
theorem d92_26 : decode (zB 92) 26 = .ok (.getfield 41, 3) := (congrArg (fun c => decode c 26) zeq92).trans (by decide +kernel)
theorem d92_29 : decode (zB 92) 29 = .ok (.aload_n 0, 1) := (congrArg (fun c => decode c 29) zeq92).trans (by decide +kernel)
theorem d92_30 : decode (zB 92) 30 = .ok (.getfield 28, 3) := (congrArg (fun c => decode c 30) zeq92).trans (by decide +kernel)
theorem d92_33 : decode (zB 92) 33 = .ok (.iload_n 1, 1) := (congrArg (fun c => decode c 33) zeq92).trans (by decide +kernel)
theorem d92_34 : decode (zB 92) 34 = .ok (.invokevirtual 220, 3) := (congrArg (fun c => decode c 34) zeq92).trans (by decide +kernel)
theorem d92_37 : decode (zB 92) 37 = .ok (.aload_n 0, 1) := (congrArg (fun c => decode c 37) zeq92).trans (by decide +kernel)
theorem d92_38 : decode (zB 92) 38 = .ok (.getfield 41, 3) := (congrArg (fun c => decode c 38) zeq92).trans (by decide +kernel)
theorem d92_41 : decode (zB 92) 41 = .ok (.iload_n 2, 1) := (congrArg (fun c => decode c 41) zeq92).trans (by decide +kernel)
theorem d92_42 : decode (zB 92) 42 = .ok (.invokevirtual 224, 3) := (congrArg (fun c => decode c 42) zeq92).trans (by decide +kernel)
theorem d92_45 : decode (zB 92) 45 = .ok (.ireturn, 1) := (congrArg (fun c => decode c 45) zeq92).trans (by decide +kernel)
theorem p92 {d : Nat} {M : zM} {Q : Option Value → zM → Prop} {D : yD} {x y : Int32} (hR : RC M D) (hD : OKD D) (k : ∀ M', RC M' D → Fc M M' → Q (some (.int (sReplay D x y))) M') : qC (d + 8) 92 [.ref 16, .int x, .int y] M Q := by
  refine qC_of (by decide) (Nat.le_of_ble_eq_true rfl) ?_
  have hS := hR.1.1
  have hT := hR.1.2.2.1
  have hO := hR.1.2.2.2.1
  have hRW := hR.1.2.2.2.2
  have hJ : RL M 62 (dL D) := hRW.2.2.2
  have hc6 := hO.1.1
  have h240 := hD.2.1
  have h120 := hR.2.2.1.1
  have hwr := hS.wo (Or.inl ⟨rfl, rfl, rfl, rfl⟩)
  have hwt := hS.wo (Or.inr ⟨rfl, rfl, rfl, rfl⟩)
  have hpr := hS.pu (Or.inl ⟨rfl, rfl, rfl, rfl⟩)
  have hpt := hS.pu (Or.inr ⟨rfl, rfl, rfl, rfl⟩)
  unfold sReplay at k
  rcases zix_c x (n := (dL D).length + 1) (by omega) with ⟨n, hn, rfl, en⟩ | ⟨en, nn⟩
  · rw [oz_s en] at k
    cases hv : yvx y with
    | none =>
      rw [ov_n hv] at k
      refine q_iload_n d92_0 rfl ?_
      refine q_iconstN (z := 0) d92_1 ?_
      refine q_aload_n d92_2 rfl ?_
      refine q_getr (c := 7) (f := 3) d92_3 ⟨rfl, rfl⟩ (hS.1.1) (hS.1.2.2.2.2.2.1) ?_
      refine q_getv (c := 0) (f := 3) d92_6 ⟨rfl, by decide⟩ hS.2.2.2.1.1 hJ.1 ?_
      refine q_s3 d92_9 (Or.inl rfl) rfl (Nat.le_of_ble_eq_true rfl) (c10t ⟨by omega, by omega⟩ (by omega) ?_)
      refine n0_eq 22 d92_12 (by decide) (by decide) (fun q => absurd q (by decide)) (fun _ => ?_)
      refine q_iload_n d92_15 rfl ?_
      refine q_s1 d92_16 (Or.inl rfl) rfl (Nat.le_of_ble_eq_true rfl) (c93f hv ?_)
      refine n0_ne 25 d92_19 (by decide) (by decide) (fun q => absurd q (by decide)) (fun _ => ?_)
      refine q_bipush (x := (-2)) d92_22 rfl ?_
      refine q_iret d92_24 rfl ?_
      exact k _ hR (Fc.refl _)
    | some m =>
      rw [ov_s hv] at k
      obtain ⟨rfl, hm, h50⟩ := yvx_s hv
      refine q_iload_n d92_0 rfl ?_
      refine q_iconstN (z := 0) d92_1 ?_
      refine q_aload_n d92_2 rfl ?_
      refine q_getr (c := 7) (f := 3) d92_3 ⟨rfl, rfl⟩ (hS.1.1) (hS.1.2.2.2.2.2.1) ?_
      refine q_getv (c := 0) (f := 3) d92_6 ⟨rfl, by decide⟩ hS.2.2.2.1.1 hJ.1 ?_
      refine q_s3 d92_9 (Or.inl rfl) rfl (Nat.le_of_ble_eq_true rfl) (c10t ⟨by omega, by omega⟩ (by omega) ?_)
      refine n0_eq 22 d92_12 (by decide) (by decide) (fun q => absurd q (by decide)) (fun _ => ?_)
      refine q_iload_n d92_15 rfl ?_
      refine q_s1 d92_16 (Or.inl rfl) rfl (Nat.le_of_ble_eq_true rfl) (c93t hv ?_)
      refine n0_ne 25 d92_19 (by decide) (by decide) (fun _ => ?_) (fun q => absurd q (by decide))
      refine q_aload_n d92_25 rfl ?_
      refine q_getr (c := 7) (f := 5) d92_26 ⟨rfl, rfl⟩ (hS.1.1) (hS.1.2.2.2.2.2.2.2.1) ?_
      refine q_aload_n d92_29 rfl ?_
      refine q_getr (c := 7) (f := 3) d92_30 ⟨rfl, rfl⟩ (hS.1.1) (hS.1.2.2.2.2.2.1) ?_
      refine q_iload_n d92_33 rfl ?_
      refine q_v2 d92_34 rfl rfl hwt.1 (Nat.le_of_ble_eq_true rfl) (c94 (lo := 94) (w := 94) (u := 99) (j := 95) (g := none) (L := dL D) (n := n) hS hT rfl (Or.inr ⟨rfl, rfl, rfl, rfl⟩) hO.1 hJ (by omega) h240 hD.2.2.1 (fun M1 hN f1 => ?_))
      refine q_aload_n d92_37 rfl ?_
      refine q_getr (c := 7) (f := 5) d92_38 ⟨rfl, rfl⟩ (hN.1.1.1) (hN.1.1.2.2.2.2.2.2.2.1) ?_
      refine q_iload_n d92_41 rfl ?_
      refine q_v1 d92_42 rfl rfl (hN.1.wo (Or.inr ⟨rfl, rfl, rfl, rfl⟩)).1 (Nat.le_of_ble_eq_true rfl) (c98 hN hm h50 ?_)
      refine q_iret d92_45 rfl ?_
      have hth := hR.th hN.1 (f1.mono (fun b q e => ⟨by have := e.1; omega, by have := e.2; omega⟩))
      exact k _ hth.1 hth.2
  · rw [oz_n en] at k
    refine q_iload_n d92_0 rfl ?_
    refine q_iconstN (z := 0) d92_1 ?_
    refine q_aload_n d92_2 rfl ?_
    refine q_getr (c := 7) (f := 3) d92_3 ⟨rfl, rfl⟩ (hS.1.1) (hS.1.2.2.2.2.2.1) ?_
    refine q_getv (c := 0) (f := 3) d92_6 ⟨rfl, by decide⟩ hS.2.2.2.1.1 hJ.1 ?_
    refine q_s3 d92_9 (Or.inl rfl) rfl (Nat.le_of_ble_eq_true rfl) (c10g en (by omega) ?_)
    refine n0_eq 22 d92_12 (by decide) (by decide) (fun _ => ?_) (fun q => absurd q (by decide))
    refine q_bipush (x := (-2)) d92_22 rfl ?_
    refine q_iret d92_24 rfl ?_
    exact k _ hR (Fc.refl _)
/-! ===== the calls of the class: runs in thought ===== -/
theorem CW.l0 {M : zM} {T : Nat → yT} {c : Nat} {nm : Nat → Nat → Int32} {X : yX} (h : CW M 94 94 99 95 T c nm X) : yln X.2 + 39 ≤ 240 := by
  have h1 : RJ M 95 X.2 := h.2.2.2.2.2.2
  cases e : X.2 with
  | none => show 0 + 39 ≤ 240; omega
  | some L => rw [e] at h1; exact absurd h1.1 (by decide)
theorem d100_0 : decode (zB 100) 0 = .ok (.iload_n 1, 1) := (congrArg (fun c => decode c 0) zeq100).trans (by decide +kernel)
theorem d100_1 : decode (zB 100) 1 = .ok (.iconst 0, 1) := (congrArg (fun c => decode c 1) zeq100).trans (by decide +kernel)
theorem d100_2 : decode (zB 100) 2 = .ok (.bipush 60, 2) := (congrArg (fun c => decode c 2) zeq100).trans (by decide +kernel)
theorem d100_4 : decode (zB 100) 4 = .ok (.invokestatic 55, 3) := (congrArg (fun c => decode c 4) zeq100).trans (by decide +kernel)
theorem d100_7 : decode (zB 100) 7 = .ok (.ifCond .eq 10, 3) := (congrArg (fun c => decode c 7) zeq100).trans (by decide +kernel)
theorem d100_10 : decode (zB 100) 10 = .ok (.iload_n 2, 1) := (congrArg (fun c => decode c 10) zeq100).trans (by decide +kernel)
theorem d100_11 : decode (zB 100) 11 = .ok (.invokestatic 217, 3) := (congrArg (fun c => decode c 11) zeq100).trans (by decide +kernel)
theorem d100_14 : decode (zB 100) 14 = .ok (.ifCond .ne 6, 3) := (congrArg (fun c => decode c 14) zeq100).trans (by decide +kernel)
theorem d100_17 : decode (zB 100) 17 = .ok (.bipush (-2), 2) := (congrArg (fun c => decode c 17) zeq100).trans (by decide +kernel)
theorem d100_19 : decode (zB 100) 19 = .ok (.ireturn, 1) := (congrArg (fun c => decode c 19) zeq100).trans (by decide +kernel)
theorem d100_20 : decode (zB 100) 20 = .ok (.aload_n 0, 1) := (congrArg (fun c => decode c 20) zeq100).trans (by decide +kernel)
theorem d100_21 : decode (zB 100) 21 = .ok (.getfield 41, 3) := (congrArg (fun c => decode c 21) zeq100).trans (by decide +kernel)
theorem d100_24 : decode (zB 100) 24 = .ok (.aload_n 0, 1) := (congrArg (fun c => decode c 24) zeq100).trans (by decide +kernel)
theorem d100_25 : decode (zB 100) 25 = .ok (.getfield 37, 3) := (congrArg (fun c => decode c 25) zeq100).trans (by decide +kernel)
theorem d100_28 : decode (zB 100) 28 = .ok (.invokevirtual 227, 3) := (congrArg (fun c => decode c 28) zeq100).trans (by decide +kernel)
theorem d100_31 : decode (zB 100) 31 = .ok (.iconst 0, 1) := (congrArg (fun c => decode c 31) zeq100).trans (by decide +kernel)
theorem d100_32 : decode (zB 100) 32 = .ok (.istore_n 3, 1) := (congrArg (fun c => decode c 32) zeq100).trans (by decide +kernel)
theorem d100_33 : decode (zB 100) 33 = .ok (.iload_n 3, 1) := (congrArg (fun c => decode c 33) zeq100).trans (by decide +kernel)
theorem d100_34 : decode (zB 100) 34 = .ok (.iload_n 1, 1) := (congrArg (fun c => decode c 34) zeq100).trans (by decide +kernel)
theorem d100_35 : decode (zB 100) 35 = .ok (.if_icmp .ge 16, 3) := (congrArg (fun c => decode c 35) zeq100).trans (by decide +kernel)
theorem d100_38 : decode (zB 100) 38 = .ok (.aload_n 0, 1) := (congrArg (fun c => decode c 38) zeq100).trans (by decide +kernel)
theorem d100_39 : decode (zB 100) 39 = .ok (.getfield 41, 3) := (congrArg (fun c => decode c 39) zeq100).trans (by decide +kernel)
theorem d100_42 : decode (zB 100) 42 = .ok (.invokevirtual 175, 3) := (congrArg (fun c => decode c 42) zeq100).trans (by decide +kernel)
theorem d100_45 : decode (zB 100) 45 = .ok (.iinc 3 1, 3) := (congrArg (fun c => decode c 45) zeq100).trans (by decide +kernel)
theorem d100_48 : decode (zB 100) 48 = .ok (.goto (-15), 3) := (congrArg (fun c => decode c 48) zeq100).trans (by decide +kernel)
theorem d100_51 : decode (zB 100) 51 = .ok (.aload_n 0, 1) := (congrArg (fun c => decode c 51) zeq100).trans (by decide +kernel)
theorem d100_52 : decode (zB 100) 52 = .ok (.getfield 41, 3) := (congrArg (fun c => decode c 52) zeq100).trans (by decide +kernel)
theorem d100_55 : decode (zB 100) 55 = .ok (.iload_n 2, 1) := (congrArg (fun c => decode c 55) zeq100).trans (by decide +kernel)
theorem d100_56 : decode (zB 100) 56 = .ok (.invokevirtual 224, 3) := (congrArg (fun c => decode c 56) zeq100).trans (by decide +kernel)
theorem d100_59 : decode (zB 100) 59 = .ok (.ireturn, 1) := (congrArg (fun c => decode c 59) zeq100).trans (by decide +kernel)
theorem l100 {d : Nat} {Q : Option Value → zM → Prop} {D : yD} {M0 : zM} {n m : Nat} {nm : Nat → Nat → Int32} {XF : yX} (hR : RC M0 D) (hn : n ≤ 60) (hm : ywv m = true) (h50 : m < 50) (k : ∀ M', RC M' D → Fc M0 M' → Q (some (.int (yvw XF.1 m))) M') : ∀ (r i : Nat) (M1 : zM) (X1 : yX), i ≤ n → n < i + r →  CW M1 94 94 99 95 (dT D) (dc D) nm X1 → Fr (FW 94) M0 M1 → ytn (dT D) nm (n - i) X1 = XF → qW (zEv (d + 5)) 100 Q 33 [(3, .int (nI i)), (0, .ref 16), (1, .int (nI n)), (2, .int (nI m))] [] M1 := by
  intro r
  induction r with
  | zero => intros; omega
  | succ r ih =>
    intro i M1 X1 h1 h2 hC1 hF hy
    refine q_iload_n d100_33 rfl ?_
    refine q_iload_n d100_34 rfl ?_
    refine nc_ge 51 d100_35 (by decide) (by omega) (by omega) (fun h35 => ?_) (fun h35 => ?_)
    · refine q_aload_n d100_51 rfl ?_
      refine q_getr (c := 7) (f := 5) d100_52 ⟨rfl, rfl⟩ (hC1.1.1.1) (hC1.1.1.2.2.2.2.2.2.2.1) ?_
      refine q_iload_n d100_55 rfl ?_
      refine q_v1 d100_56 rfl rfl (hC1.1.wo (Or.inr ⟨rfl, rfl, rfl, rfl⟩)).1 (Nat.le_of_ble_eq_true rfl) (c98 hC1 hm h50 ?_)
      refine q_iret d100_59 rfl ?_
      have e : X1 = XF := by rw [show n - i = 0 by omega] at hy; exact hy
      subst e
      have hth := hR.th hC1.1 hF
      exact k _ hth.1 hth.2
    · refine q_aload_n d100_38 rfl ?_
      refine q_getr (c := 7) (f := 5) d100_39 ⟨rfl, rfl⟩ (hC1.1.1.1) (hC1.1.1.2.2.2.2.2.2.2.1) ?_
      refine q_v0 d100_42 rfl rfl (hC1.1.wo (Or.inr ⟨rfl, rfl, rfl, rfl⟩)).1 (Nat.le_of_ble_eq_true rfl) (c69 hC1 hC1.l0 (fun M2 hC2 f2 => ?_))
      refine n_iinc 1 d100_45 (by decide) rfl rfl ?_
      refine q_goto 33 d100_48 (by decide) ?_
      exact ih (i + 1) _ _ (by omega) (by omega) hC2 (hF.trans f2.fr) (by rw [show n - i = (n - (i + 1)) + 1 by omega, ytn] at hy; exact hy)
theorem p100 {d : Nat} {M : zM} {Q : Option Value → zM → Prop} {D : yD} {x y : Int32} (hR : RC M D) (hD : OKD D) (k : ∀ M', RC M' D → Fc M M' → Q (some (.int (sRun D x y))) M') : qC (d + 6) 100 [.ref 16, .int x, .int y] M Q := by
  refine qC_of (by decide) (Nat.le_of_ble_eq_true rfl) ?_
  have hS := hR.1.1
  have hT := hR.1.2.2.1
  have hO := hR.1.2.2.2.1
  have hRW := hR.1.2.2.2.2
  have hJ : RL M 62 (dL D) := hRW.2.2.2
  have hc6 := hO.1.1
  have h240 := hD.2.1
  have h120 := hR.2.2.1.1
  have hwr := hS.wo (Or.inl ⟨rfl, rfl, rfl, rfl⟩)
  have hwt := hS.wo (Or.inr ⟨rfl, rfl, rfl, rfl⟩)
  have hpr := hS.pu (Or.inl ⟨rfl, rfl, rfl, rfl⟩)
  have hpt := hS.pu (Or.inr ⟨rfl, rfl, rfl, rfl⟩)
  unfold sRun at k
  rcases zix_c x (n := 61) (by omega) with ⟨n, hn, rfl, en⟩ | ⟨en, nn⟩
  · rw [oz_s en] at k
    cases hv : yvx y with
    | none =>
      rw [ov_n hv] at k
      refine q_iload_n d100_0 rfl ?_
      refine q_iconstN (z := 0) d100_1 ?_
      refine q_bipush (x := nI 60) d100_2 rfl ?_
      refine q_s3 d100_4 (Or.inl rfl) rfl (Nat.le_of_ble_eq_true rfl) (c10t ⟨by omega, by omega⟩ (by decide) ?_)
      refine n0_eq 17 d100_7 (by decide) (by decide) (fun q => absurd q (by decide)) (fun _ => ?_)
      refine q_iload_n d100_10 rfl ?_
      refine q_s1 d100_11 (Or.inl rfl) rfl (Nat.le_of_ble_eq_true rfl) (c93f hv ?_)
      refine n0_ne 20 d100_14 (by decide) (by decide) (fun q => absurd q (by decide)) (fun _ => ?_)
      refine q_bipush (x := (-2)) d100_17 rfl ?_
      refine q_iret d100_19 rfl ?_
      exact k _ hR (Fc.refl _)
    | some m =>
      rw [ov_s hv] at k
      obtain ⟨rfl, hm, h50⟩ := yvx_s hv
      refine q_iload_n d100_0 rfl ?_
      refine q_iconstN (z := 0) d100_1 ?_
      refine q_bipush (x := nI 60) d100_2 rfl ?_
      refine q_s3 d100_4 (Or.inl rfl) rfl (Nat.le_of_ble_eq_true rfl) (c10t ⟨by omega, by omega⟩ (by decide) ?_)
      refine n0_eq 17 d100_7 (by decide) (by decide) (fun q => absurd q (by decide)) (fun _ => ?_)
      refine q_iload_n d100_10 rfl ?_
      refine q_s1 d100_11 (Or.inl rfl) rfl (Nat.le_of_ble_eq_true rfl) (c93t hv ?_)
      refine n0_ne 20 d100_14 (by decide) (by decide) (fun _ => ?_) (fun q => absurd q (by decide))
      refine q_aload_n d100_20 rfl ?_
      refine q_getr (c := 7) (f := 5) d100_21 ⟨rfl, rfl⟩ (hS.1.1) (hS.1.2.2.2.2.2.2.2.1) ?_
      refine q_aload_n d100_24 rfl ?_
      refine q_getr (c := 7) (f := 4) d100_25 ⟨rfl, rfl⟩ (hS.1.1) (hS.1.2.2.2.2.2.2.1) ?_
      refine q_v1 d100_28 rfl rfl hwt.1 (Nat.le_of_ble_eq_true rfl) (c101 (nm := dnm D) (X := dX D) hR.1 (fun M1 hC1 f1 => ?_))
      refine q_iconstN (z := 0) d100_31 ?_
      refine q_istore_n d100_32 (by decide) rfl ?_
      exact l100 (XF := ytn (dT D) (dnm D) n (dW D, none)) hR (by omega) hm h50 (fun M' h1 h2 => k M' h1 h2) (n + 1) 0 M1 _ (by omega) (by omega) hC1 (f1.mono (fun b q e => ⟨by have := e.1; omega, by have := e.2; omega⟩)) rfl
  · rw [oz_n en] at k
    refine q_iload_n d100_0 rfl ?_
    refine q_iconstN (z := 0) d100_1 ?_
    refine q_bipush (x := nI 60) d100_2 rfl ?_
    refine q_s3 d100_4 (Or.inl rfl) rfl (Nat.le_of_ble_eq_true rfl) (c10f (by decide) (by omega) (by decide) ?_)
    refine n0_eq 17 d100_7 (by decide) (by decide) (fun _ => ?_) (fun q => absurd q (by decide))
    refine q_bipush (x := (-2)) d100_17 rfl ?_
    refine q_iret d100_19 rfl ?_
    exact k _ hR (Fc.refl _)
/-! ===== the calls of the class: plan ===== -/
theorem d66_0 : decode (zB 66) 0 = .ok (.iload_n 1, 1) := (congrArg (fun c => decode c 0) zeq66).trans (by decide +kernel)
theorem d66_1 : decode (zB 66) 1 = .ok (.invokestatic 141, 3) := (congrArg (fun c => decode c 1) zeq66).trans (by decide +kernel)
theorem d66_4 : decode (zB 66) 4 = .ok (.ifCond .eq 39, 3) := (congrArg (fun c => decode c 4) zeq66).trans (by decide +kernel)
theorem d66_7 : decode (zB 66) 7 = .ok (.aload_n 0, 1) := (congrArg (fun c => decode c 7) zeq66).trans (by decide +kernel)
theorem d66_8 : decode (zB 66) 8 = .ok (.getfield 37, 3) := (congrArg (fun c => decode c 8) zeq66).trans (by decide +kernel)
theorem d66_11 : decode (zB 66) 11 = .ok (.getfield 144, 3) := (congrArg (fun c => decode c 11) zeq66).trans (by decide +kernel)
theorem d66_14 : decode (zB 66) 14 = .ok (.iload_n 1, 1) := (congrArg (fun c => decode c 14) zeq66).trans (by decide +kernel)
theorem d66_15 : decode (zB 66) 15 = .ok (.aaload, 1) := (congrArg (fun c => decode c 15) zeq66).trans (by decide +kernel)
theorem d66_16 : decode (zB 66) 16 = .ok (.iload_n 2, 1) := (congrArg (fun c => decode c 16) zeq66).trans (by decide +kernel)
theorem d66_17 : decode (zB 66) 17 = .ok (.invokevirtual 163, 3) := (congrArg (fun c => decode c 17) zeq66).trans (by decide +kernel)
theorem d66_20 : decode (zB 66) 20 = .ok (.ifCond .eq 23, 3) := (congrArg (fun c => decode c 20) zeq66).trans (by decide +kernel)
theorem d66_23 : decode (zB 66) 23 = .ok (.iload_n 3, 1) := (congrArg (fun c => decode c 23) zeq66).trans (by decide +kernel)
theorem d66_24 : decode (zB 66) 24 = .ok (.iconst 0, 1) := (congrArg (fun c => decode c 24) zeq66).trans (by decide +kernel)
theorem d66_25 : decode (zB 66) 25 = .ok (.iconst 1, 1) := (congrArg (fun c => decode c 25) zeq66).trans (by decide +kernel)
theorem d66_26 : decode (zB 66) 26 = .ok (.invokestatic 55, 3) := (congrArg (fun c => decode c 26) zeq66).trans (by decide +kernel)
theorem d66_29 : decode (zB 66) 29 = .ok (.ifCond .eq 14, 3) := (congrArg (fun c => decode c 29) zeq66).trans (by decide +kernel)
theorem d66_32 : decode (zB 66) 32 = .ok (.iload 4, 2) := (congrArg (fun c => decode c 32) zeq66).trans (by decide +kernel)
theorem d66_34 : decode (zB 66) 34 = .ok (.iconst 0, 1) := (congrArg (fun c => decode c 34) zeq66).trans (by decide +kernel)
theorem d66_35 : decode (zB 66) 35 = .ok (.bipush 9, 2) := (congrArg (fun c => decode c 35) zeq66).trans (by decide +kernel)
theorem d66_37 : decode (zB 66) 37 = .ok (.invokestatic 55, 3) := (congrArg (fun c => decode c 37) zeq66).trans (by decide +kernel)
theorem d66_40 : decode (zB 66) 40 = .ok (.ifCond .ne 6, 3) := (congrArg (fun c => decode c 40) zeq66).trans (by decide +kernel)
theorem d66_43 : decode (zB 66) 43 = .ok (.bipush (-2), 2) := (congrArg (fun c => decode c 43) zeq66).trans (by decide +kernel)
theorem d66_45 : decode (zB 66) 45 = .ok (.ireturn, 1) := (congrArg (fun c => decode c 45) zeq66).trans (by decide +kernel)
theorem d66_46 : decode (zB 66) 46 = .ok (.aload_n 0, 1) := (congrArg (fun c => decode c 46) zeq66).trans (by decide +kernel)
theorem d66_47 : decode (zB 66) 47 = .ok (.getfield 37, 3) := (congrArg (fun c => decode c 47) zeq66).trans (by decide +kernel)
theorem d66_50 : decode (zB 66) 50 = .ok (.getfield 144, 3) := (congrArg (fun c => decode c 50) zeq66).trans (by decide +kernel)
theorem d66_53 : decode (zB 66) 53 = .ok (.iload_n 1, 1) := (congrArg (fun c => decode c 53) zeq66).trans (by decide +kernel)
theorem d66_54 : decode (zB 66) 54 = .ok (.aaload, 1) := (congrArg (fun c => decode c 54) zeq66).trans (by decide +kernel)
theorem d66_55 : decode (zB 66) 55 = .ok (.astore 5, 2) := (congrArg (fun c => decode c 55) zeq66).trans (by decide +kernel)
theorem d66_57 : decode (zB 66) 57 = .ok (.aload 5, 2) := (congrArg (fun c => decode c 57) zeq66).trans (by decide +kernel)
theorem d66_59 : decode (zB 66) 59 = .ok (.getfield 166, 3) := (congrArg (fun c => decode c 59) zeq66).trans (by decide +kernel)
theorem d66_62 : decode (zB 66) 62 = .ok (.ifCond .ne 6, 3) := (congrArg (fun c => decode c 62) zeq66).trans (by decide +kernel)
theorem d66_65 : decode (zB 66) 65 = .ok (.bipush (-3), 2) := (congrArg (fun c => decode c 65) zeq66).trans (by decide +kernel)
theorem d66_67 : decode (zB 66) 67 = .ok (.ireturn, 1) := (congrArg (fun c => decode c 67) zeq66).trans (by decide +kernel)
theorem d66_68 : decode (zB 66) 68 = .ok (.iload_n 3, 1) := (congrArg (fun c => decode c 68) zeq66).trans (by decide +kernel)
theorem d66_69 : decode (zB 66) 69 = .ok (.ifCond .ne 11, 3) := (congrArg (fun c => decode c 69) zeq66).trans (by decide +kernel)
theorem d66_72 : decode (zB 66) 72 = .ok (.aload 5, 2) := (congrArg (fun c => decode c 72) zeq66).trans (by decide +kernel)
theorem d66_74 : decode (zB 66) 74 = .ok (.getfield 169, 3) := (congrArg (fun c => decode c 74) zeq66).trans (by decide +kernel)
theorem d66_77 : decode (zB 66) 77 = .ok (.goto 8, 3) := (congrArg (fun c => decode c 77) zeq66).trans (by decide +kernel)
theorem d66_80 : decode (zB 66) 80 = .ok (.aload 5, 2) := (congrArg (fun c => decode c 80) zeq66).trans (by decide +kernel)
theorem d66_82 : decode (zB 66) 82 = .ok (.getfield 172, 3) := (congrArg (fun c => decode c 82) zeq66).trans (by decide +kernel)
theorem d66_85 : decode (zB 66) 85 = .ok (.astore 6, 2) := (congrArg (fun c => decode c 85) zeq66).trans (by decide +kernel)
theorem d66_87 : decode (zB 66) 87 = .ok (.aload 6, 2) := (congrArg (fun c => decode c 87) zeq66).trans (by decide +kernel)
theorem d66_89 : decode (zB 66) 89 = .ok (.iload_n 2, 1) := (congrArg (fun c => decode c 89) zeq66).trans (by decide +kernel)
theorem d66_90 : decode (zB 66) 90 = .ok (.iaload, 1) := (congrArg (fun c => decode c 90) zeq66).trans (by decide +kernel)
theorem d66_91 : decode (zB 66) 91 = .ok (.istore 7, 2) := (congrArg (fun c => decode c 91) zeq66).trans (by decide +kernel)
theorem d66_93 : decode (zB 66) 93 = .ok (.aload 6, 2) := (congrArg (fun c => decode c 93) zeq66).trans (by decide +kernel)
theorem d66_95 : decode (zB 66) 95 = .ok (.iload_n 2, 1) := (congrArg (fun c => decode c 95) zeq66).trans (by decide +kernel)
theorem d66_96 : decode (zB 66) 96 = .ok (.iload 4, 2) := (congrArg (fun c => decode c 96) zeq66).trans (by decide +kernel)
theorem d66_98 : decode (zB 66) 98 = .ok (.iastore, 1) := (congrArg (fun c => decode c 98) zeq66).trans (by decide +kernel)
theorem d66_99 : decode (zB 66) 99 = .ok (.iload 7, 2) := (congrArg (fun c => decode c 99) zeq66).trans (by decide +kernel)
theorem d66_101 : decode (zB 66) 101 = .ok (.ireturn, 1) := (congrArg (fun c => decode c 101) zeq66).trans (by decide +kernel)
theorem p66 {d : Nat} {M : zM} {Q : Option Value → zM → Prop} {D : yD} {x y o z : Int32} (hR : RC M D) (hD : OKD D) (k : ∀ M', RC M' (sPlan D x y o z).2 → Fc M M' → Q (some (.int (sPlan D x y o z).1)) M') : qC (d + 3) 66 [.ref 16, .int x, .int y, .int o, .int z] M Q := by
  refine qC_of (by decide) (Nat.le_of_ble_eq_true rfl) ?_
  have hS := hR.1.1
  have hT := hR.1.2.2.1
  have hO := hR.1.2.2.2.1
  have hRW := hR.1.2.2.2.2
  have hJ : RL M 62 (dL D) := hRW.2.2.2
  have hc6 := hO.1.1
  have h240 := hD.2.1
  have h120 := hR.2.2.1.1
  have hwr := hS.wo (Or.inl ⟨rfl, rfl, rfl, rfl⟩)
  have hwt := hS.wo (Or.inr ⟨rfl, rfl, rfl, rfl⟩)
  have hpr := hS.pu (Or.inl ⟨rfl, rfl, rfl, rfl⟩)
  have hpt := hS.pu (Or.inr ⟨rfl, rfl, rfl, rfl⟩)
  unfold sPlan at k
  rcases zix_c x (n := 3) (by omega) with ⟨s, hs, rfl, es⟩ | ⟨es, ns⟩
  · rw [oz_s es] at k
    have hRs2 := hRW.2.1 s hs
    have hsg := hS.sg (show zSa (70 + 8 * s) by unfold zSa; omega)
    have hOs : OKS (dT D) (dc D) (dS D s) := hO.2.2 s hs
    have hg5 := hOs.1
    have hRs : RS M (70 + 8 * s) (dT D) (yNm (dT D) (dW D) s) (dS D s) := hRW.2.1 s hs
    obtain ⟨⟨q0, q1, q2⟩, ⟨q3, q4, q5⟩, ⟨q7, q8⟩, q9, qa, qb⟩ := hRs
    by_cases hg : gt (dS D s) = 0
    · rw [show yms D s = 12 from if_pos hg] at k
      have e2 : zr M (70 + 8 * s) 2 = none := q2.trans (if_pos hg)
      rcases zix_c y (n := 12) (by omega) with ⟨i, hi, rfl, ei⟩ | ⟨ei, ni⟩
      · rw [oz_s ei] at k
        rcases zix_c o (n := 2) (by omega) with ⟨p, hp, rfl, ep⟩ | ⟨ep, np⟩
        · rw [oz_s ep] at k
          rcases zix_c z (n := 10) (by omega) with ⟨q, hq, rfl, eq⟩ | ⟨eq, nq⟩
          · rw [oz_s eq] at k
            rw [if_pos hg] at k
            refine q_iload_n d66_0 rfl ?_
            refine q_s1 d66_1 (Or.inl rfl) rfl (Nat.le_of_ble_eq_true rfl) (c60t (by omega) ?_)
            refine n0_eq 43 d66_4 (by decide) (by decide) (fun q => absurd q (by decide)) (fun _ => ?_)
            refine q_aload_n d66_7 rfl ?_
            refine q_getr (c := 7) (f := 4) d66_8 ⟨rfl, rfl⟩ (hS.1.1) (hS.1.2.2.2.2.2.2.1) ?_
            refine q_getr (c := 6) (f := 3) d66_11 ⟨rfl, rfl⟩ hwr.1 hwr.2.2.2.2.1 ?_
            refine q_iload_n d66_14 rfl ?_
            refine n_aald d66_15 hwr.2.2.2.2.2.1 (by decide) (by omega) (by decide) (hwr.2.2.2.2.2.2 _ (by omega)) ?_
            refine q_iload_n d66_16 rfl ?_
            refine q_v1 d66_17 rfl rfl hsg.1 (Nat.le_of_ble_eq_true rfl) (c67nt hsg e2 hi ?_)
            refine n0_eq 43 d66_20 (by decide) (by decide) (fun q => absurd q (by decide)) (fun _ => ?_)
            refine q_iload_n d66_23 rfl ?_
            refine q_iconstN (z := 0) d66_24 ?_
            refine q_iconstN (z := 1) d66_25 ?_
            refine q_s3 d66_26 (Or.inl rfl) rfl (Nat.le_of_ble_eq_true rfl) (c10t ⟨by omega, by omega⟩ (by decide) ?_)
            refine n0_eq 43 d66_29 (by decide) (by decide) (fun q => absurd q (by decide)) (fun _ => ?_)
            refine q_iload d66_32 rfl ?_
            refine q_iconstN (z := 0) d66_34 ?_
            refine q_bipush (x := nI 9) d66_35 rfl ?_
            refine q_s3 d66_37 (Or.inl rfl) rfl (Nat.le_of_ble_eq_true rfl) (c10t ⟨by omega, by omega⟩ (by decide) ?_)
            refine n0_ne 46 d66_40 (by decide) (by decide) (fun _ => ?_) (fun q => absurd q (by decide))
            refine q_aload_n d66_46 rfl ?_
            refine q_getr (c := 7) (f := 4) d66_47 ⟨rfl, rfl⟩ (hS.1.1) (hS.1.2.2.2.2.2.2.1) ?_
            refine q_getr (c := 6) (f := 3) d66_50 ⟨rfl, rfl⟩ hwr.1 hwr.2.2.2.2.1 ?_
            refine q_iload_n d66_53 rfl ?_
            refine n_aald d66_54 hwr.2.2.2.2.2.1 (by decide) (by omega) (by decide) (hwr.2.2.2.2.2.2 _ (by omega)) ?_
            refine q_astore d66_55 (by decide) rfl ?_
            refine q_aload d66_57 rfl ?_
            refine q_getv (c := 5) (f := 0) d66_59 ⟨rfl, by decide⟩ hsg.1 q0 ?_
            refine n0_ne 68 d66_62 (by decide) (by omega) (fun h62 => (False.elim (h62 hg))) (fun h62 => ?_)
            refine q_bipush (x := (-3)) d66_65 rfl ?_
            refine q_iret d66_67 rfl ?_
            exact k _ hR (Fc.refl _)
          · rw [oz_n eq] at k
            refine q_iload_n d66_0 rfl ?_
            refine q_s1 d66_1 (Or.inl rfl) rfl (Nat.le_of_ble_eq_true rfl) (c60t (by omega) ?_)
            refine n0_eq 43 d66_4 (by decide) (by decide) (fun q => absurd q (by decide)) (fun _ => ?_)
            refine q_aload_n d66_7 rfl ?_
            refine q_getr (c := 7) (f := 4) d66_8 ⟨rfl, rfl⟩ (hS.1.1) (hS.1.2.2.2.2.2.2.1) ?_
            refine q_getr (c := 6) (f := 3) d66_11 ⟨rfl, rfl⟩ hwr.1 hwr.2.2.2.2.1 ?_
            refine q_iload_n d66_14 rfl ?_
            refine n_aald d66_15 hwr.2.2.2.2.2.1 (by decide) (by omega) (by decide) (hwr.2.2.2.2.2.2 _ (by omega)) ?_
            refine q_iload_n d66_16 rfl ?_
            refine q_v1 d66_17 rfl rfl hsg.1 (Nat.le_of_ble_eq_true rfl) (c67nt hsg e2 hi ?_)
            refine n0_eq 43 d66_20 (by decide) (by decide) (fun q => absurd q (by decide)) (fun _ => ?_)
            refine q_iload_n d66_23 rfl ?_
            refine q_iconstN (z := 0) d66_24 ?_
            refine q_iconstN (z := 1) d66_25 ?_
            refine q_s3 d66_26 (Or.inl rfl) rfl (Nat.le_of_ble_eq_true rfl) (c10t ⟨by omega, by omega⟩ (by decide) ?_)
            refine n0_eq 43 d66_29 (by decide) (by decide) (fun q => absurd q (by decide)) (fun _ => ?_)
            refine q_iload d66_32 rfl ?_
            refine q_iconstN (z := 0) d66_34 ?_
            refine q_bipush (x := nI 9) d66_35 rfl ?_
            refine q_s3 d66_37 (Or.inl rfl) rfl (Nat.le_of_ble_eq_true rfl) (c10f (by decide) (by omega) (by decide) ?_)
            refine n0_ne 46 d66_40 (by decide) (by decide) (fun q => absurd q (by decide)) (fun _ => ?_)
            refine q_bipush (x := (-2)) d66_43 rfl ?_
            refine q_iret d66_45 rfl ?_
            exact k _ hR (Fc.refl _)
        · rw [oz_n ep] at k
          refine q_iload_n d66_0 rfl ?_
          refine q_s1 d66_1 (Or.inl rfl) rfl (Nat.le_of_ble_eq_true rfl) (c60t (by omega) ?_)
          refine n0_eq 43 d66_4 (by decide) (by decide) (fun q => absurd q (by decide)) (fun _ => ?_)
          refine q_aload_n d66_7 rfl ?_
          refine q_getr (c := 7) (f := 4) d66_8 ⟨rfl, rfl⟩ (hS.1.1) (hS.1.2.2.2.2.2.2.1) ?_
          refine q_getr (c := 6) (f := 3) d66_11 ⟨rfl, rfl⟩ hwr.1 hwr.2.2.2.2.1 ?_
          refine q_iload_n d66_14 rfl ?_
          refine n_aald d66_15 hwr.2.2.2.2.2.1 (by decide) (by omega) (by decide) (hwr.2.2.2.2.2.2 _ (by omega)) ?_
          refine q_iload_n d66_16 rfl ?_
          refine q_v1 d66_17 rfl rfl hsg.1 (Nat.le_of_ble_eq_true rfl) (c67nt hsg e2 hi ?_)
          refine n0_eq 43 d66_20 (by decide) (by decide) (fun q => absurd q (by decide)) (fun _ => ?_)
          refine q_iload_n d66_23 rfl ?_
          refine q_iconstN (z := 0) d66_24 ?_
          refine q_iconstN (z := 1) d66_25 ?_
          refine q_s3 d66_26 (Or.inl rfl) rfl (Nat.le_of_ble_eq_true rfl) (c10f (by decide) (by omega) (by decide) ?_)
          refine n0_eq 43 d66_29 (by decide) (by decide) (fun _ => ?_) (fun q => absurd q (by decide))
          refine q_bipush (x := (-2)) d66_43 rfl ?_
          refine q_iret d66_45 rfl ?_
          exact k _ hR (Fc.refl _)
      · rw [oz_n ei] at k
        refine q_iload_n d66_0 rfl ?_
        refine q_s1 d66_1 (Or.inl rfl) rfl (Nat.le_of_ble_eq_true rfl) (c60t (by omega) ?_)
        refine n0_eq 43 d66_4 (by decide) (by decide) (fun q => absurd q (by decide)) (fun _ => ?_)
        refine q_aload_n d66_7 rfl ?_
        refine q_getr (c := 7) (f := 4) d66_8 ⟨rfl, rfl⟩ (hS.1.1) (hS.1.2.2.2.2.2.2.1) ?_
        refine q_getr (c := 6) (f := 3) d66_11 ⟨rfl, rfl⟩ hwr.1 hwr.2.2.2.2.1 ?_
        refine q_iload_n d66_14 rfl ?_
        refine n_aald d66_15 hwr.2.2.2.2.2.1 (by decide) (by omega) (by decide) (hwr.2.2.2.2.2.2 _ (by omega)) ?_
        refine q_iload_n d66_16 rfl ?_
        refine q_v1 d66_17 rfl rfl hsg.1 (Nat.le_of_ble_eq_true rfl) (c67nf hsg e2 ei ?_)
        refine n0_eq 43 d66_20 (by decide) (by decide) (fun _ => ?_) (fun q => absurd q (by decide))
        refine q_bipush (x := (-2)) d66_43 rfl ?_
        refine q_iret d66_45 rfl ?_
        exact k _ hR (Fc.refl _)
    · rw [show yms D s = tn (dT D (gx (dS D s))) from if_neg hg] at k
      have e2 : zr M (70 + 8 * s) 2 = some (20 + 7 * gx (dS D s)) := q2.trans (if_neg hg)
      have hx : gx (dS D s) < dc D := hOs.2.1 hg
      have ho := hO.1.2 _ hx
      have hn := ho.n
      rcases zix_c y (n := tn (dT D (gx (dS D s)))) (by omega) with ⟨i, hi, rfl, ei⟩ | ⟨ei, ni⟩
      · rw [oz_s ei] at k
        rcases zix_c o (n := 2) (by omega) with ⟨p, hp, rfl, ep⟩ | ⟨ep, np⟩
        · rw [oz_s ep] at k
          rcases zix_c z (n := 10) (by omega) with ⟨q, hq, rfl, eq⟩ | ⟨eq, nq⟩
          · rw [oz_s eq] at k
            rw [if_neg hg] at k
            rcases (show p = 0 ∨ p = 1 by omega) with rfl | rfl
            · rw [if_pos rfl] at k
              refine q_iload_n d66_0 rfl ?_
              refine q_s1 d66_1 (Or.inl rfl) rfl (Nat.le_of_ble_eq_true rfl) (c60t (by omega) ?_)
              refine n0_eq 43 d66_4 (by decide) (by decide) (fun q => absurd q (by decide)) (fun _ => ?_)
              refine q_aload_n d66_7 rfl ?_
              refine q_getr (c := 7) (f := 4) d66_8 ⟨rfl, rfl⟩ (hS.1.1) (hS.1.2.2.2.2.2.2.1) ?_
              refine q_getr (c := 6) (f := 3) d66_11 ⟨rfl, rfl⟩ hwr.1 hwr.2.2.2.2.1 ?_
              refine q_iload_n d66_14 rfl ?_
              refine n_aald d66_15 hwr.2.2.2.2.2.1 (by decide) (by omega) (by decide) (hwr.2.2.2.2.2.2 _ (by omega)) ?_
              refine q_iload_n d66_16 rfl ?_
              refine q_v1 d66_17 rfl rfl hsg.1 (Nat.le_of_ble_eq_true rfl) (c67t hsg e2 (hS.pr (by omega)) (hT _ hx) hn hi ?_)
              refine n0_eq 43 d66_20 (by decide) (by decide) (fun q => absurd q (by decide)) (fun _ => ?_)
              refine q_iload_n d66_23 rfl ?_
              refine q_iconstN (z := 0) d66_24 ?_
              refine q_iconstN (z := 1) d66_25 ?_
              refine q_s3 d66_26 (Or.inl rfl) rfl (Nat.le_of_ble_eq_true rfl) (c10t ⟨by omega, by omega⟩ (by decide) ?_)
              refine n0_eq 43 d66_29 (by decide) (by decide) (fun q => absurd q (by decide)) (fun _ => ?_)
              refine q_iload d66_32 rfl ?_
              refine q_iconstN (z := 0) d66_34 ?_
              refine q_bipush (x := nI 9) d66_35 rfl ?_
              refine q_s3 d66_37 (Or.inl rfl) rfl (Nat.le_of_ble_eq_true rfl) (c10t ⟨by omega, by omega⟩ (by decide) ?_)
              refine n0_ne 46 d66_40 (by decide) (by decide) (fun _ => ?_) (fun q => absurd q (by decide))
              refine q_aload_n d66_46 rfl ?_
              refine q_getr (c := 7) (f := 4) d66_47 ⟨rfl, rfl⟩ (hS.1.1) (hS.1.2.2.2.2.2.2.1) ?_
              refine q_getr (c := 6) (f := 3) d66_50 ⟨rfl, rfl⟩ hwr.1 hwr.2.2.2.2.1 ?_
              refine q_iload_n d66_53 rfl ?_
              refine n_aald d66_54 hwr.2.2.2.2.2.1 (by decide) (by omega) (by decide) (hwr.2.2.2.2.2.2 _ (by omega)) ?_
              refine q_astore d66_55 (by decide) rfl ?_
              refine q_aload d66_57 rfl ?_
              refine q_getv (c := 5) (f := 0) d66_59 ⟨rfl, by decide⟩ hsg.1 q0 ?_
              refine n0_ne 68 d66_62 (by decide) (by omega) (fun h62 => ?_) (fun h62 => (False.elim (hg h62)))
              refine q_iload_n d66_68 rfl ?_
              refine n0_ne 80 d66_69 (by decide) (by decide) (fun q => absurd q (by decide)) (fun _ => ?_)
              refine q_aload d66_72 rfl ?_
              refine q_getr (c := 5) (f := 10) d66_74 ⟨rfl, rfl⟩ hsg.1 (hsg.2.2.1 2 (by decide)) ?_
              refine q_goto 85 d66_77 (by decide) ?_
              refine q_astore d66_85 (by decide) rfl ?_
              refine q_aload d66_87 rfl ?_
              refine q_iload_n d66_89 rfl ?_
              refine n_iald d66_90 (hsg.2.2.2 3 (by decide)) (by omega) (by decide) (qb _ (by omega)).1 ?_
              refine q_istore d66_91 (by decide) rfl ?_
              refine q_aload d66_93 rfl ?_
              refine q_iload_n d66_95 rfl ?_
              refine q_iload d66_96 rfl ?_
              refine n_iast d66_98 (hsg.2.2.2 3 (by decide)) (by omega) (by decide) ?_
              refine q_iload d66_99 rfl ?_
              refine q_iret d66_101 rfl ?_
              have f0 : Fi (fun b _ => b = 70 + 8 * s + 4) M (zwi M (70 + 8 * s + 2 + 2) i (nI q)) := (Fi.refl _ _).wi rfl
              have f6 : Fi (FW 62) M (zwi M (70 + 8 * s + 2 + 2) i (nI q)) := f0.mono (fun b q e => ⟨by omega, by omega⟩)
              have hR1 : RS (zwi M (70 + 8 * s + 2 + 2) i (nI q)) (70 + 8 * s) (dT D) (yNm (dT D) (dW D) s) (gpS (dS D s) (yu (gp (dS D s)) i (nI q))) := RS_gp hRs2 (fun j hj => by
                by_cases e : j = i
                · subst e; rw [yu_s]; exact wi_s _ _ _ _
                · rw [yu_n e]; exact (wi_n (Or.inr e)).trans (qb j hj).1) f0
              have hW := RW_sg (X := dX D) (Or.inl ⟨rfl, rfl, rfl, rfl⟩) hRW hs hR1 (f0.fr.mono (fun b q e => ⟨by omega, by omega⟩))
              have hO2 : OKW (dT D) (dc D) (yss (dX D) s (gpS (dS D s) (yu (gp (dS D s)) i (nI q)))).1 := OKW_ss (X := dX D) hO hOs
              have hN : CN (zwi M (70 + 8 * s + 2 + 2) i (nI q)) 62 66 67 62 (dT D) (dc D) (yss (dX D) s (gpS (dS D s) (yu (gp (dS D s)) i (nI q)))) := CN_of (CW.up hR.1 hW hO2 f6) (fun r _ v _ => by
                show tu (dT D (gx (yu (dW D).2 s (gpS (dS D s) (yu (gp (dS D s)) i (nI q))) r))) v = tu (dT D (gx ((dW D).2 r))) v
                by_cases e : r = s
                · subst e; rw [yu_s]; rfl
                · rw [yu_n e])
              exact k _ (hR.wo hN f6) (FW.c f6)
            · rw [if_neg (by decide)] at k
              refine q_iload_n d66_0 rfl ?_
              refine q_s1 d66_1 (Or.inl rfl) rfl (Nat.le_of_ble_eq_true rfl) (c60t (by omega) ?_)
              refine n0_eq 43 d66_4 (by decide) (by decide) (fun q => absurd q (by decide)) (fun _ => ?_)
              refine q_aload_n d66_7 rfl ?_
              refine q_getr (c := 7) (f := 4) d66_8 ⟨rfl, rfl⟩ (hS.1.1) (hS.1.2.2.2.2.2.2.1) ?_
              refine q_getr (c := 6) (f := 3) d66_11 ⟨rfl, rfl⟩ hwr.1 hwr.2.2.2.2.1 ?_
              refine q_iload_n d66_14 rfl ?_
              refine n_aald d66_15 hwr.2.2.2.2.2.1 (by decide) (by omega) (by decide) (hwr.2.2.2.2.2.2 _ (by omega)) ?_
              refine q_iload_n d66_16 rfl ?_
              refine q_v1 d66_17 rfl rfl hsg.1 (Nat.le_of_ble_eq_true rfl) (c67t hsg e2 (hS.pr (by omega)) (hT _ hx) hn hi ?_)
              refine n0_eq 43 d66_20 (by decide) (by decide) (fun q => absurd q (by decide)) (fun _ => ?_)
              refine q_iload_n d66_23 rfl ?_
              refine q_iconstN (z := 0) d66_24 ?_
              refine q_iconstN (z := 1) d66_25 ?_
              refine q_s3 d66_26 (Or.inl rfl) rfl (Nat.le_of_ble_eq_true rfl) (c10t ⟨by omega, by omega⟩ (by decide) ?_)
              refine n0_eq 43 d66_29 (by decide) (by decide) (fun q => absurd q (by decide)) (fun _ => ?_)
              refine q_iload d66_32 rfl ?_
              refine q_iconstN (z := 0) d66_34 ?_
              refine q_bipush (x := nI 9) d66_35 rfl ?_
              refine q_s3 d66_37 (Or.inl rfl) rfl (Nat.le_of_ble_eq_true rfl) (c10t ⟨by omega, by omega⟩ (by decide) ?_)
              refine n0_ne 46 d66_40 (by decide) (by decide) (fun _ => ?_) (fun q => absurd q (by decide))
              refine q_aload_n d66_46 rfl ?_
              refine q_getr (c := 7) (f := 4) d66_47 ⟨rfl, rfl⟩ (hS.1.1) (hS.1.2.2.2.2.2.2.1) ?_
              refine q_getr (c := 6) (f := 3) d66_50 ⟨rfl, rfl⟩ hwr.1 hwr.2.2.2.2.1 ?_
              refine q_iload_n d66_53 rfl ?_
              refine n_aald d66_54 hwr.2.2.2.2.2.1 (by decide) (by omega) (by decide) (hwr.2.2.2.2.2.2 _ (by omega)) ?_
              refine q_astore d66_55 (by decide) rfl ?_
              refine q_aload d66_57 rfl ?_
              refine q_getv (c := 5) (f := 0) d66_59 ⟨rfl, by decide⟩ hsg.1 q0 ?_
              refine n0_ne 68 d66_62 (by decide) (by omega) (fun h62 => ?_) (fun h62 => (False.elim (hg h62)))
              refine q_iload_n d66_68 rfl ?_
              refine n0_ne 80 d66_69 (by decide) (by decide) (fun _ => ?_) (fun q => absurd q (by decide))
              refine q_aload d66_80 rfl ?_
              refine q_getr (c := 5) (f := 11) d66_82 ⟨rfl, rfl⟩ hsg.1 (hsg.2.2.1 3 (by decide)) ?_
              refine q_astore d66_85 (by decide) rfl ?_
              refine q_aload d66_87 rfl ?_
              refine q_iload_n d66_89 rfl ?_
              refine n_iald d66_90 (hsg.2.2.2 4 (by decide)) (by omega) (by decide) (qb _ (by omega)).2.1 ?_
              refine q_istore d66_91 (by decide) rfl ?_
              refine q_aload d66_93 rfl ?_
              refine q_iload_n d66_95 rfl ?_
              refine q_iload d66_96 rfl ?_
              refine n_iast d66_98 (hsg.2.2.2 4 (by decide)) (by omega) (by decide) ?_
              refine q_iload d66_99 rfl ?_
              refine q_iret d66_101 rfl ?_
              have f0 : Fi (fun b _ => b = 70 + 8 * s + 5) M (zwi M (70 + 8 * s + 2 + 3) i (nI q)) := (Fi.refl _ _).wi rfl
              have f6 : Fi (FW 62) M (zwi M (70 + 8 * s + 2 + 3) i (nI q)) := f0.mono (fun b q e => ⟨by omega, by omega⟩)
              have hR1 : RS (zwi M (70 + 8 * s + 2 + 3) i (nI q)) (70 + 8 * s) (dT D) (yNm (dT D) (dW D) s) (gqS (dS D s) (yu (gq (dS D s)) i (nI q))) := RS_gq hRs2 (fun j hj => by
                by_cases e : j = i
                · subst e; rw [yu_s]; exact wi_s _ _ _ _
                · rw [yu_n e]; exact (wi_n (Or.inr e)).trans (qb j hj).2.1) f0
              have hW := RW_sg (X := dX D) (Or.inl ⟨rfl, rfl, rfl, rfl⟩) hRW hs hR1 (f0.fr.mono (fun b q e => ⟨by omega, by omega⟩))
              have hO2 : OKW (dT D) (dc D) (yss (dX D) s (gqS (dS D s) (yu (gq (dS D s)) i (nI q)))).1 := OKW_ss (X := dX D) hO hOs
              have hN : CN (zwi M (70 + 8 * s + 2 + 3) i (nI q)) 62 66 67 62 (dT D) (dc D) (yss (dX D) s (gqS (dS D s) (yu (gq (dS D s)) i (nI q)))) := CN_of (CW.up hR.1 hW hO2 f6) (fun r _ v _ => by
                show tu (dT D (gx (yu (dW D).2 s (gqS (dS D s) (yu (gq (dS D s)) i (nI q))) r))) v = tu (dT D (gx ((dW D).2 r))) v
                by_cases e : r = s
                · subst e; rw [yu_s]; rfl
                · rw [yu_n e])
              exact k _ (hR.wo hN f6) (FW.c f6)
          · rw [oz_n eq] at k
            refine q_iload_n d66_0 rfl ?_
            refine q_s1 d66_1 (Or.inl rfl) rfl (Nat.le_of_ble_eq_true rfl) (c60t (by omega) ?_)
            refine n0_eq 43 d66_4 (by decide) (by decide) (fun q => absurd q (by decide)) (fun _ => ?_)
            refine q_aload_n d66_7 rfl ?_
            refine q_getr (c := 7) (f := 4) d66_8 ⟨rfl, rfl⟩ (hS.1.1) (hS.1.2.2.2.2.2.2.1) ?_
            refine q_getr (c := 6) (f := 3) d66_11 ⟨rfl, rfl⟩ hwr.1 hwr.2.2.2.2.1 ?_
            refine q_iload_n d66_14 rfl ?_
            refine n_aald d66_15 hwr.2.2.2.2.2.1 (by decide) (by omega) (by decide) (hwr.2.2.2.2.2.2 _ (by omega)) ?_
            refine q_iload_n d66_16 rfl ?_
            refine q_v1 d66_17 rfl rfl hsg.1 (Nat.le_of_ble_eq_true rfl) (c67t hsg e2 (hS.pr (by omega)) (hT _ hx) hn hi ?_)
            refine n0_eq 43 d66_20 (by decide) (by decide) (fun q => absurd q (by decide)) (fun _ => ?_)
            refine q_iload_n d66_23 rfl ?_
            refine q_iconstN (z := 0) d66_24 ?_
            refine q_iconstN (z := 1) d66_25 ?_
            refine q_s3 d66_26 (Or.inl rfl) rfl (Nat.le_of_ble_eq_true rfl) (c10t ⟨by omega, by omega⟩ (by decide) ?_)
            refine n0_eq 43 d66_29 (by decide) (by decide) (fun q => absurd q (by decide)) (fun _ => ?_)
            refine q_iload d66_32 rfl ?_
            refine q_iconstN (z := 0) d66_34 ?_
            refine q_bipush (x := nI 9) d66_35 rfl ?_
            refine q_s3 d66_37 (Or.inl rfl) rfl (Nat.le_of_ble_eq_true rfl) (c10f (by decide) (by omega) (by decide) ?_)
            refine n0_ne 46 d66_40 (by decide) (by decide) (fun q => absurd q (by decide)) (fun _ => ?_)
            refine q_bipush (x := (-2)) d66_43 rfl ?_
            refine q_iret d66_45 rfl ?_
            exact k _ hR (Fc.refl _)
        · rw [oz_n ep] at k
          refine q_iload_n d66_0 rfl ?_
          refine q_s1 d66_1 (Or.inl rfl) rfl (Nat.le_of_ble_eq_true rfl) (c60t (by omega) ?_)
          refine n0_eq 43 d66_4 (by decide) (by decide) (fun q => absurd q (by decide)) (fun _ => ?_)
          refine q_aload_n d66_7 rfl ?_
          refine q_getr (c := 7) (f := 4) d66_8 ⟨rfl, rfl⟩ (hS.1.1) (hS.1.2.2.2.2.2.2.1) ?_
          refine q_getr (c := 6) (f := 3) d66_11 ⟨rfl, rfl⟩ hwr.1 hwr.2.2.2.2.1 ?_
          refine q_iload_n d66_14 rfl ?_
          refine n_aald d66_15 hwr.2.2.2.2.2.1 (by decide) (by omega) (by decide) (hwr.2.2.2.2.2.2 _ (by omega)) ?_
          refine q_iload_n d66_16 rfl ?_
          refine q_v1 d66_17 rfl rfl hsg.1 (Nat.le_of_ble_eq_true rfl) (c67t hsg e2 (hS.pr (by omega)) (hT _ hx) hn hi ?_)
          refine n0_eq 43 d66_20 (by decide) (by decide) (fun q => absurd q (by decide)) (fun _ => ?_)
          refine q_iload_n d66_23 rfl ?_
          refine q_iconstN (z := 0) d66_24 ?_
          refine q_iconstN (z := 1) d66_25 ?_
          refine q_s3 d66_26 (Or.inl rfl) rfl (Nat.le_of_ble_eq_true rfl) (c10f (by decide) (by omega) (by decide) ?_)
          refine n0_eq 43 d66_29 (by decide) (by decide) (fun _ => ?_) (fun q => absurd q (by decide))
          refine q_bipush (x := (-2)) d66_43 rfl ?_
          refine q_iret d66_45 rfl ?_
          exact k _ hR (Fc.refl _)
      · rw [oz_n ei] at k
        refine q_iload_n d66_0 rfl ?_
        refine q_s1 d66_1 (Or.inl rfl) rfl (Nat.le_of_ble_eq_true rfl) (c60t (by omega) ?_)
        refine n0_eq 43 d66_4 (by decide) (by decide) (fun q => absurd q (by decide)) (fun _ => ?_)
        refine q_aload_n d66_7 rfl ?_
        refine q_getr (c := 7) (f := 4) d66_8 ⟨rfl, rfl⟩ (hS.1.1) (hS.1.2.2.2.2.2.2.1) ?_
        refine q_getr (c := 6) (f := 3) d66_11 ⟨rfl, rfl⟩ hwr.1 hwr.2.2.2.2.1 ?_
        refine q_iload_n d66_14 rfl ?_
        refine n_aald d66_15 hwr.2.2.2.2.2.1 (by decide) (by omega) (by decide) (hwr.2.2.2.2.2.2 _ (by omega)) ?_
        refine q_iload_n d66_16 rfl ?_
        refine q_v1 d66_17 rfl rfl hsg.1 (Nat.le_of_ble_eq_true rfl) (c67f hsg e2 (hS.pr (by omega)) (hT _ hx) hn ei ?_)
        refine n0_eq 43 d66_20 (by decide) (by decide) (fun _ => ?_) (fun q => absurd q (by decide))
        refine q_bipush (x := (-2)) d66_43 rfl ?_
        refine q_iret d66_45 rfl ?_
        exact k _ hR (Fc.refl _)
  · rw [oz_n es] at k
    refine q_iload_n d66_0 rfl ?_
    refine q_s1 d66_1 (Or.inl rfl) rfl (Nat.le_of_ble_eq_true rfl) (c60f es ?_)
    refine n0_eq 43 d66_4 (by decide) (by decide) (fun _ => ?_) (fun q => absurd q (by decide))
    refine q_bipush (x := (-2)) d66_43 rfl ?_
    refine q_iret d66_45 rfl ?_
    exact k _ hR (Fc.refl _)
/-! ===== the calls of the class: film ===== -/
theorem CW.it {M M' : zM} {T : Nat → yT} {c h : Nat} {nm : Nat → Nat → Int32} {X : yX} (hC : CW M 94 94 99 95 T c nm X) (f : Fi (Fb 127 136) M M') : CW M' 94 94 99 95 T c nm X :=
  ⟨f.sc hC.1 (fun a k ha q => by have := q.1; omega), hC.2.1, RTx_fr hC.2.2.1 hC.2.2.2.1.1.1 f.fr (fun b k h1 h2 q => by have := q.1; omega), hC.2.2.2.1, RPu_fr hC.2.2.2.2.1 f.fr (fun b k h1 h2 q => by have := q.1; omega), fun s hs => RS_fr (hC.2.2.2.2.2.1 s hs) f.fr (fun b k h1 h2 q => by have := q.1; omega), RJ_fr hC.2.2.2.2.2.2 f.fr (fun b k h1 h2 q => by have := q.1; omega)⟩
theorem d120_0 : decode (zB 120) 0 = .ok (.iload_n 1, 1) := (congrArg (fun c => decode c 0) zeq120).trans (by decide +kernel)
theorem d120_1 : decode (zB 120) 1 = .ok (.invokestatic 245, 3) := (congrArg (fun c => decode c 1) zeq120).trans (by decide +kernel)
theorem d120_4 : decode (zB 120) 4 = .ok (.ifCond .eq 20, 3) := (congrArg (fun c => decode c 4) zeq120).trans (by decide +kernel)
theorem d120_7 : decode (zB 120) 7 = .ok (.iload_n 2, 1) := (congrArg (fun c => decode c 7) zeq120).trans (by decide +kernel)
theorem d120_8 : decode (zB 120) 8 = .ok (.invokestatic 202, 3) := (congrArg (fun c => decode c 8) zeq120).trans (by decide +kernel)
theorem d120_11 : decode (zB 120) 11 = .ok (.ifCond .eq 13, 3) := (congrArg (fun c => decode c 11) zeq120).trans (by decide +kernel)
theorem d120_14 : decode (zB 120) 14 = .ok (.iload_n 3, 1) := (congrArg (fun c => decode c 14) zeq120).trans (by decide +kernel)
theorem d120_15 : decode (zB 120) 15 = .ok (.iconst 0, 1) := (congrArg (fun c => decode c 15) zeq120).trans (by decide +kernel)
theorem d120_16 : decode (zB 120) 16 = .ok (.bipush 20, 2) := (congrArg (fun c => decode c 16) zeq120).trans (by decide +kernel)
theorem d120_18 : decode (zB 120) 18 = .ok (.invokestatic 55, 3) := (congrArg (fun c => decode c 18) zeq120).trans (by decide +kernel)
theorem d120_21 : decode (zB 120) 21 = .ok (.ifCond .ne 6, 3) := (congrArg (fun c => decode c 21) zeq120).trans (by decide +kernel)
theorem d120_24 : decode (zB 120) 24 = .ok (.bipush (-2), 2) := (congrArg (fun c => decode c 24) zeq120).trans (by decide +kernel)
theorem d120_26 : decode (zB 120) 26 = .ok (.ireturn, 1) := (congrArg (fun c => decode c 26) zeq120).trans (by decide +kernel)
theorem d120_27 : decode (zB 120) 27 = .ok (.aload_n 0, 1) := (congrArg (fun c => decode c 27) zeq120).trans (by decide +kernel)
theorem d120_28 : decode (zB 120) 28 = .ok (.getfield 46, 3) := (congrArg (fun c => decode c 28) zeq120).trans (by decide +kernel)
theorem d120_31 : decode (zB 120) 31 = .ok (.iload_n 1, 1) := (congrArg (fun c => decode c 31) zeq120).trans (by decide +kernel)
theorem d120_32 : decode (zB 120) 32 = .ok (.aaload, 1) := (congrArg (fun c => decode c 32) zeq120).trans (by decide +kernel)
theorem d120_33 : decode (zB 120) 33 = .ok (.astore 4, 2) := (congrArg (fun c => decode c 33) zeq120).trans (by decide +kernel)
theorem d120_35 : decode (zB 120) 35 = .ok (.aload 4, 2) := (congrArg (fun c => decode c 35) zeq120).trans (by decide +kernel)
theorem d120_37 : decode (zB 120) 37 = .ok (.iconst 1, 1) := (congrArg (fun c => decode c 37) zeq120).trans (by decide +kernel)
theorem d120_38 : decode (zB 120) 38 = .ok (.iload_n 3, 1) := (congrArg (fun c => decode c 38) zeq120).trans (by decide +kernel)
theorem d120_39 : decode (zB 120) 39 = .ok (.invokevirtual 272, 3) := (congrArg (fun c => decode c 39) zeq120).trans (by decide +kernel)
theorem d120_42 : decode (zB 120) 42 = .ok (.aload_n 0, 1) := (congrArg (fun c => decode c 42) zeq120).trans (by decide +kernel)
theorem d120_43 : decode (zB 120) 43 = .ok (.getfield 41, 3) := (congrArg (fun c => decode c 43) zeq120).trans (by decide +kernel)
theorem d120_46 : decode (zB 120) 46 = .ok (.aload_n 0, 1) := (congrArg (fun c => decode c 46) zeq120).trans (by decide +kernel)
theorem d120_47 : decode (zB 120) 47 = .ok (.getfield 37, 3) := (congrArg (fun c => decode c 47) zeq120).trans (by decide +kernel)
theorem d120_50 : decode (zB 120) 50 = .ok (.invokevirtual 227, 3) := (congrArg (fun c => decode c 50) zeq120).trans (by decide +kernel)
theorem d120_53 : decode (zB 120) 53 = .ok (.iconst 0, 1) := (congrArg (fun c => decode c 53) zeq120).trans (by decide +kernel)
theorem d120_54 : decode (zB 120) 54 = .ok (.istore 5, 2) := (congrArg (fun c => decode c 54) zeq120).trans (by decide +kernel)
theorem d120_56 : decode (zB 120) 56 = .ok (.iload 5, 2) := (congrArg (fun c => decode c 56) zeq120).trans (by decide +kernel)
theorem d120_58 : decode (zB 120) 58 = .ok (.iload_n 3, 1) := (congrArg (fun c => decode c 58) zeq120).trans (by decide +kernel)
theorem d120_59 : decode (zB 120) 59 = .ok (.if_icmp .ge 35, 3) := (congrArg (fun c => decode c 59) zeq120).trans (by decide +kernel)
theorem d120_62 : decode (zB 120) 62 = .ok (.aload_n 0, 1) := (congrArg (fun c => decode c 62) zeq120).trans (by decide +kernel)
theorem d120_63 : decode (zB 120) 63 = .ok (.getfield 41, 3) := (congrArg (fun c => decode c 63) zeq120).trans (by decide +kernel)
theorem d120_66 : decode (zB 120) 66 = .ok (.invokevirtual 175, 3) := (congrArg (fun c => decode c 66) zeq120).trans (by decide +kernel)
theorem d120_69 : decode (zB 120) 69 = .ok (.aload 4, 2) := (congrArg (fun c => decode c 69) zeq120).trans (by decide +kernel)
theorem d120_71 : decode (zB 120) 71 = .ok (.iload 5, 2) := (congrArg (fun c => decode c 71) zeq120).trans (by decide +kernel)
theorem d120_73 : decode (zB 120) 73 = .ok (.aload_n 0, 1) := (congrArg (fun c => decode c 73) zeq120).trans (by decide +kernel)
theorem d120_74 : decode (zB 120) 74 = .ok (.getfield 41, 3) := (congrArg (fun c => decode c 74) zeq120).trans (by decide +kernel)
theorem d120_77 : decode (zB 120) 77 = .ok (.getfield 94, 3) := (congrArg (fun c => decode c 77) zeq120).trans (by decide +kernel)
theorem d120_80 : decode (zB 120) 80 = .ok (.getfield 205, 3) := (congrArg (fun c => decode c 80) zeq120).trans (by decide +kernel)
theorem d120_83 : decode (zB 120) 83 = .ok (.iload_n 2, 1) := (congrArg (fun c => decode c 83) zeq120).trans (by decide +kernel)
theorem d120_84 : decode (zB 120) 84 = .ok (.iaload, 1) := (congrArg (fun c => decode c 84) zeq120).trans (by decide +kernel)
theorem d120_85 : decode (zB 120) 85 = .ok (.invokevirtual 276, 3) := (congrArg (fun c => decode c 85) zeq120).trans (by decide +kernel)
theorem d120_88 : decode (zB 120) 88 = .ok (.iinc 5 1, 3) := (congrArg (fun c => decode c 88) zeq120).trans (by decide +kernel)
theorem d120_91 : decode (zB 120) 91 = .ok (.goto (-35), 3) := (congrArg (fun c => decode c 91) zeq120).trans (by decide +kernel)
theorem d120_94 : decode (zB 120) 94 = .ok (.iload_n 3, 1) := (congrArg (fun c => decode c 94) zeq120).trans (by decide +kernel)
theorem d120_95 : decode (zB 120) 95 = .ok (.ireturn, 1) := (congrArg (fun c => decode c 95) zeq120).trans (by decide +kernel)
theorem l120 {d : Nat} {Q : Option Value → zM → Prop} {D : yD} {M0 : zM} {n h a : Nat} {nm : Nat → Nat → Int32} (hh : h < 4) (ha : a < 6) (hn : n ≤ 20) (hz : (dR D h).2 = n) (k : ∀ M', RC M' D → Fc M0 M' → Q (some (.int (nI n))) M') : ∀ (r i : Nat) (M1 : zM) (X1 : yX), i ≤ n → n < i + r →  RC M1 D → CW M1 94 94 99 95 (dT D) (dc D) nm X1 → Fc M0 M1 → qW (zEv (d + 5)) 120 Q 56 [(5, .int (nI i)), (4, .ref (127 + 2 * h)), (0, .ref 16), (1, .int (nI h)), (2, .int (nI a)), (3, .int (nI n))] [] M1 := by
  intro r
  induction r with
  | zero => intros; omega
  | succ r ih =>
    intro i M1 X1 h1 h2 hR1 hC1 hF
    refine q_iload d120_56 rfl ?_
    refine q_iload_n d120_58 rfl ?_
    refine nc_ge 94 d120_59 (by decide) (by omega) (by omega) (fun h59 => ?_) (fun h59 => ?_)
    · refine q_iload_n d120_94 rfl ?_
      refine q_iret d120_95 rfl ?_
      exact k _ hR1 hF
    · refine q_aload_n d120_62 rfl ?_
      refine q_getr (c := 7) (f := 5) d120_63 ⟨rfl, rfl⟩ (hC1.1.1.1) (hC1.1.1.2.2.2.2.2.2.2.1) ?_
      refine q_v0 d120_66 rfl rfl (hC1.1.wo (Or.inr ⟨rfl, rfl, rfl, rfl⟩)).1 (Nat.le_of_ble_eq_true rfl) (c69 hC1 hC1.l0 (fun M2 hC2 f2 => ?_))
      have ht2 := hR1.th hC2.1 f2.fr
      refine q_aload d120_69 rfl ?_
      refine q_iload d120_71 rfl ?_
      refine q_aload_n d120_73 rfl ?_
      refine q_getr (c := 7) (f := 5) d120_74 ⟨rfl, rfl⟩ (hC2.1.1.1) (hC2.1.1.2.2.2.2.2.2.2.1) ?_
      refine q_getr (c := 6) (f := 2) d120_77 ⟨rfl, rfl⟩ (hC2.1.wo (Or.inr ⟨rfl, rfl, rfl, rfl⟩)).1 (hC2.1.wo (Or.inr ⟨rfl, rfl, rfl, rfl⟩)).2.2.2.1 ?_
      refine q_getr (c := 2) (f := 0) d120_80 ⟨rfl, rfl⟩ (hC2.1.pu (Or.inr ⟨rfl, rfl, rfl, rfl⟩)).1 (hC2.1.pu (Or.inr ⟨rfl, rfl, rfl, rfl⟩)).2.1 ?_
      refine q_iload_n d120_83 rfl ?_
      refine n_iald d120_84 (hC2.1.pu (Or.inr ⟨rfl, rfl, rfl, rfl⟩)).2.2 (by omega) (by decide) (hC2.2.2.2.2.1.1 _ (by omega)) ?_
      refine q_v2 d120_85 rfl rfl (hC2.1.2.2.2.2.2.2.2.2.2.2.2.1 h (by omega)).1 (Nat.le_of_ble_eq_true rfl) (c122 (n := n) (hC2.1.2.2.2.2.2.2.2.2.2.2.2.1 h (by omega)) ((ht2.1.2.2.2 h hh).2.trans (by rw [hz])) (by omega) (by omega) (fun M3 f3 => ?_))
      have hR3 := ht2.1.items hh f3
      have hC3 := hC2.it (h := h) (f3.mono (fun b q e => ⟨by omega, by omega⟩))
      refine n_iinc 1 d120_88 (by decide) rfl rfl ?_
      refine q_goto 56 d120_91 (by decide) ?_
      exact ih (i + 1) _ _ (by omega) (by omega) hR3 hC3 (hF.trans (ht2.2.trans (f3.fr.c (fun b q hb e => by omega))))
theorem p120 {d : Nat} {M : zM} {Q : Option Value → zM → Prop} {D : yD} {x y z : Int32} (hR : RC M D) (hD : OKD D) (k : ∀ M', RC M' (sFilm D x y z).2 → Fc M M' → Q (some (.int (sFilm D x y z).1)) M') : qC (d + 6) 120 [.ref 16, .int x, .int y, .int z] M Q := by
  refine qC_of (by decide) (Nat.le_of_ble_eq_true rfl) ?_
  have hS := hR.1.1
  have hT := hR.1.2.2.1
  have hO := hR.1.2.2.2.1
  have hRW := hR.1.2.2.2.2
  have hJ : RL M 62 (dL D) := hRW.2.2.2
  have hc6 := hO.1.1
  have h240 := hD.2.1
  have h120 := hR.2.2.1.1
  have hwr := hS.wo (Or.inl ⟨rfl, rfl, rfl, rfl⟩)
  have hwt := hS.wo (Or.inr ⟨rfl, rfl, rfl, rfl⟩)
  have hpr := hS.pu (Or.inl ⟨rfl, rfl, rfl, rfl⟩)
  have hpt := hS.pu (Or.inr ⟨rfl, rfl, rfl, rfl⟩)
  unfold sFilm at k
  rcases zix_c x (n := 4) (by omega) with ⟨h, hh, rfl, eh⟩ | ⟨eh, nh⟩
  · rw [oz_s eh] at k
    rcases zix_c y (n := 6) (by omega) with ⟨a, ha, rfl, ea⟩ | ⟨ea, na⟩
    · rw [oz_s ea] at k
      rcases zix_c z (n := 21) (by omega) with ⟨n, hn, rfl, en⟩ | ⟨en, nn⟩
      · rw [oz_s en] at k
        refine q_iload_n d120_0 rfl ?_
        refine q_s1 d120_1 (Or.inl rfl) rfl (Nat.le_of_ble_eq_true rfl) (c113t (by omega) ?_)
        refine n0_eq 24 d120_4 (by decide) (by decide) (fun q => absurd q (by decide)) (fun _ => ?_)
        refine q_iload_n d120_7 rfl ?_
        refine q_s1 d120_8 (Or.inl rfl) rfl (Nat.le_of_ble_eq_true rfl) (c26t (by omega) ?_)
        refine n0_eq 24 d120_11 (by decide) (by decide) (fun q => absurd q (by decide)) (fun _ => ?_)
        refine q_iload_n d120_14 rfl ?_
        refine q_iconstN (z := 0) d120_15 ?_
        refine q_bipush (x := nI 20) d120_16 rfl ?_
        refine q_s3 d120_18 (Or.inl rfl) rfl (Nat.le_of_ble_eq_true rfl) (c10t ⟨by omega, by omega⟩ (by decide) ?_)
        refine n0_ne 27 d120_21 (by decide) (by decide) (fun _ => ?_) (fun q => absurd q (by decide))
        refine q_aload_n d120_27 rfl ?_
        refine q_getr (c := 7) (f := 6) d120_28 ⟨rfl, rfl⟩ (hS.1.1) (hS.1.2.2.2.2.2.2.2.2.1) ?_
        refine q_iload_n d120_31 rfl ?_
        refine n_aald d120_32 (hS.1.2.2.2.2.2.2.2.2.2.1) (by decide) (by omega) (by decide) ((hS.1.2.2.2.2.2.2.2.2.2.2.1) _ (by omega)) ?_
        refine q_astore d120_33 (by decide) rfl ?_
        refine q_aload d120_35 rfl ?_
        refine q_iconstN (z := 1) d120_37 ?_
        refine q_iload_n d120_38 rfl ?_
        refine q_v2 d120_39 rfl rfl (hS.2.2.2.2.2.2.2.2.2.2.2.1 _ (by omega)).1 (Nat.le_of_ble_eq_true rfl) (c121 (so := nI 1) (n := n) (hS.2.2.2.2.2.2.2.2.2.2.2.1 h (by omega)) (by omega) (fun M1 h1 h2 f1 => ?_))
        have hR1 := hR.row hh f1 h1 h2
        have hS1 := hR1.1.1
        refine q_aload_n d120_42 rfl ?_
        refine q_getr (c := 7) (f := 5) d120_43 ⟨rfl, rfl⟩ (hS1.1.1) (hS1.1.2.2.2.2.2.2.2.1) ?_
        refine q_aload_n d120_46 rfl ?_
        refine q_getr (c := 7) (f := 4) d120_47 ⟨rfl, rfl⟩ (hS1.1.1) (hS1.1.2.2.2.2.2.2.1) ?_
        refine q_v1 d120_50 rfl rfl (hS1.wo (Or.inr ⟨rfl, rfl, rfl, rfl⟩)).1 (Nat.le_of_ble_eq_true rfl) (c101 (nm := dnm D) (X := dX D) hR1.1 (fun M2 hC2 f2 => ?_))
        have ht2 := hR1.th hC2.1 (f2.mono (fun b q e => ⟨by have := e.1; omega, by have := e.2; omega⟩))
        refine q_iconstN (z := 0) d120_53 ?_
        refine q_istore d120_54 (by decide) rfl ?_
        exact l120 (D := drS D (yu (dR D) h (nI 1, n))) (nm := dnm D) (X1 := ((dW D), none)) hh ha (by omega) (by show (yu (dR D) h (nI 1, n) h).2 = n; rw [yu_s]) (fun M' g1 g2 => k M' g1 g2) (n + 1) 0 M2 (by omega) (by omega) ht2.1 hC2 ((f1.fr.c (fun b q hb e => by have := e.1; have := e.2; omega)).trans ht2.2)
      · rw [oz_n en] at k
        refine q_iload_n d120_0 rfl ?_
        refine q_s1 d120_1 (Or.inl rfl) rfl (Nat.le_of_ble_eq_true rfl) (c113t (by omega) ?_)
        refine n0_eq 24 d120_4 (by decide) (by decide) (fun q => absurd q (by decide)) (fun _ => ?_)
        refine q_iload_n d120_7 rfl ?_
        refine q_s1 d120_8 (Or.inl rfl) rfl (Nat.le_of_ble_eq_true rfl) (c26t (by omega) ?_)
        refine n0_eq 24 d120_11 (by decide) (by decide) (fun q => absurd q (by decide)) (fun _ => ?_)
        refine q_iload_n d120_14 rfl ?_
        refine q_iconstN (z := 0) d120_15 ?_
        refine q_bipush (x := nI 20) d120_16 rfl ?_
        refine q_s3 d120_18 (Or.inl rfl) rfl (Nat.le_of_ble_eq_true rfl) (c10f (by decide) (by omega) (by decide) ?_)
        refine n0_ne 27 d120_21 (by decide) (by decide) (fun q => absurd q (by decide)) (fun _ => ?_)
        refine q_bipush (x := (-2)) d120_24 rfl ?_
        refine q_iret d120_26 rfl ?_
        exact k _ hR (Fc.refl _)
    · rw [oz_n ea] at k
      refine q_iload_n d120_0 rfl ?_
      refine q_s1 d120_1 (Or.inl rfl) rfl (Nat.le_of_ble_eq_true rfl) (c113t (by omega) ?_)
      refine n0_eq 24 d120_4 (by decide) (by decide) (fun q => absurd q (by decide)) (fun _ => ?_)
      refine q_iload_n d120_7 rfl ?_
      refine q_s1 d120_8 (Or.inl rfl) rfl (Nat.le_of_ble_eq_true rfl) (c26f ea ?_)
      refine n0_eq 24 d120_11 (by decide) (by decide) (fun _ => ?_) (fun q => absurd q (by decide))
      refine q_bipush (x := (-2)) d120_24 rfl ?_
      refine q_iret d120_26 rfl ?_
      exact k _ hR (Fc.refl _)
  · rw [oz_n eh] at k
    refine q_iload_n d120_0 rfl ?_
    refine q_s1 d120_1 (Or.inl rfl) rfl (Nat.le_of_ble_eq_true rfl) (c113f eh ?_)
    refine n0_eq 24 d120_4 (by decide) (by decide) (fun _ => ?_) (fun q => absurd q (by decide))
    refine q_bipush (x := (-2)) d120_24 rfl ?_
    refine q_iret d120_26 rfl ?_
    exact k _ hR (Fc.refl _)
/-! ===== the calls of the class: feed, text ===== -/
/-- the tape's cells change -/
theorem RC.tape {M M' : zM} {D : yD} {n : Nat} {b : Nat → Nat} (hR : RC M D) (ht : RTp M' n b) (f : Fi (fun a k => (a = 17 ∧ k = 1) ∨ a = 18) M M') : RC M' (dtS D n b) := by
  have hS' : SC M' := f.sc hR.1.1 (fun a k ha q => by omega)
  obtain ⟨⟨a1, a2, a3, a4, a5⟩, a6, a7, a8⟩ := hR
  exact ⟨⟨hS', a2, RTx_fr a3 a4.1.1 f.fr (fun b k b1 b2 q => by omega), a4, ⟨RPu_fr a5.1 f.fr (fun b k b1 b2 q => by omega), fun s hs3 => RS_fr (a5.2.1 s hs3) f.fr (fun b k b1 b2 q => by omega), RJ_fr a5.2.2 f.fr (fun b k b1 b2 q => by omega)⟩⟩,
    (f.1 _ _ (fun q => by omega)).trans a6, ht, fun i hi => ⟨(f.1 _ _ (fun q => by omega)).trans (a8 i hi).1, (f.1 _ _ (fun q => by omega)).trans (a8 i hi).2⟩⟩
theorem yfd_0 (D : yD) (a b c e f : Nat) : yfd D 0 a b c e f = D := by
  unfold yfd dtS
  have : (fun i => if dn D ≤ i ∧ i < dn D + 0 then yby (i - dn D) a b c e f else db D i) = db D := by
    funext i; rw [if_neg (by omega)]
  rw [this]
  rfl
theorem yfd_s {D : yD} {i v a b c e f : Nat} (hv : v = yby i a b c e f) : dtS (yfd D i a b c e f) (dn (yfd D i a b c e f) + 1) (yu (db (yfd D i a b c e f)) (dn (yfd D i a b c e f)) v) = yfd D (i + 1) a b c e f := by
  have : (yu (db (yfd D i a b c e f)) (dn (yfd D i a b c e f)) v) = (fun j => if dn D ≤ j ∧ j < dn D + (i + 1) then yby (j - dn D) a b c e f else db D j) := by
    funext j
    show (if j = dn D + i then v else if dn D ≤ j ∧ j < dn D + i then yby (j - dn D) a b c e f else db D j) = _
    by_cases h : j = dn D + i
    · rw [if_pos h, if_pos (by omega), hv, h, show dn D + i - dn D = i by omega]
    · rw [if_neg h]
      by_cases h2 : dn D ≤ j ∧ j < dn D + i
      · rw [if_pos h2, if_pos (by omega)]
      · rw [if_neg h2, if_neg (by omega)]
  rw [this]
  rfl
theorem RC.fed {M M' : zM} {D : yD} {i v a b c e f : Nat} (hR : RC M (yfd D i a b c e f)) (ht : RTp M' (dn (yfd D i a b c e f) + 1) (yu (db (yfd D i a b c e f)) (dn (yfd D i a b c e f)) v)) (hv : v = yby i a b c e f) (g : Fi (fun a k => (a = 17 ∧ k = 1) ∨ a = 18) M M') : RC M' (yfd D (i + 1) a b c e f) := by
  have h := hR.tape ht g
  rw [yfd_s hv] at h
  exact h
theorem d9_0 : decode (zB 9) 0 = .ok (.iload_n 1, 1) := (congrArg (fun c => decode c 0) zeq9).trans (by decide +kernel)
theorem d9_1 : decode (zB 9) 1 = .ok (.iconst 1, 1) := (congrArg (fun c => decode c 1) zeq9).trans (by decide +kernel)
theorem d9_2 : decode (zB 9) 2 = .ok (.iconst 5, 1) := (congrArg (fun c => decode c 2) zeq9).trans (by decide +kernel)
theorem d9_3 : decode (zB 9) 3 = .ok (.invokestatic 55, 3) := (congrArg (fun c => decode c 3) zeq9).trans (by decide +kernel)
theorem d9_6 : decode (zB 9) 6 = .ok (.ifCond .eq 41, 3) := (congrArg (fun c => decode c 6) zeq9).trans (by decide +kernel)
theorem d9_9 : decode (zB 9) 9 = .ok (.iload_n 2, 1) := (congrArg (fun c => decode c 9) zeq9).trans (by decide +kernel)
theorem d9_10 : decode (zB 9) 10 = .ok (.invokestatic 59, 3) := (congrArg (fun c => decode c 10) zeq9).trans (by decide +kernel)
theorem d9_13 : decode (zB 9) 13 = .ok (.ifCond .eq 34, 3) := (congrArg (fun c => decode c 13) zeq9).trans (by decide +kernel)
theorem d9_16 : decode (zB 9) 16 = .ok (.iload_n 3, 1) := (congrArg (fun c => decode c 16) zeq9).trans (by decide +kernel)
theorem d9_17 : decode (zB 9) 17 = .ok (.invokestatic 59, 3) := (congrArg (fun c => decode c 17) zeq9).trans (by decide +kernel)
theorem d9_20 : decode (zB 9) 20 = .ok (.ifCond .eq 27, 3) := (congrArg (fun c => decode c 20) zeq9).trans (by decide +kernel)
theorem d9_23 : decode (zB 9) 23 = .ok (.iload 4, 2) := (congrArg (fun c => decode c 23) zeq9).trans (by decide +kernel)
theorem d9_25 : decode (zB 9) 25 = .ok (.invokestatic 59, 3) := (congrArg (fun c => decode c 25) zeq9).trans (by decide +kernel)
theorem d9_28 : decode (zB 9) 28 = .ok (.ifCond .eq 19, 3) := (congrArg (fun c => decode c 28) zeq9).trans (by decide +kernel)
theorem d9_31 : decode (zB 9) 31 = .ok (.iload 5, 2) := (congrArg (fun c => decode c 31) zeq9).trans (by decide +kernel)
theorem d9_33 : decode (zB 9) 33 = .ok (.invokestatic 59, 3) := (congrArg (fun c => decode c 33) zeq9).trans (by decide +kernel)
theorem d9_36 : decode (zB 9) 36 = .ok (.ifCond .eq 11, 3) := (congrArg (fun c => decode c 36) zeq9).trans (by decide +kernel)
theorem d9_39 : decode (zB 9) 39 = .ok (.iload 6, 2) := (congrArg (fun c => decode c 39) zeq9).trans (by decide +kernel)
theorem d9_41 : decode (zB 9) 41 = .ok (.invokestatic 59, 3) := (congrArg (fun c => decode c 41) zeq9).trans (by decide +kernel)
theorem d9_44 : decode (zB 9) 44 = .ok (.ifCond .ne 6, 3) := (congrArg (fun c => decode c 44) zeq9).trans (by decide +kernel)
theorem d9_47 : decode (zB 9) 47 = .ok (.bipush (-2), 2) := (congrArg (fun c => decode c 47) zeq9).trans (by decide +kernel)
theorem d9_49 : decode (zB 9) 49 = .ok (.ireturn, 1) := (congrArg (fun c => decode c 49) zeq9).trans (by decide +kernel)
theorem d9_50 : decode (zB 9) 50 = .ok (.aload_n 0, 1) := (congrArg (fun c => decode c 50) zeq9).trans (by decide +kernel)
theorem d9_51 : decode (zB 9) 51 = .ok (.getfield 10, 3) := (congrArg (fun c => decode c 51) zeq9).trans (by decide +kernel)
theorem d9_54 : decode (zB 9) 54 = .ok (.getfield 63, 3) := (congrArg (fun c => decode c 54) zeq9).trans (by decide +kernel)
theorem d9_57 : decode (zB 9) 57 = .ok (.iload_n 1, 1) := (congrArg (fun c => decode c 57) zeq9).trans (by decide +kernel)
theorem d9_58 : decode (zB 9) 58 = .ok (.iadd, 1) := (congrArg (fun c => decode c 58) zeq9).trans (by decide +kernel)
theorem d9_59 : decode (zB 9) 59 = .ok (.bipush 120, 2) := (congrArg (fun c => decode c 59) zeq9).trans (by decide +kernel)
theorem d9_61 : decode (zB 9) 61 = .ok (.if_icmp .le 6, 3) := (congrArg (fun c => decode c 61) zeq9).trans (by decide +kernel)
theorem d9_64 : decode (zB 9) 64 = .ok (.bipush (-4), 2) := (congrArg (fun c => decode c 64) zeq9).trans (by decide +kernel)
theorem d9_66 : decode (zB 9) 66 = .ok (.ireturn, 1) := (congrArg (fun c => decode c 66) zeq9).trans (by decide +kernel)
theorem d9_67 : decode (zB 9) 67 = .ok (.iconst 0, 1) := (congrArg (fun c => decode c 67) zeq9).trans (by decide +kernel)
theorem d9_68 : decode (zB 9) 68 = .ok (.istore 7, 2) := (congrArg (fun c => decode c 68) zeq9).trans (by decide +kernel)
theorem d9_70 : decode (zB 9) 70 = .ok (.iload 7, 2) := (congrArg (fun c => decode c 70) zeq9).trans (by decide +kernel)
theorem d9_72 : decode (zB 9) 72 = .ok (.iload_n 1, 1) := (congrArg (fun c => decode c 72) zeq9).trans (by decide +kernel)
theorem d9_73 : decode (zB 9) 73 = .ok (.if_icmp .ge 59, 3) := (congrArg (fun c => decode c 73) zeq9).trans (by decide +kernel)
theorem d9_76 : decode (zB 9) 76 = .ok (.aload_n 0, 1) := (congrArg (fun c => decode c 76) zeq9).trans (by decide +kernel)
theorem d9_77 : decode (zB 9) 77 = .ok (.getfield 10, 3) := (congrArg (fun c => decode c 77) zeq9).trans (by decide +kernel)
theorem d9_80 : decode (zB 9) 80 = .ok (.iload 7, 2) := (congrArg (fun c => decode c 80) zeq9).trans (by decide +kernel)
theorem d9_82 : decode (zB 9) 82 = .ok (.ifCond .ne 7, 3) := (congrArg (fun c => decode c 82) zeq9).trans (by decide +kernel)
theorem d9_85 : decode (zB 9) 85 = .ok (.iload_n 2, 1) := (congrArg (fun c => decode c 85) zeq9).trans (by decide +kernel)
theorem d9_86 : decode (zB 9) 86 = .ok (.goto 37, 3) := (congrArg (fun c => decode c 86) zeq9).trans (by decide +kernel)
theorem d9_89 : decode (zB 9) 89 = .ok (.iload 7, 2) := (congrArg (fun c => decode c 89) zeq9).trans (by decide +kernel)
theorem d9_91 : decode (zB 9) 91 = .ok (.iconst 1, 1) := (congrArg (fun c => decode c 91) zeq9).trans (by decide +kernel)
theorem d9_92 : decode (zB 9) 92 = .ok (.if_icmp .ne 7, 3) := (congrArg (fun c => decode c 92) zeq9).trans (by decide +kernel)
theorem d9_95 : decode (zB 9) 95 = .ok (.iload_n 3, 1) := (congrArg (fun c => decode c 95) zeq9).trans (by decide +kernel)
theorem d9_96 : decode (zB 9) 96 = .ok (.goto 27, 3) := (congrArg (fun c => decode c 96) zeq9).trans (by decide +kernel)
theorem d9_99 : decode (zB 9) 99 = .ok (.iload 7, 2) := (congrArg (fun c => decode c 99) zeq9).trans (by decide +kernel)
theorem d9_101 : decode (zB 9) 101 = .ok (.iconst 2, 1) := (congrArg (fun c => decode c 101) zeq9).trans (by decide +kernel)
theorem d9_102 : decode (zB 9) 102 = .ok (.if_icmp .ne 8, 3) := (congrArg (fun c => decode c 102) zeq9).trans (by decide +kernel)
theorem d9_105 : decode (zB 9) 105 = .ok (.iload 4, 2) := (congrArg (fun c => decode c 105) zeq9).trans (by decide +kernel)
theorem d9_107 : decode (zB 9) 107 = .ok (.goto 16, 3) := (congrArg (fun c => decode c 107) zeq9).trans (by decide +kernel)
theorem d9_110 : decode (zB 9) 110 = .ok (.iload 7, 2) := (congrArg (fun c => decode c 110) zeq9).trans (by decide +kernel)
theorem d9_112 : decode (zB 9) 112 = .ok (.iconst 3, 1) := (congrArg (fun c => decode c 112) zeq9).trans (by decide +kernel)
theorem d9_113 : decode (zB 9) 113 = .ok (.if_icmp .ne 8, 3) := (congrArg (fun c => decode c 113) zeq9).trans (by decide +kernel)
theorem d9_116 : decode (zB 9) 116 = .ok (.iload 5, 2) := (congrArg (fun c => decode c 116) zeq9).trans (by decide +kernel)
theorem d9_118 : decode (zB 9) 118 = .ok (.goto 5, 3) := (congrArg (fun c => decode c 118) zeq9).trans (by decide +kernel)
theorem d9_121 : decode (zB 9) 121 = .ok (.iload 6, 2) := (congrArg (fun c => decode c 121) zeq9).trans (by decide +kernel)
theorem d9_123 : decode (zB 9) 123 = .ok (.invokevirtual 67, 3) := (congrArg (fun c => decode c 123) zeq9).trans (by decide +kernel)
theorem d9_126 : decode (zB 9) 126 = .ok (.iinc 7 1, 3) := (congrArg (fun c => decode c 126) zeq9).trans (by decide +kernel)
theorem d9_129 : decode (zB 9) 129 = .ok (.goto (-59), 3) := (congrArg (fun c => decode c 129) zeq9).trans (by decide +kernel)
theorem d9_132 : decode (zB 9) 132 = .ok (.aload_n 0, 1) := (congrArg (fun c => decode c 132) zeq9).trans (by decide +kernel)
theorem d9_133 : decode (zB 9) 133 = .ok (.getfield 10, 3) := (congrArg (fun c => decode c 133) zeq9).trans (by decide +kernel)
theorem d9_136 : decode (zB 9) 136 = .ok (.getfield 63, 3) := (congrArg (fun c => decode c 136) zeq9).trans (by decide +kernel)
theorem d9_139 : decode (zB 9) 139 = .ok (.ireturn, 1) := (congrArg (fun c => decode c 139) zeq9).trans (by decide +kernel)
theorem l9 {d : Nat} {Q : Option Value → zM → Prop} {D : yD} {M0 : zM} {n a b c e f : Nat} (hn : n ≤ 5) (h120 : dn D + n ≤ 120) (ha : a < 256) (hb : b < 256) (hc : c < 256) (he : e < 256) (hf : f < 256) (k : ∀ M', RC M' (yfd D n a b c e f) → Fc M0 M' → Q (some (.int (nI (dn D + n)))) M') : ∀ (r i : Nat) (M1 : zM), i ≤ n → n < i + r →  RC M1 (yfd D i a b c e f) → Fc M0 M1 → qW (zEv (d + 2)) 9 Q 70 [(7, .int (nI i)), (0, .ref 16), (1, .int (nI n)), (2, .int (nI a)), (3, .int (nI b)), (4, .int (nI c)), (5, .int (nI e)), (6, .int (nI f))] [] M1 := by
  intro r
  induction r with
  | zero => intros; omega
  | succ r ih =>
    intro i M1 h1 h2 hR1 hF
    refine q_iload d9_70 rfl ?_
    refine q_iload_n d9_72 rfl ?_
    refine nc_ge 132 d9_73 (by decide) (by omega) (by omega) (fun h73 => ?_) (fun h73 => ?_)
    · refine q_aload_n d9_132 rfl ?_
      refine q_getr (c := 7) (f := 0) d9_133 ⟨rfl, rfl⟩ (hR1.1.1.1.1) (hR1.1.1.1.2.1) ?_
      refine q_getv (c := 3) (f := 1) d9_136 ⟨rfl, by decide⟩ hR1.1.1.2.1.1 hR1.2.2.1.2.1 ?_
      refine q_iret d9_139 rfl ?_
      have e9 : i = n := by omega
      rw [e9] at hR1 ⊢
      exact k _ hR1 hF
    · refine q_aload_n d9_76 rfl ?_
      refine q_getr (c := 7) (f := 0) d9_77 ⟨rfl, rfl⟩ (hR1.1.1.1.1) (hR1.1.1.1.2.1) ?_
      refine q_iload d9_80 rfl ?_
      refine n0_ne 89 d9_82 (by decide) (by omega) (fun h82 => ?_) (fun h82 => ?_)
      · refine q_iload d9_89 rfl ?_
        refine q_iconstN (z := 1) d9_91 ?_
        refine nc_ne 99 d9_92 (by decide) (by omega) (by omega) (fun h92 => ?_) (fun h92 => ?_)
        · refine q_iload d9_99 rfl ?_
          refine q_iconstN (z := 2) d9_101 ?_
          refine nc_ne 110 d9_102 (by decide) (by omega) (by omega) (fun h102 => ?_) (fun h102 => ?_)
          · refine q_iload d9_110 rfl ?_
            refine q_iconstN (z := 3) d9_112 ?_
            refine nc_ne 121 d9_113 (by decide) (by omega) (by omega) (fun h113 => ?_) (fun h113 => ?_)
            · refine q_iload d9_121 rfl ?_
              refine q_v1 d9_123 rfl rfl hR1.1.1.2.1.1 (Nat.le_of_ble_eq_true rfl) (c12 hR1.1.1.2.1 hR1.2.2.1 (by show dn D + i < 120; omega) (by omega) (fun M2 t2 f2 => ?_))
              have hR2 := hR1.fed (i := i) t2 (by unfold yby; (repeat' split) <;> first | rfl | (exfalso; omega)) f2
              refine n_iinc 1 d9_126 (by decide) rfl rfl ?_
              refine q_goto 70 d9_129 (by decide) ?_
              exact ih (i + 1) _ (by omega) (by omega) hR2 (hF.trans (f2.fr.c (fun a q ha e => by omega)))
            · refine q_iload d9_116 rfl ?_
              refine q_goto 123 d9_118 (by decide) ?_
              refine q_v1 d9_123 rfl rfl hR1.1.1.2.1.1 (Nat.le_of_ble_eq_true rfl) (c12 hR1.1.1.2.1 hR1.2.2.1 (by show dn D + i < 120; omega) (by omega) (fun M2 t2 f2 => ?_))
              have hR2 := hR1.fed (i := i) t2 (by unfold yby; (repeat' split) <;> first | rfl | (exfalso; omega)) f2
              refine n_iinc 1 d9_126 (by decide) rfl rfl ?_
              refine q_goto 70 d9_129 (by decide) ?_
              exact ih (i + 1) _ (by omega) (by omega) hR2 (hF.trans (f2.fr.c (fun a q ha e => by omega)))
          · refine q_iload d9_105 rfl ?_
            refine q_goto 123 d9_107 (by decide) ?_
            refine q_v1 d9_123 rfl rfl hR1.1.1.2.1.1 (Nat.le_of_ble_eq_true rfl) (c12 hR1.1.1.2.1 hR1.2.2.1 (by show dn D + i < 120; omega) (by omega) (fun M2 t2 f2 => ?_))
            have hR2 := hR1.fed (i := i) t2 (by unfold yby; (repeat' split) <;> first | rfl | (exfalso; omega)) f2
            refine n_iinc 1 d9_126 (by decide) rfl rfl ?_
            refine q_goto 70 d9_129 (by decide) ?_
            exact ih (i + 1) _ (by omega) (by omega) hR2 (hF.trans (f2.fr.c (fun a q ha e => by omega)))
        · refine q_iload_n d9_95 rfl ?_
          refine q_goto 123 d9_96 (by decide) ?_
          refine q_v1 d9_123 rfl rfl hR1.1.1.2.1.1 (Nat.le_of_ble_eq_true rfl) (c12 hR1.1.1.2.1 hR1.2.2.1 (by show dn D + i < 120; omega) (by omega) (fun M2 t2 f2 => ?_))
          have hR2 := hR1.fed (i := i) t2 (by unfold yby; (repeat' split) <;> first | rfl | (exfalso; omega)) f2
          refine n_iinc 1 d9_126 (by decide) rfl rfl ?_
          refine q_goto 70 d9_129 (by decide) ?_
          exact ih (i + 1) _ (by omega) (by omega) hR2 (hF.trans (f2.fr.c (fun a q ha e => by omega)))
      · refine q_iload_n d9_85 rfl ?_
        refine q_goto 123 d9_86 (by decide) ?_
        refine q_v1 d9_123 rfl rfl hR1.1.1.2.1.1 (Nat.le_of_ble_eq_true rfl) (c12 hR1.1.1.2.1 hR1.2.2.1 (by show dn D + i < 120; omega) (by omega) (fun M2 t2 f2 => ?_))
        have hR2 := hR1.fed (i := i) t2 (by unfold yby; (repeat' split) <;> first | rfl | (exfalso; omega)) f2
        refine n_iinc 1 d9_126 (by decide) rfl rfl ?_
        refine q_goto 70 d9_129 (by decide) ?_
        exact ih (i + 1) _ (by omega) (by omega) hR2 (hF.trans (f2.fr.c (fun a q ha e => by omega)))
theorem c10fd {d : Nat} {M : zM} {Q : Option Value → zM → Prop} {x : Int32} (h : zix x 6 = none) (k : Q (some (.int (nI 0))) M) : qC (d + 1) 10 [.int x, .int (nI 1), .int (nI 5)] M Q := c10f (by decide) (by have := zix_none h; omega) (by decide) k
theorem p9 {d : Nat} {M : zM} {Q : Option Value → zM → Prop} {D : yD} {x ax bx cx ex fx : Int32} (hR : RC M D) (hD : OKD D) (k : ∀ M', RC M' (sFeed D x ax bx cx ex fx).2 → Fc M M' → Q (some (.int (sFeed D x ax bx cx ex fx).1)) M') : qC (d + 3) 9 [.ref 16, .int x, .int ax, .int bx, .int cx, .int ex, .int fx] M Q := by
  refine qC_of (by decide) (Nat.le_of_ble_eq_true rfl) ?_
  have hS := hR.1.1
  have hT := hR.1.2.2.1
  have hO := hR.1.2.2.2.1
  have hRW := hR.1.2.2.2.2
  have hJ : RL M 62 (dL D) := hRW.2.2.2
  have hc6 := hO.1.1
  have h240 := hD.2.1
  have h120 := hR.2.2.1.1
  have hwr := hS.wo (Or.inl ⟨rfl, rfl, rfl, rfl⟩)
  have hwt := hS.wo (Or.inr ⟨rfl, rfl, rfl, rfl⟩)
  have hpr := hS.pu (Or.inl ⟨rfl, rfl, rfl, rfl⟩)
  have hpt := hS.pu (Or.inr ⟨rfl, rfl, rfl, rfl⟩)
  unfold sFeed at k
  rcases zix_c x (n := 6) (by omega) with ⟨n, hn, rfl, en⟩ | ⟨en, nn⟩
  · rw [oz_s en] at k
    by_cases h0 : n = 0
    · subst h0
      rw [if_pos rfl] at k
      refine q_iload_n d9_0 rfl ?_
      refine q_iconstN (z := 1) d9_1 ?_
      refine q_iconstN (z := 5) d9_2 ?_
      refine q_s3 d9_3 (Or.inl rfl) rfl (Nat.le_of_ble_eq_true rfl) (c10n (by decide) (by decide) (by decide) (by decide) ?_)
      refine n0_eq 47 d9_6 (by decide) (by decide) (fun _ => ?_) (fun q => absurd q (by decide))
      refine q_bipush (x := (-2)) d9_47 rfl ?_
      refine q_iret d9_49 rfl ?_
      exact k _ hR (Fc.refl _)
    · rw [if_neg h0] at k
      rcases zix_c ax (n := 256) (by omega) with ⟨a, ha, rfl, ea⟩ | ⟨ea, na⟩
      · rw [oz_s ea] at k
        rcases zix_c bx (n := 256) (by omega) with ⟨b, hb, rfl, eb⟩ | ⟨eb, nb⟩
        · rw [oz_s eb] at k
          rcases zix_c cx (n := 256) (by omega) with ⟨c, hc, rfl, ec⟩ | ⟨ec, nc⟩
          · rw [oz_s ec] at k
            rcases zix_c ex (n := 256) (by omega) with ⟨e, he, rfl, ee⟩ | ⟨ee, ne⟩
            · rw [oz_s ee] at k
              rcases zix_c fx (n := 256) (by omega) with ⟨f, hf, rfl, ef⟩ | ⟨ef, nf⟩
              · rw [oz_s ef] at k
                by_cases hfull : 120 < dn D + n
                · rw [if_pos hfull] at k
                  refine q_iload_n d9_0 rfl ?_
                  refine q_iconstN (z := 1) d9_1 ?_
                  refine q_iconstN (z := 5) d9_2 ?_
                  refine q_s3 d9_3 (Or.inl rfl) rfl (Nat.le_of_ble_eq_true rfl) (c10t ⟨by omega, by omega⟩ (by decide) ?_)
                  refine n0_eq 47 d9_6 (by decide) (by decide) (fun q => absurd q (by decide)) (fun _ => ?_)
                  refine q_iload_n d9_9 rfl ?_
                  refine q_s1 d9_10 (Or.inl rfl) rfl (Nat.le_of_ble_eq_true rfl) (c11t (by omega) ?_)
                  refine n0_eq 47 d9_13 (by decide) (by decide) (fun q => absurd q (by decide)) (fun _ => ?_)
                  refine q_iload_n d9_16 rfl ?_
                  refine q_s1 d9_17 (Or.inl rfl) rfl (Nat.le_of_ble_eq_true rfl) (c11t (by omega) ?_)
                  refine n0_eq 47 d9_20 (by decide) (by decide) (fun q => absurd q (by decide)) (fun _ => ?_)
                  refine q_iload d9_23 rfl ?_
                  refine q_s1 d9_25 (Or.inl rfl) rfl (Nat.le_of_ble_eq_true rfl) (c11t (by omega) ?_)
                  refine n0_eq 47 d9_28 (by decide) (by decide) (fun q => absurd q (by decide)) (fun _ => ?_)
                  refine q_iload d9_31 rfl ?_
                  refine q_s1 d9_33 (Or.inl rfl) rfl (Nat.le_of_ble_eq_true rfl) (c11t (by omega) ?_)
                  refine n0_eq 47 d9_36 (by decide) (by decide) (fun q => absurd q (by decide)) (fun _ => ?_)
                  refine q_iload d9_39 rfl ?_
                  refine q_s1 d9_41 (Or.inl rfl) rfl (Nat.le_of_ble_eq_true rfl) (c11t (by omega) ?_)
                  refine n0_ne 50 d9_44 (by decide) (by decide) (fun _ => ?_) (fun q => absurd q (by decide))
                  refine q_aload_n d9_50 rfl ?_
                  refine q_getr (c := 7) (f := 0) d9_51 ⟨rfl, rfl⟩ (hS.1.1) (hS.1.2.1) ?_
                  refine q_getv (c := 3) (f := 1) d9_54 ⟨rfl, by decide⟩ hS.2.1.1 hR.2.2.1.2.1 ?_
                  refine q_iload_n d9_57 rfl ?_
                  refine n_iadd d9_58 ?_
                  refine q_bipush (x := nI 120) d9_59 rfl ?_
                  refine nc_le 67 d9_61 (by decide) (by omega) (by omega) (fun h61 => (False.elim (by omega))) (fun h61 => ?_)
                  refine q_bipush (x := (-4)) d9_64 rfl ?_
                  refine q_iret d9_66 rfl ?_
                  exact k _ hR (Fc.refl _)
                · rw [if_neg hfull] at k
                  refine q_iload_n d9_0 rfl ?_
                  refine q_iconstN (z := 1) d9_1 ?_
                  refine q_iconstN (z := 5) d9_2 ?_
                  refine q_s3 d9_3 (Or.inl rfl) rfl (Nat.le_of_ble_eq_true rfl) (c10t ⟨by omega, by omega⟩ (by decide) ?_)
                  refine n0_eq 47 d9_6 (by decide) (by decide) (fun q => absurd q (by decide)) (fun _ => ?_)
                  refine q_iload_n d9_9 rfl ?_
                  refine q_s1 d9_10 (Or.inl rfl) rfl (Nat.le_of_ble_eq_true rfl) (c11t (by omega) ?_)
                  refine n0_eq 47 d9_13 (by decide) (by decide) (fun q => absurd q (by decide)) (fun _ => ?_)
                  refine q_iload_n d9_16 rfl ?_
                  refine q_s1 d9_17 (Or.inl rfl) rfl (Nat.le_of_ble_eq_true rfl) (c11t (by omega) ?_)
                  refine n0_eq 47 d9_20 (by decide) (by decide) (fun q => absurd q (by decide)) (fun _ => ?_)
                  refine q_iload d9_23 rfl ?_
                  refine q_s1 d9_25 (Or.inl rfl) rfl (Nat.le_of_ble_eq_true rfl) (c11t (by omega) ?_)
                  refine n0_eq 47 d9_28 (by decide) (by decide) (fun q => absurd q (by decide)) (fun _ => ?_)
                  refine q_iload d9_31 rfl ?_
                  refine q_s1 d9_33 (Or.inl rfl) rfl (Nat.le_of_ble_eq_true rfl) (c11t (by omega) ?_)
                  refine n0_eq 47 d9_36 (by decide) (by decide) (fun q => absurd q (by decide)) (fun _ => ?_)
                  refine q_iload d9_39 rfl ?_
                  refine q_s1 d9_41 (Or.inl rfl) rfl (Nat.le_of_ble_eq_true rfl) (c11t (by omega) ?_)
                  refine n0_ne 50 d9_44 (by decide) (by decide) (fun _ => ?_) (fun q => absurd q (by decide))
                  refine q_aload_n d9_50 rfl ?_
                  refine q_getr (c := 7) (f := 0) d9_51 ⟨rfl, rfl⟩ (hS.1.1) (hS.1.2.1) ?_
                  refine q_getv (c := 3) (f := 1) d9_54 ⟨rfl, by decide⟩ hS.2.1.1 hR.2.2.1.2.1 ?_
                  refine q_iload_n d9_57 rfl ?_
                  refine n_iadd d9_58 ?_
                  refine q_bipush (x := nI 120) d9_59 rfl ?_
                  refine nc_le 67 d9_61 (by decide) (by omega) (by omega) (fun h61 => ?_) (fun h61 => (False.elim (by omega)))
                  refine q_iconstN (z := 0) d9_67 ?_
                  refine q_istore d9_68 (by decide) rfl ?_
                  exact l9 (D := D) (by omega) (by omega) ha hb hc he hf k (n + 1) 0 M (by omega) (by omega) (by rw [yfd_0]; exact hR) (Fc.refl _)
              · rw [oz_n ef] at k
                refine q_iload_n d9_0 rfl ?_
                refine q_iconstN (z := 1) d9_1 ?_
                refine q_iconstN (z := 5) d9_2 ?_
                refine q_s3 d9_3 (Or.inl rfl) rfl (Nat.le_of_ble_eq_true rfl) (c10t ⟨by omega, by omega⟩ (by decide) ?_)
                refine n0_eq 47 d9_6 (by decide) (by decide) (fun q => absurd q (by decide)) (fun _ => ?_)
                refine q_iload_n d9_9 rfl ?_
                refine q_s1 d9_10 (Or.inl rfl) rfl (Nat.le_of_ble_eq_true rfl) (c11t (by omega) ?_)
                refine n0_eq 47 d9_13 (by decide) (by decide) (fun q => absurd q (by decide)) (fun _ => ?_)
                refine q_iload_n d9_16 rfl ?_
                refine q_s1 d9_17 (Or.inl rfl) rfl (Nat.le_of_ble_eq_true rfl) (c11t (by omega) ?_)
                refine n0_eq 47 d9_20 (by decide) (by decide) (fun q => absurd q (by decide)) (fun _ => ?_)
                refine q_iload d9_23 rfl ?_
                refine q_s1 d9_25 (Or.inl rfl) rfl (Nat.le_of_ble_eq_true rfl) (c11t (by omega) ?_)
                refine n0_eq 47 d9_28 (by decide) (by decide) (fun q => absurd q (by decide)) (fun _ => ?_)
                refine q_iload d9_31 rfl ?_
                refine q_s1 d9_33 (Or.inl rfl) rfl (Nat.le_of_ble_eq_true rfl) (c11t (by omega) ?_)
                refine n0_eq 47 d9_36 (by decide) (by decide) (fun q => absurd q (by decide)) (fun _ => ?_)
                refine q_iload d9_39 rfl ?_
                refine q_s1 d9_41 (Or.inl rfl) rfl (Nat.le_of_ble_eq_true rfl) (c11f ef ?_)
                refine n0_ne 50 d9_44 (by decide) (by decide) (fun q => absurd q (by decide)) (fun _ => ?_)
                refine q_bipush (x := (-2)) d9_47 rfl ?_
                refine q_iret d9_49 rfl ?_
                exact k _ hR (Fc.refl _)
            · rw [oz_n ee] at k
              refine q_iload_n d9_0 rfl ?_
              refine q_iconstN (z := 1) d9_1 ?_
              refine q_iconstN (z := 5) d9_2 ?_
              refine q_s3 d9_3 (Or.inl rfl) rfl (Nat.le_of_ble_eq_true rfl) (c10t ⟨by omega, by omega⟩ (by decide) ?_)
              refine n0_eq 47 d9_6 (by decide) (by decide) (fun q => absurd q (by decide)) (fun _ => ?_)
              refine q_iload_n d9_9 rfl ?_
              refine q_s1 d9_10 (Or.inl rfl) rfl (Nat.le_of_ble_eq_true rfl) (c11t (by omega) ?_)
              refine n0_eq 47 d9_13 (by decide) (by decide) (fun q => absurd q (by decide)) (fun _ => ?_)
              refine q_iload_n d9_16 rfl ?_
              refine q_s1 d9_17 (Or.inl rfl) rfl (Nat.le_of_ble_eq_true rfl) (c11t (by omega) ?_)
              refine n0_eq 47 d9_20 (by decide) (by decide) (fun q => absurd q (by decide)) (fun _ => ?_)
              refine q_iload d9_23 rfl ?_
              refine q_s1 d9_25 (Or.inl rfl) rfl (Nat.le_of_ble_eq_true rfl) (c11t (by omega) ?_)
              refine n0_eq 47 d9_28 (by decide) (by decide) (fun q => absurd q (by decide)) (fun _ => ?_)
              refine q_iload d9_31 rfl ?_
              refine q_s1 d9_33 (Or.inl rfl) rfl (Nat.le_of_ble_eq_true rfl) (c11f ee ?_)
              refine n0_eq 47 d9_36 (by decide) (by decide) (fun _ => ?_) (fun q => absurd q (by decide))
              refine q_bipush (x := (-2)) d9_47 rfl ?_
              refine q_iret d9_49 rfl ?_
              exact k _ hR (Fc.refl _)
          · rw [oz_n ec] at k
            refine q_iload_n d9_0 rfl ?_
            refine q_iconstN (z := 1) d9_1 ?_
            refine q_iconstN (z := 5) d9_2 ?_
            refine q_s3 d9_3 (Or.inl rfl) rfl (Nat.le_of_ble_eq_true rfl) (c10t ⟨by omega, by omega⟩ (by decide) ?_)
            refine n0_eq 47 d9_6 (by decide) (by decide) (fun q => absurd q (by decide)) (fun _ => ?_)
            refine q_iload_n d9_9 rfl ?_
            refine q_s1 d9_10 (Or.inl rfl) rfl (Nat.le_of_ble_eq_true rfl) (c11t (by omega) ?_)
            refine n0_eq 47 d9_13 (by decide) (by decide) (fun q => absurd q (by decide)) (fun _ => ?_)
            refine q_iload_n d9_16 rfl ?_
            refine q_s1 d9_17 (Or.inl rfl) rfl (Nat.le_of_ble_eq_true rfl) (c11t (by omega) ?_)
            refine n0_eq 47 d9_20 (by decide) (by decide) (fun q => absurd q (by decide)) (fun _ => ?_)
            refine q_iload d9_23 rfl ?_
            refine q_s1 d9_25 (Or.inl rfl) rfl (Nat.le_of_ble_eq_true rfl) (c11f ec ?_)
            refine n0_eq 47 d9_28 (by decide) (by decide) (fun _ => ?_) (fun q => absurd q (by decide))
            refine q_bipush (x := (-2)) d9_47 rfl ?_
            refine q_iret d9_49 rfl ?_
            exact k _ hR (Fc.refl _)
        · rw [oz_n eb] at k
          refine q_iload_n d9_0 rfl ?_
          refine q_iconstN (z := 1) d9_1 ?_
          refine q_iconstN (z := 5) d9_2 ?_
          refine q_s3 d9_3 (Or.inl rfl) rfl (Nat.le_of_ble_eq_true rfl) (c10t ⟨by omega, by omega⟩ (by decide) ?_)
          refine n0_eq 47 d9_6 (by decide) (by decide) (fun q => absurd q (by decide)) (fun _ => ?_)
          refine q_iload_n d9_9 rfl ?_
          refine q_s1 d9_10 (Or.inl rfl) rfl (Nat.le_of_ble_eq_true rfl) (c11t (by omega) ?_)
          refine n0_eq 47 d9_13 (by decide) (by decide) (fun q => absurd q (by decide)) (fun _ => ?_)
          refine q_iload_n d9_16 rfl ?_
          refine q_s1 d9_17 (Or.inl rfl) rfl (Nat.le_of_ble_eq_true rfl) (c11f eb ?_)
          refine n0_eq 47 d9_20 (by decide) (by decide) (fun _ => ?_) (fun q => absurd q (by decide))
          refine q_bipush (x := (-2)) d9_47 rfl ?_
          refine q_iret d9_49 rfl ?_
          exact k _ hR (Fc.refl _)
      · rw [oz_n ea] at k
        refine q_iload_n d9_0 rfl ?_
        refine q_iconstN (z := 1) d9_1 ?_
        refine q_iconstN (z := 5) d9_2 ?_
        refine q_s3 d9_3 (Or.inl rfl) rfl (Nat.le_of_ble_eq_true rfl) (c10t ⟨by omega, by omega⟩ (by decide) ?_)
        refine n0_eq 47 d9_6 (by decide) (by decide) (fun q => absurd q (by decide)) (fun _ => ?_)
        refine q_iload_n d9_9 rfl ?_
        refine q_s1 d9_10 (Or.inl rfl) rfl (Nat.le_of_ble_eq_true rfl) (c11f ea ?_)
        refine n0_eq 47 d9_13 (by decide) (by decide) (fun _ => ?_) (fun q => absurd q (by decide))
        refine q_bipush (x := (-2)) d9_47 rfl ?_
        refine q_iret d9_49 rfl ?_
        exact k _ hR (Fc.refl _)
  · rw [oz_n en] at k
    refine q_iload_n d9_0 rfl ?_
    refine q_iconstN (z := 1) d9_1 ?_
    refine q_iconstN (z := 5) d9_2 ?_
    refine q_s3 d9_3 (Or.inl rfl) rfl (Nat.le_of_ble_eq_true rfl) (c10fd en ?_)
    refine n0_eq 47 d9_6 (by decide) (by decide) (fun _ => ?_) (fun q => absurd q (by decide))
    refine q_bipush (x := (-2)) d9_47 rfl ?_
    refine q_iret d9_49 rfl ?_
    exact k _ hR (Fc.refl _)
/-! a text is read -/
def FT (c : Nat) : Nat → Nat → Prop := fun a k => FR c a k ∨ (a = 17 ∧ k = 1) ∨ (a = 16 ∧ k = 2)
theorem FT_w {c a k : Nat} (hc : c < 6) (h : FT c a k) : (a = 16 ∧ k = 2) ∨ (a = 17 ∧ k ≠ 0) ∨ (20 + 7 * c ≤ a ∧ a < 27 + 7 * c) := by
  unfold FT FR at h; omega
theorem RC.txE {M M' : zM} {D : yD} (hR : RC M D) (hc : dc D < 6) (hS : SC M') (f : Fr (FT (dc D)) M M') (h1 : zi M' 17 1 = nI 0) (h2 : zi M' 16 2 = nI (dc D)) : RC M' (dtS D 0 (db D)) := by
  obtain ⟨⟨a1, a2, a3, a4, a5⟩, a6, a7, a8⟩ := hR
  refine ⟨⟨hS, a2, fun i hi => RP_fr (a3 i hi) f (fun b k b1 b2 q => by have := FT_w hc q; have hi : i < dc D := hi; omega), a4, ⟨RPu_fr a5.1 f (fun b k b1 b2 q => by have := FT_w hc q; omega), fun s hs3 => RS_fr (a5.2.1 s hs3) f (fun b k b1 b2 q => by have := FT_w hc q; omega), RJ_fr a5.2.2 f (fun b k b1 b2 q => by have := FT_w hc q; omega)⟩⟩,
    h2, ⟨Nat.zero_le _, h1, fun k hk => absurd hk (Nat.not_lt_zero _)⟩, fun i hi => ⟨(f.i (fun q => by have := FT_w hc q; omega)).trans (a8 i hi).1, (f.i (fun q => by have := FT_w hc q; omega)).trans (a8 i hi).2⟩⟩
theorem gz_T {T : Nat → yT} {c : Nat} {X : yT} {S : yS} (h : gt S ≠ 0 → gx S < c) : gz (yu T c X) S = gz T S := by
  unfold gz
  by_cases h0 : gt S = 0
  · rw [if_pos h0, if_pos h0]
  · rw [if_neg h0, if_neg h0, yu_n (by have := h h0; omega)]
theorem OKW_T {T : Nat → yT} {c : Nat} {X : yT} {W : yW} (h : OKW T c W) (hX : OKT X) (hc : c < 6) : OKW (yu T c X) (c + 1) W := by
  refine ⟨⟨by omega, fun i hi => ?_⟩, h.2.1, fun s hs => ?_⟩
  · by_cases e : i = c
    · subst e; rw [yu_s]; exact hX
    · rw [yu_n e]; exact h.1.2 i (by omega)
  · obtain ⟨b1, b2, b3, b4, b5, b6⟩ := h.2.2 s hs
    exact ⟨b1, fun q => by have := b2 q; omega, b3, b4, fun i hi => b5 i (by rw [gz_T b2] at hi; exact hi), b6⟩
theorem RC.txO {M M' : zM} {D : yD} {X : yT} (hR : RC M D) (hc : dc D < 6) (hX : OKT X) (hS : SC M') (hp : RP M' (20 + 7 * dc D) X) (f : Fr (FT (dc D)) M M') (h1 : zi M' 17 1 = nI 0) (h2 : zi M' 16 2 = nI (dc D + 1)) : RC M' (dc D + 1, yu (dT D) (dc D) X, 0, D.2.2.2) := by
  obtain ⟨⟨a1, a2, a3, a4, a5⟩, a6, a7, a8⟩ := hR
  refine ⟨⟨hS, a2, fun i hi => ?_, OKW_T a4 hX hc, ⟨RPu_fr a5.1 f (fun b k b1 b2 q => by have := FT_w hc q; omega), fun s hs3 => ?_, RJ_fr a5.2.2 f (fun b k b1 b2 q => by have := FT_w hc q; omega)⟩⟩,
    h2, ⟨Nat.zero_le _, h1, fun k hk => absurd hk (Nat.not_lt_zero _)⟩, fun i hi => ⟨(f.i (fun q => by have := FT_w hc q; omega)).trans (a8 i hi).1, (f.i (fun q => by have := FT_w hc q; omega)).trans (a8 i hi).2⟩⟩
  · show RP M' (20 + 7 * i) (yu (dT D) (dc D) X i)
    by_cases e : i = dc D
    · subst e; rw [yu_s]; exact hp
    · rw [yu_n e]
      have hi : i < dc D + 1 := hi
      exact RP_fr (a3 i (by omega)) f (fun b k b1 b2 q => by have := FT_w hc q; omega)
  · obtain ⟨r1, r2, r3, r4, r5⟩ := RS_fr (a5.2.1 s hs3) f (fun b k b1 b2 q => by have := FT_w hc q; omega)
    have hx := (a4.2.2 s hs3).2.1
    refine ⟨r1, r2, r3, fun k hk => ?_, r5⟩
    have hk : k < gz (yu (dT D) (dc D) X) ((dX D).1.2 s) := hk
    rw [gz_T hx] at hk
    refine (r4 k hk).trans ?_
    have h0 : gt ((dX D).1.2 s) ≠ 0 := fun e => by unfold gz at hk; rw [if_pos e] at hk; omega
    show tu (dT D (gx ((dX D).1.2 s))) k = tu (yu (dT D) (dc D) X (gx ((dX D).1.2 s))) k
    rw [yu_n (by have := hx h0; omega)]
theorem d13_0 : decode (zB 13) 0 = .ok (.aload_n 0, 1) := (congrArg (fun c => decode c 0) zeq13).trans (by decide +kernel)
theorem d13_1 : decode (zB 13) 1 = .ok (.getfield 70, 3) := (congrArg (fun c => decode c 1) zeq13).trans (by decide +kernel)
theorem d13_4 : decode (zB 13) 4 = .ok (.bipush 6, 2) := (congrArg (fun c => decode c 4) zeq13).trans (by decide +kernel)
theorem d13_6 : decode (zB 13) 6 = .ok (.if_icmp .lt 6, 3) := (congrArg (fun c => decode c 6) zeq13).trans (by decide +kernel)
theorem d13_9 : decode (zB 13) 9 = .ok (.bipush (-4), 2) := (congrArg (fun c => decode c 9) zeq13).trans (by decide +kernel)
theorem d13_11 : decode (zB 13) 11 = .ok (.ireturn, 1) := (congrArg (fun c => decode c 11) zeq13).trans (by decide +kernel)
theorem d13_12 : decode (zB 13) 12 = .ok (.aload_n 0, 1) := (congrArg (fun c => decode c 12) zeq13).trans (by decide +kernel)
theorem d13_13 : decode (zB 13) 13 = .ok (.getfield 10, 3) := (congrArg (fun c => decode c 13) zeq13).trans (by decide +kernel)
theorem d13_16 : decode (zB 13) 16 = .ok (.aload_n 0, 1) := (congrArg (fun c => decode c 16) zeq13).trans (by decide +kernel)
theorem d13_17 : decode (zB 13) 17 = .ok (.getfield 18, 3) := (congrArg (fun c => decode c 17) zeq13).trans (by decide +kernel)
theorem d13_20 : decode (zB 13) 20 = .ok (.aload_n 0, 1) := (congrArg (fun c => decode c 20) zeq13).trans (by decide +kernel)
theorem d13_21 : decode (zB 13) 21 = .ok (.getfield 70, 3) := (congrArg (fun c => decode c 21) zeq13).trans (by decide +kernel)
theorem d13_24 : decode (zB 13) 24 = .ok (.aaload, 1) := (congrArg (fun c => decode c 24) zeq13).trans (by decide +kernel)
theorem d13_25 : decode (zB 13) 25 = .ok (.invokevirtual 73, 3) := (congrArg (fun c => decode c 25) zeq13).trans (by decide +kernel)
theorem d13_28 : decode (zB 13) 28 = .ok (.istore_n 1, 1) := (congrArg (fun c => decode c 28) zeq13).trans (by decide +kernel)
theorem d13_29 : decode (zB 13) 29 = .ok (.aload_n 0, 1) := (congrArg (fun c => decode c 29) zeq13).trans (by decide +kernel)
theorem d13_30 : decode (zB 13) 30 = .ok (.getfield 10, 3) := (congrArg (fun c => decode c 30) zeq13).trans (by decide +kernel)
theorem d13_33 : decode (zB 13) 33 = .ok (.iconst 0, 1) := (congrArg (fun c => decode c 33) zeq13).trans (by decide +kernel)
theorem d13_34 : decode (zB 13) 34 = .ok (.putfield 63, 3) := (congrArg (fun c => decode c 34) zeq13).trans (by decide +kernel)
theorem d13_37 : decode (zB 13) 37 = .ok (.iload_n 1, 1) := (congrArg (fun c => decode c 37) zeq13).trans (by decide +kernel)
theorem d13_38 : decode (zB 13) 38 = .ok (.iconst (-1), 1) := (congrArg (fun c => decode c 38) zeq13).trans (by decide +kernel)
theorem d13_39 : decode (zB 13) 39 = .ok (.if_icmp .eq 8, 3) := (congrArg (fun c => decode c 39) zeq13).trans (by decide +kernel)
theorem d13_42 : decode (zB 13) 42 = .ok (.bipush (-100), 2) := (congrArg (fun c => decode c 42) zeq13).trans (by decide +kernel)
theorem d13_44 : decode (zB 13) 44 = .ok (.iload_n 1, 1) := (congrArg (fun c => decode c 44) zeq13).trans (by decide +kernel)
theorem d13_45 : decode (zB 13) 45 = .ok (.isub, 1) := (congrArg (fun c => decode c 45) zeq13).trans (by decide +kernel)
theorem d13_46 : decode (zB 13) 46 = .ok (.ireturn, 1) := (congrArg (fun c => decode c 46) zeq13).trans (by decide +kernel)
theorem d13_47 : decode (zB 13) 47 = .ok (.aload_n 0, 1) := (congrArg (fun c => decode c 47) zeq13).trans (by decide +kernel)
theorem d13_48 : decode (zB 13) 48 = .ok (.dup, 1) := (congrArg (fun c => decode c 48) zeq13).trans (by decide +kernel)
theorem d13_49 : decode (zB 13) 49 = .ok (.getfield 70, 3) := (congrArg (fun c => decode c 49) zeq13).trans (by decide +kernel)
theorem d13_52 : decode (zB 13) 52 = .ok (.iconst 1, 1) := (congrArg (fun c => decode c 52) zeq13).trans (by decide +kernel)
theorem d13_53 : decode (zB 13) 53 = .ok (.iadd, 1) := (congrArg (fun c => decode c 53) zeq13).trans (by decide +kernel)
theorem d13_54 : decode (zB 13) 54 = .ok (.putfield 70, 3) := (congrArg (fun c => decode c 54) zeq13).trans (by decide +kernel)
theorem d13_57 : decode (zB 13) 57 = .ok (.aload_n 0, 1) := (congrArg (fun c => decode c 57) zeq13).trans (by decide +kernel)
theorem d13_58 : decode (zB 13) 58 = .ok (.getfield 70, 3) := (congrArg (fun c => decode c 58) zeq13).trans (by decide +kernel)
theorem d13_61 : decode (zB 13) 61 = .ok (.iconst 1, 1) := (congrArg (fun c => decode c 61) zeq13).trans (by decide +kernel)
theorem d13_62 : decode (zB 13) 62 = .ok (.isub, 1) := (congrArg (fun c => decode c 62) zeq13).trans (by decide +kernel)
theorem d13_63 : decode (zB 13) 63 = .ok (.ireturn, 1) := (congrArg (fun c => decode c 63) zeq13).trans (by decide +kernel)
theorem p13 {d : Nat} {M : zM} {Q : Option Value → zM → Prop} {D : yD} (hR : RC M D) (hD : OKD D) (k : ∀ M', RC M' (sText D).2 → Fc M M' → Q (some (.int (sText D).1)) M') : qC (d + 23) 13 [.ref 16] M Q := by
  refine qC_of (by decide) (Nat.le_of_ble_eq_true rfl) ?_
  have hS := hR.1.1
  have hT := hR.1.2.2.1
  have hO := hR.1.2.2.2.1
  have hRW := hR.1.2.2.2.2
  have hJ : RL M 62 (dL D) := hRW.2.2.2
  have hc6 := hO.1.1
  have h240 := hD.2.1
  have h120 := hR.2.2.1.1
  have hwr := hS.wo (Or.inl ⟨rfl, rfl, rfl, rfl⟩)
  have hwt := hS.wo (Or.inr ⟨rfl, rfl, rfl, rfl⟩)
  have hpr := hS.pu (Or.inl ⟨rfl, rfl, rfl, rfl⟩)
  have hpt := hS.pu (Or.inr ⟨rfl, rfl, rfl, rfl⟩)
  unfold sText at k
  by_cases h6 : 6 ≤ dc D
  · rw [if_pos h6] at k
    refine q_aload_n d13_0 rfl ?_
    refine q_getv (c := 7) (f := 2) d13_1 ⟨rfl, by decide⟩ (hS.1.1) hR.2.1 ?_
    refine q_bipush (x := nI 6) d13_4 rfl ?_
    refine nc_lt 12 d13_6 (by decide) (by omega) (by omega) (fun h6 => (False.elim (by omega))) (fun h6 => ?_)
    refine q_bipush (x := (-4)) d13_9 rfl ?_
    refine q_iret d13_11 rfl ?_
    exact k _ hR (Fc.refl _)
  · rw [if_neg h6] at k
    have pv := pTx_v (n := dn D) (b := db D) (fun i hi => (hR.2.2.1.2.2 i hi).2)
    cases e : pTx (dn D) (db D) with
    | error f =>
      rw [e] at k pv
      refine q_aload_n d13_0 rfl ?_
      refine q_getv (c := 7) (f := 2) d13_1 ⟨rfl, by decide⟩ (hS.1.1) hR.2.1 ?_
      refine q_bipush (x := nI 6) d13_4 rfl ?_
      refine nc_lt 12 d13_6 (by decide) (by omega) (by omega) (fun h6 => ?_) (fun h6 => (False.elim (by omega)))
      refine q_aload_n d13_12 rfl ?_
      refine q_getr (c := 7) (f := 0) d13_13 ⟨rfl, rfl⟩ (hS.1.1) (hS.1.2.1) ?_
      refine q_aload_n d13_16 rfl ?_
      refine q_getr (c := 7) (f := 1) d13_17 ⟨rfl, rfl⟩ (hS.1.1) (hS.1.2.2.1) ?_
      refine q_aload_n d13_20 rfl ?_
      refine q_getv (c := 7) (f := 2) d13_21 ⟨rfl, by decide⟩ (hS.1.1) hR.2.1 ?_
      refine n_aald d13_24 (hS.1.2.2.2.1) (by decide) (by omega) (by decide) ((hS.1.2.2.2.2.1) _ (by omega)) ?_
      refine q_v1 d13_25 rfl rfl hS.2.1.1 (Nat.le_of_ble_eq_true rfl) (c14 hS (by omega) hR.2.2.1 (fun T M1 hp _ _ _ => by rw [e] at hp; cases hp) (fun f2 M1 hp hf f1 hS1 => ?_))
      rw [e] at hp
      cases hp
      have g1 : Fr (FT (dc D)) M M1 := f1.mono (fun a k q => Or.inl q)
      refine q_istore_n d13_28 (by decide) rfl ?_
      refine q_aload_n d13_29 rfl ?_
      refine q_getr (c := 7) (f := 0) d13_30 ⟨rfl, rfl⟩ hS1.1.1 hS1.1.2.1 ?_
      refine q_iconstN (z := 0) d13_33 ?_
      refine q_puti (c := 3) (f := 1) d13_34 ⟨rfl, rfl, by decide⟩ hS1.2.1.1 ?_
      refine q_iload_n d13_37 rfl ?_
      refine q_iconst (x := (-1)) d13_38 rfl ?_
      refine ic_eq 47 d13_39 (by decide) (fun h39 => (False.elim (nI_m1 (by omega) h39))) (fun h39 => ?_)
      refine q_bipush (x := (-100)) d13_42 rfl ?_
      refine q_iload_n d13_44 rfl ?_
      refine q_isub d13_45 ?_
      refine q_iret d13_46 rfl ?_
      exact k _ (hR.txE (by omega) (SC_wi hS1 (by omega)) (g1.wi (Or.inr (Or.inl ⟨rfl, rfl⟩))) (wi_s _ _ _ _) ((wi_n (Or.inl (by omega))).trans ((f1.i (by unfold FR; omega)).trans hR.2.1))) ((g1.wi (Or.inr (Or.inl ⟨rfl, rfl⟩))).c (fun a k ha q => by have := FT_w (by omega) q; omega))
    | ok X =>
      rw [e] at k pv
      refine q_aload_n d13_0 rfl ?_
      refine q_getv (c := 7) (f := 2) d13_1 ⟨rfl, by decide⟩ (hS.1.1) hR.2.1 ?_
      refine q_bipush (x := nI 6) d13_4 rfl ?_
      refine nc_lt 12 d13_6 (by decide) (by omega) (by omega) (fun h6 => ?_) (fun h6 => (False.elim (by omega)))
      refine q_aload_n d13_12 rfl ?_
      refine q_getr (c := 7) (f := 0) d13_13 ⟨rfl, rfl⟩ (hS.1.1) (hS.1.2.1) ?_
      refine q_aload_n d13_16 rfl ?_
      refine q_getr (c := 7) (f := 1) d13_17 ⟨rfl, rfl⟩ (hS.1.1) (hS.1.2.2.1) ?_
      refine q_aload_n d13_20 rfl ?_
      refine q_getv (c := 7) (f := 2) d13_21 ⟨rfl, by decide⟩ (hS.1.1) hR.2.1 ?_
      refine n_aald d13_24 (hS.1.2.2.2.1) (by decide) (by omega) (by decide) ((hS.1.2.2.2.2.1) _ (by omega)) ?_
      refine q_v1 d13_25 rfl rfl hS.2.1.1 (Nat.le_of_ble_eq_true rfl) (c14 hS (by omega) hR.2.2.1 (fun X2 M1 hp hrp f1 hS1 => ?_) (fun f2 M1 hp _ _ _ => by rw [e] at hp; cases hp))
      rw [e] at hp
      cases hp
      have g1 : Fr (FT (dc D)) M M1 := f1.mono (fun a k q => Or.inl q)
      refine q_istore_n d13_28 (by decide) rfl ?_
      refine q_aload_n d13_29 rfl ?_
      refine q_getr (c := 7) (f := 0) d13_30 ⟨rfl, rfl⟩ hS1.1.1 hS1.1.2.1 ?_
      refine q_iconstN (z := 0) d13_33 ?_
      refine q_puti (c := 3) (f := 1) d13_34 ⟨rfl, rfl, by decide⟩ hS1.2.1.1 ?_
      refine q_iload_n d13_37 rfl ?_
      refine q_iconst (x := (-1)) d13_38 rfl ?_
      refine ic_eq 47 d13_39 (by decide) (fun h39 => ?_) (fun h39 => (False.elim (h39 rfl)))
      refine q_aload_n d13_47 rfl ?_
      refine q_dup d13_48 rfl ?_
      refine q_getv (c := 7) (f := 2) d13_49 ⟨rfl, by decide⟩ hS1.1.1 (Eq.trans (by (repeat (first | rw [wi_n (Or.inl (by omega))] | rw [wi_n (Or.inr (by omega))] | rw [wi_s] | rw [wr_i] | rw [cp_n (by omega)]))) ((f1.i (by unfold FR; omega)).trans hR.2.1)) ?_
      refine q_iconstN (z := 1) d13_52 ?_
      refine n_iadd d13_53 ?_
      refine q_puti (c := 7) (f := 2) d13_54 ⟨rfl, rfl, by decide⟩ hS1.1.1 ?_
      refine q_aload_n d13_57 rfl ?_
      refine q_getv (c := 7) (f := 2) d13_58 ⟨rfl, by decide⟩ hS1.1.1 (wi_s _ _ _ _) ?_
      refine q_iconstN (z := 1) d13_61 ?_
      refine n_isub d13_62 (by omega) ?_
      refine q_iret d13_63 rfl ?_
      rw [show dc D + 1 - 1 = dc D by omega]
      exact k _ (hR.txO (by omega) pv (SC_wi (SC_wi hS1 (by omega)) (by omega)) (RP_fr hrp (S := fun a k => (a = 17 ∧ k = 1) ∨ (a = 16 ∧ k = 2)) (((Fr.refl _ M1).wi (Or.inl ⟨rfl, rfl⟩)).wi (Or.inr ⟨rfl, rfl⟩)) (fun b k b1 b2 q => by omega)) ((g1.wi (Or.inr (Or.inl ⟨rfl, rfl⟩))).wi (Or.inr (Or.inr ⟨rfl, rfl⟩))) ((wi_n (Or.inl (by omega))).trans (wi_s _ _ _ _)) (wi_s _ _ _ _)) (((g1.wi (Or.inr (Or.inl ⟨rfl, rfl⟩))).wi (Or.inr (Or.inr ⟨rfl, rfl⟩))).c (fun a k ha q => by have := FT_w (by omega) q; omega))
/-! ===== the calls of the class: ends, drawn ===== -/
/-- what the call answers behind its ticks -/
def yenA (E : Nat × yX) (s w : Nat) : Int32 := if w = 0 then (if gt (yxs E.2 s) < 3 then -1 else nI E.1) else if w = 1 then nI (gt (yxs E.2 s)) else ybc (nI (gm (yxs E.2 s) 3))
theorem yov60_s {T : Nat → yT} {nm : Nat → Nat → Int32} {s r t : Nat} {X : yX} (h : gt (yxs X s) < 3) : yov60 T nm s (r + 1) t X = yov60 T nm s r (t + 1) (yti T nm X) := by rw [yov60, if_pos h]
theorem yov60_o {T : Nat → yT} {nm : Nat → Nat → Int32} {s r t : Nat} {X : yX} (h : ¬ gt (yxs X s) < 3) : yov60 T nm s r t X = (t, X) := by
  cases r with
  | zero => rfl
  | succ r => rw [yov60, if_neg h]
theorem d103_0 : decode (zB 103) 0 = .ok (.iload_n 1, 1) := (congrArg (fun c => decode c 0) zeq103).trans (by decide +kernel)
theorem d103_1 : decode (zB 103) 1 = .ok (.invokestatic 141, 3) := (congrArg (fun c => decode c 1) zeq103).trans (by decide +kernel)
theorem d103_4 : decode (zB 103) 4 = .ok (.ifCond .eq 12, 3) := (congrArg (fun c => decode c 4) zeq103).trans (by decide +kernel)
theorem d103_7 : decode (zB 103) 7 = .ok (.iload_n 2, 1) := (congrArg (fun c => decode c 7) zeq103).trans (by decide +kernel)
theorem d103_8 : decode (zB 103) 8 = .ok (.iconst 0, 1) := (congrArg (fun c => decode c 8) zeq103).trans (by decide +kernel)
theorem d103_9 : decode (zB 103) 9 = .ok (.iconst 2, 1) := (congrArg (fun c => decode c 9) zeq103).trans (by decide +kernel)
theorem d103_10 : decode (zB 103) 10 = .ok (.invokestatic 55, 3) := (congrArg (fun c => decode c 10) zeq103).trans (by decide +kernel)
theorem d103_13 : decode (zB 103) 13 = .ok (.ifCond .ne 6, 3) := (congrArg (fun c => decode c 13) zeq103).trans (by decide +kernel)
theorem d103_16 : decode (zB 103) 16 = .ok (.bipush (-2), 2) := (congrArg (fun c => decode c 16) zeq103).trans (by decide +kernel)
theorem d103_18 : decode (zB 103) 18 = .ok (.ireturn, 1) := (congrArg (fun c => decode c 18) zeq103).trans (by decide +kernel)
theorem d103_19 : decode (zB 103) 19 = .ok (.aload_n 0, 1) := (congrArg (fun c => decode c 19) zeq103).trans (by decide +kernel)
theorem d103_20 : decode (zB 103) 20 = .ok (.getfield 37, 3) := (congrArg (fun c => decode c 20) zeq103).trans (by decide +kernel)
theorem d103_23 : decode (zB 103) 23 = .ok (.getfield 144, 3) := (congrArg (fun c => decode c 23) zeq103).trans (by decide +kernel)
theorem d103_26 : decode (zB 103) 26 = .ok (.iload_n 1, 1) := (congrArg (fun c => decode c 26) zeq103).trans (by decide +kernel)
theorem d103_27 : decode (zB 103) 27 = .ok (.aaload, 1) := (congrArg (fun c => decode c 27) zeq103).trans (by decide +kernel)
theorem d103_28 : decode (zB 103) 28 = .ok (.getfield 166, 3) := (congrArg (fun c => decode c 28) zeq103).trans (by decide +kernel)
theorem d103_31 : decode (zB 103) 31 = .ok (.ifCond .ne 6, 3) := (congrArg (fun c => decode c 31) zeq103).trans (by decide +kernel)
theorem d103_34 : decode (zB 103) 34 = .ok (.bipush (-3), 2) := (congrArg (fun c => decode c 34) zeq103).trans (by decide +kernel)
theorem d103_36 : decode (zB 103) 36 = .ok (.ireturn, 1) := (congrArg (fun c => decode c 36) zeq103).trans (by decide +kernel)
theorem d103_37 : decode (zB 103) 37 = .ok (.aload_n 0, 1) := (congrArg (fun c => decode c 37) zeq103).trans (by decide +kernel)
theorem d103_38 : decode (zB 103) 38 = .ok (.getfield 41, 3) := (congrArg (fun c => decode c 38) zeq103).trans (by decide +kernel)
theorem d103_41 : decode (zB 103) 41 = .ok (.aload_n 0, 1) := (congrArg (fun c => decode c 41) zeq103).trans (by decide +kernel)
theorem d103_42 : decode (zB 103) 42 = .ok (.getfield 37, 3) := (congrArg (fun c => decode c 42) zeq103).trans (by decide +kernel)
theorem d103_45 : decode (zB 103) 45 = .ok (.invokevirtual 227, 3) := (congrArg (fun c => decode c 45) zeq103).trans (by decide +kernel)
theorem d103_48 : decode (zB 103) 48 = .ok (.aload_n 0, 1) := (congrArg (fun c => decode c 48) zeq103).trans (by decide +kernel)
theorem d103_49 : decode (zB 103) 49 = .ok (.getfield 41, 3) := (congrArg (fun c => decode c 49) zeq103).trans (by decide +kernel)
theorem d103_52 : decode (zB 103) 52 = .ok (.getfield 144, 3) := (congrArg (fun c => decode c 52) zeq103).trans (by decide +kernel)
theorem d103_55 : decode (zB 103) 55 = .ok (.iload_n 1, 1) := (congrArg (fun c => decode c 55) zeq103).trans (by decide +kernel)
theorem d103_56 : decode (zB 103) 56 = .ok (.aaload, 1) := (congrArg (fun c => decode c 56) zeq103).trans (by decide +kernel)
theorem d103_57 : decode (zB 103) 57 = .ok (.astore_n 3, 1) := (congrArg (fun c => decode c 57) zeq103).trans (by decide +kernel)
theorem d103_58 : decode (zB 103) 58 = .ok (.iconst 0, 1) := (congrArg (fun c => decode c 58) zeq103).trans (by decide +kernel)
theorem d103_59 : decode (zB 103) 59 = .ok (.istore 4, 2) := (congrArg (fun c => decode c 59) zeq103).trans (by decide +kernel)
theorem d103_61 : decode (zB 103) 61 = .ok (.iload 4, 2) := (congrArg (fun c => decode c 61) zeq103).trans (by decide +kernel)
theorem d103_63 : decode (zB 103) 63 = .ok (.bipush 60, 2) := (congrArg (fun c => decode c 63) zeq103).trans (by decide +kernel)
theorem d103_65 : decode (zB 103) 65 = .ok (.if_icmp .ge 23, 3) := (congrArg (fun c => decode c 65) zeq103).trans (by decide +kernel)
theorem d103_68 : decode (zB 103) 68 = .ok (.aload_n 3, 1) := (congrArg (fun c => decode c 68) zeq103).trans (by decide +kernel)
theorem d103_69 : decode (zB 103) 69 = .ok (.invokevirtual 230, 3) := (congrArg (fun c => decode c 69) zeq103).trans (by decide +kernel)
theorem d103_72 : decode (zB 103) 72 = .ok (.ifCond .ne 16, 3) := (congrArg (fun c => decode c 72) zeq103).trans (by decide +kernel)
theorem d103_75 : decode (zB 103) 75 = .ok (.aload_n 0, 1) := (congrArg (fun c => decode c 75) zeq103).trans (by decide +kernel)
theorem d103_76 : decode (zB 103) 76 = .ok (.getfield 41, 3) := (congrArg (fun c => decode c 76) zeq103).trans (by decide +kernel)
theorem d103_79 : decode (zB 103) 79 = .ok (.invokevirtual 175, 3) := (congrArg (fun c => decode c 79) zeq103).trans (by decide +kernel)
theorem d103_82 : decode (zB 103) 82 = .ok (.iinc 4 1, 3) := (congrArg (fun c => decode c 82) zeq103).trans (by decide +kernel)
theorem d103_85 : decode (zB 103) 85 = .ok (.goto (-24), 3) := (congrArg (fun c => decode c 85) zeq103).trans (by decide +kernel)
theorem d103_88 : decode (zB 103) 88 = .ok (.iload_n 2, 1) := (congrArg (fun c => decode c 88) zeq103).trans (by decide +kernel)
theorem d103_89 : decode (zB 103) 89 = .ok (.ifCond .ne 17, 3) := (congrArg (fun c => decode c 89) zeq103).trans (by decide +kernel)
theorem d103_92 : decode (zB 103) 92 = .ok (.aload_n 3, 1) := (congrArg (fun c => decode c 92) zeq103).trans (by decide +kernel)
theorem d103_93 : decode (zB 103) 93 = .ok (.invokevirtual 230, 3) := (congrArg (fun c => decode c 93) zeq103).trans (by decide +kernel)
theorem d103_96 : decode (zB 103) 96 = .ok (.ifCond .eq 8, 3) := (congrArg (fun c => decode c 96) zeq103).trans (by decide +kernel)
theorem d103_99 : decode (zB 103) 99 = .ok (.iload 4, 2) := (congrArg (fun c => decode c 99) zeq103).trans (by decide +kernel)
theorem d103_101 : decode (zB 103) 101 = .ok (.goto 4, 3) := (congrArg (fun c => decode c 101) zeq103).trans (by decide +kernel)
theorem d103_104 : decode (zB 103) 104 = .ok (.iconst (-1), 1) := (congrArg (fun c => decode c 104) zeq103).trans (by decide +kernel)
theorem d103_105 : decode (zB 103) 105 = .ok (.ireturn, 1) := (congrArg (fun c => decode c 105) zeq103).trans (by decide +kernel)
theorem d103_106 : decode (zB 103) 106 = .ok (.iload_n 2, 1) := (congrArg (fun c => decode c 106) zeq103).trans (by decide +kernel)
theorem d103_107 : decode (zB 103) 107 = .ok (.iconst 1, 1) := (congrArg (fun c => decode c 107) zeq103).trans (by decide +kernel)
theorem d103_108 : decode (zB 103) 108 = .ok (.if_icmp .ne 10, 3) := (congrArg (fun c => decode c 108) zeq103).trans (by decide +kernel)
theorem d103_111 : decode (zB 103) 111 = .ok (.aload_n 3, 1) := (congrArg (fun c => decode c 111) zeq103).trans (by decide +kernel)
theorem d103_112 : decode (zB 103) 112 = .ok (.getfield 166, 3) := (congrArg (fun c => decode c 112) zeq103).trans (by decide +kernel)
theorem d103_115 : decode (zB 103) 115 = .ok (.goto 10, 3) := (congrArg (fun c => decode c 115) zeq103).trans (by decide +kernel)
theorem d103_118 : decode (zB 103) 118 = .ok (.aload_n 3, 1) := (congrArg (fun c => decode c 118) zeq103).trans (by decide +kernel)
theorem d103_119 : decode (zB 103) 119 = .ok (.getfield 187, 3) := (congrArg (fun c => decode c 119) zeq103).trans (by decide +kernel)
theorem d103_122 : decode (zB 103) 122 = .ok (.invokestatic 233, 3) := (congrArg (fun c => decode c 122) zeq103).trans (by decide +kernel)
theorem d103_125 : decode (zB 103) 125 = .ok (.ireturn, 1) := (congrArg (fun c => decode c 125) zeq103).trans (by decide +kernel)
theorem e103 {d : Nat} {Q : Option Value → zM → Prop} {M1 : zM} {T : Nat → yT} {c s w t : Nat} {nm : Nat → Nat → Int32} {X : yX} (hs : s < 3) (hw : w < 3) (ht : t ≤ 60) (hC1 : CW M1 94 94 99 95 T c nm X) (k : Q (some (.int (yenA (t, X) s w))) M1) : qW (zEv (d + 5)) 103 Q 88 [(4, .int (nI t)), (3, .ref (102 + 8 * s)), (0, .ref 16), (1, .int (nI s)), (2, .int (nI w))] [] M1 := by
  have hsghC1 : SSg M1 (102 + 8 * s) := hC1.1.sg (by unfold zSa; omega)
  have h5 : gt (yxs X s) ≤ 5 := (hC1.2.2.2.1.2.2 s hs).1
  have q0 : zi M1 (102 + 8 * s) 0 = nI (gt (yxs X s)) := (hC1.2.2.2.2.2.1 s hs).1.1
  have q5 : zi M1 (102 + 8 * s) 5 = nI (gm (yxs X s) 3) := (hC1.2.2.2.2.2.1 s hs).2.1.2.2
  have k : Q (some (.int (if w = 0 then (if gt (yxs X s) < 3 then -1 else nI t) else if w = 1 then nI (gt (yxs X s)) else ybc (nI (gm (yxs X s) 3))))) M1 := k
  rcases (show w = 0 ∨ w = 1 ∨ w = 2 by omega) with rfl | rfl | rfl
  · refine q_iload_n d103_88 rfl ?_
    refine n0_ne 106 d103_89 (by decide) (by decide) (fun q => absurd q (by decide)) (fun _ => ?_)
    refine q_aload_n d103_92 rfl ?_
    refine q_v0 d103_93 rfl rfl hsghC1.1 (Nat.le_of_ble_eq_true rfl) (c104 hsghC1 q0 h5 ?_)
    refine b0_eq 104 d103_96 (by decide) (fun h96 => ?_) (fun h96 => ?_)
    · refine q_iconst (x := (-1)) d103_104 rfl ?_
      refine q_iret d103_105 rfl ?_
      rw [if_pos rfl, if_pos (by have := of_decide_eq_false h96; omega)] at k
      exact k
    · refine q_iload d103_99 rfl ?_
      refine q_goto 105 d103_101 (by decide) ?_
      refine q_iret d103_105 rfl ?_
      rw [if_pos rfl, if_neg (by have := of_decide_eq_true h96; omega)] at k
      exact k
  · refine q_iload_n d103_88 rfl ?_
    refine n0_ne 106 d103_89 (by decide) (by decide) (fun _ => ?_) (fun q => absurd q (by decide))
    refine q_iload_n d103_106 rfl ?_
    refine q_iconstN (z := 1) d103_107 ?_
    refine nc_ne 118 d103_108 (by decide) (by decide) (by decide) (fun q => absurd q (by decide)) (fun _ => ?_)
    refine q_aload_n d103_111 rfl ?_
    refine q_getv (c := 5) (f := 0) d103_112 ⟨rfl, by decide⟩ hsghC1.1 q0 ?_
    refine q_goto 125 d103_115 (by decide) ?_
    refine q_iret d103_125 rfl ?_
    rw [if_neg (by decide), if_pos rfl] at k
    exact k
  · refine q_iload_n d103_88 rfl ?_
    refine n0_ne 106 d103_89 (by decide) (by decide) (fun _ => ?_) (fun q => absurd q (by decide))
    refine q_iload_n d103_106 rfl ?_
    refine q_iconstN (z := 1) d103_107 ?_
    refine nc_ne 118 d103_108 (by decide) (by decide) (by decide) (fun _ => ?_) (fun q => absurd q (by decide))
    refine q_aload_n d103_118 rfl ?_
    refine q_getv (c := 5) (f := 5) d103_119 ⟨rfl, by decide⟩ hsghC1.1 q5 ?_
    refine q_s1 d103_122 (Or.inl rfl) rfl (Nat.le_of_ble_eq_true rfl) (c105 ?_)
    refine q_iret d103_125 rfl ?_
    rw [if_neg (by decide), if_neg (by decide)] at k
    exact k
theorem l103 {d : Nat} {Q : Option Value → zM → Prop} {D : yD} {M0 : zM} {s w : Nat} {nm : Nat → Nat → Int32} {E : Nat × yX} (hR : RC M0 D) (hs : s < 3) (hw : w < 3) (k : ∀ M', RC M' D → Fc M0 M' → Q (some (.int (yenA E s w))) M') : ∀ (r i : Nat) (M1 : zM) (X1 : yX), i ≤ 60 → 60 < i + r →  CW M1 94 94 99 95 (dT D) (dc D) nm X1 → Fr (FW 94) M0 M1 → yov60 (dT D) nm s (60 - i) i X1 = E → qW (zEv (d + 5)) 103 Q 61 [(4, .int (nI i)), (3, .ref (102 + 8 * s)), (0, .ref 16), (1, .int (nI s)), (2, .int (nI w))] [] M1 := by
  intro r
  induction r with
  | zero => intros; omega
  | succ r ih =>
    intro i M1 X1 h1 h2 hC1 hF hy
    have hsghC1 : SSg M1 (102 + 8 * s) := hC1.1.sg (by unfold zSa; omega)
    have q0 : zi M1 (102 + 8 * s) 0 = nI (gt (yxs X1 s)) := (hC1.2.2.2.2.2.1 s hs).1.1
    have h5 : gt (yxs X1 s) ≤ 5 := (hC1.2.2.2.1.2.2 s hs).1
    refine q_iload d103_61 rfl ?_
    refine q_bipush (x := nI 60) d103_63 rfl ?_
    refine nc_ge 88 d103_65 (by decide) (by omega) (by omega) (fun h65 => ?_) (fun h65 => ?_)
    · have hE : (i, X1) = E := by first | (rw [show 60 - i = 0 by omega] at hy; exact hy) | (rw [yov60_o (by have := of_decide_eq_true h72; omega)] at hy; exact hy)
      exact e103 hs hw (by omega) hC1 (by rw [hE]; exact k _ (hR.th hC1.1 hF).1 (hR.th hC1.1 hF).2)
    · refine q_aload_n d103_68 rfl ?_
      refine q_v0 d103_69 rfl rfl hsghC1.1 (Nat.le_of_ble_eq_true rfl) (c104 hsghC1 q0 h5 ?_)
      refine b0_ne 88 d103_72 (by decide) (fun h72 => ?_) (fun h72 => ?_)
      · have hE : (i, X1) = E := by first | (rw [show 60 - i = 0 by omega] at hy; exact hy) | (rw [yov60_o (by have := of_decide_eq_true h72; omega)] at hy; exact hy)
        exact e103 hs hw (by omega) hC1 (by rw [hE]; exact k _ (hR.th hC1.1 hF).1 (hR.th hC1.1 hF).2)
      · refine q_aload_n d103_75 rfl ?_
        refine q_getr (c := 7) (f := 5) d103_76 ⟨rfl, rfl⟩ (hC1.1.1.1) (hC1.1.1.2.2.2.2.2.2.2.1) ?_
        refine q_v0 d103_79 rfl rfl (hC1.1.wo (Or.inr ⟨rfl, rfl, rfl, rfl⟩)).1 (Nat.le_of_ble_eq_true rfl) (c69 hC1 hC1.l0 (fun M2 hC2 f2 => ?_))
        refine n_iinc 1 d103_82 (by decide) rfl rfl ?_
        refine q_goto 61 d103_85 (by decide) ?_
        exact ih (i + 1) _ _ (by omega) (by omega) hC2 (hF.trans f2.fr) (by rw [show 60 - i = (60 - (i + 1)) + 1 by omega, yov60_s (by have := of_decide_eq_false h72; omega)] at hy; exact hy)
theorem p103 {d : Nat} {M : zM} {Q : Option Value → zM → Prop} {D : yD} {x y : Int32} (hR : RC M D) (hD : OKD D) (k : ∀ M', RC M' D → Fc M M' → Q (some (.int (sEnds D x y))) M') : qC (d + 6) 103 [.ref 16, .int x, .int y] M Q := by
  refine qC_of (by decide) (Nat.le_of_ble_eq_true rfl) ?_
  have hS := hR.1.1
  have hT := hR.1.2.2.1
  have hO := hR.1.2.2.2.1
  have hRW := hR.1.2.2.2.2
  have hJ : RL M 62 (dL D) := hRW.2.2.2
  have hc6 := hO.1.1
  have h240 := hD.2.1
  have h120 := hR.2.2.1.1
  have hwr := hS.wo (Or.inl ⟨rfl, rfl, rfl, rfl⟩)
  have hwt := hS.wo (Or.inr ⟨rfl, rfl, rfl, rfl⟩)
  have hpr := hS.pu (Or.inl ⟨rfl, rfl, rfl, rfl⟩)
  have hpt := hS.pu (Or.inr ⟨rfl, rfl, rfl, rfl⟩)
  unfold sEnds at k
  rcases zix_c x (n := 3) (by omega) with ⟨s, hs, rfl, es⟩ | ⟨es, ns⟩
  · rw [oz_s es] at k
    have hsg : SSg M (70 + 8 * s) := hS.sg (by unfold zSa; omega)
    have hg0 : zi M (70 + 8 * s) 0 = nI (gt (dS D s)) := (hRW.2.1 s hs).1.1
    have hg5 : gt (dS D s) ≤ 5 := (hO.2.2 s hs).1
    rcases zix_c y (n := 3) (by omega) with ⟨w, hw, rfl, ew⟩ | ⟨ew, nw⟩
    · rw [oz_s ew] at k
      by_cases h0 : gt (dS D s) = 0
      · rw [if_pos h0] at k
        refine q_iload_n d103_0 rfl ?_
        refine q_s1 d103_1 (Or.inl rfl) rfl (Nat.le_of_ble_eq_true rfl) (c60t (by omega) ?_)
        refine n0_eq 16 d103_4 (by decide) (by decide) (fun q => absurd q (by decide)) (fun _ => ?_)
        refine q_iload_n d103_7 rfl ?_
        refine q_iconstN (z := 0) d103_8 ?_
        refine q_iconstN (z := 2) d103_9 ?_
        refine q_s3 d103_10 (Or.inl rfl) rfl (Nat.le_of_ble_eq_true rfl) (c10t ⟨by omega, by omega⟩ (by decide) ?_)
        refine n0_ne 19 d103_13 (by decide) (by decide) (fun _ => ?_) (fun q => absurd q (by decide))
        refine q_aload_n d103_19 rfl ?_
        refine q_getr (c := 7) (f := 4) d103_20 ⟨rfl, rfl⟩ (hS.1.1) (hS.1.2.2.2.2.2.2.1) ?_
        refine q_getr (c := 6) (f := 3) d103_23 ⟨rfl, rfl⟩ hwr.1 hwr.2.2.2.2.1 ?_
        refine q_iload_n d103_26 rfl ?_
        refine n_aald d103_27 hwr.2.2.2.2.2.1 (by decide) (by omega) (by decide) (hwr.2.2.2.2.2.2 _ (by omega)) ?_
        refine q_getv (c := 5) (f := 0) d103_28 ⟨rfl, by decide⟩ hsg.1 hg0 ?_
        refine n0_ne 37 d103_31 (by decide) (by omega) (fun h31 => (False.elim (h31 h0))) (fun h31 => ?_)
        refine q_bipush (x := (-3)) d103_34 rfl ?_
        refine q_iret d103_36 rfl ?_
        exact k _ hR (Fc.refl _)
      · rw [if_neg h0] at k
        refine q_iload_n d103_0 rfl ?_
        refine q_s1 d103_1 (Or.inl rfl) rfl (Nat.le_of_ble_eq_true rfl) (c60t (by omega) ?_)
        refine n0_eq 16 d103_4 (by decide) (by decide) (fun q => absurd q (by decide)) (fun _ => ?_)
        refine q_iload_n d103_7 rfl ?_
        refine q_iconstN (z := 0) d103_8 ?_
        refine q_iconstN (z := 2) d103_9 ?_
        refine q_s3 d103_10 (Or.inl rfl) rfl (Nat.le_of_ble_eq_true rfl) (c10t ⟨by omega, by omega⟩ (by decide) ?_)
        refine n0_ne 19 d103_13 (by decide) (by decide) (fun _ => ?_) (fun q => absurd q (by decide))
        refine q_aload_n d103_19 rfl ?_
        refine q_getr (c := 7) (f := 4) d103_20 ⟨rfl, rfl⟩ (hS.1.1) (hS.1.2.2.2.2.2.2.1) ?_
        refine q_getr (c := 6) (f := 3) d103_23 ⟨rfl, rfl⟩ hwr.1 hwr.2.2.2.2.1 ?_
        refine q_iload_n d103_26 rfl ?_
        refine n_aald d103_27 hwr.2.2.2.2.2.1 (by decide) (by omega) (by decide) (hwr.2.2.2.2.2.2 _ (by omega)) ?_
        refine q_getv (c := 5) (f := 0) d103_28 ⟨rfl, by decide⟩ hsg.1 hg0 ?_
        refine n0_ne 37 d103_31 (by decide) (by omega) (fun h31 => ?_) (fun h31 => (False.elim (h0 h31)))
        refine q_aload_n d103_37 rfl ?_
        refine q_getr (c := 7) (f := 5) d103_38 ⟨rfl, rfl⟩ (hS.1.1) (hS.1.2.2.2.2.2.2.2.1) ?_
        refine q_aload_n d103_41 rfl ?_
        refine q_getr (c := 7) (f := 4) d103_42 ⟨rfl, rfl⟩ (hS.1.1) (hS.1.2.2.2.2.2.2.1) ?_
        refine q_v1 d103_45 rfl rfl hwt.1 (Nat.le_of_ble_eq_true rfl) (c101 (nm := dnm D) (X := dX D) hR.1 (fun M1 hC1 f1 => ?_))
        have hsghC1 : SSg M1 (102 + 8 * s) := hC1.1.sg (by unfold zSa; omega)
        refine q_aload_n d103_48 rfl ?_
        refine q_getr (c := 7) (f := 5) d103_49 ⟨rfl, rfl⟩ (hC1.1.1.1) (hC1.1.1.2.2.2.2.2.2.2.1) ?_
        refine q_getr (c := 6) (f := 3) d103_52 ⟨rfl, rfl⟩ (hC1.1.wo (Or.inr ⟨rfl, rfl, rfl, rfl⟩)).1 (hC1.1.wo (Or.inr ⟨rfl, rfl, rfl, rfl⟩)).2.2.2.2.1 ?_
        refine q_iload_n d103_55 rfl ?_
        refine n_aald d103_56 (hC1.1.wo (Or.inr ⟨rfl, rfl, rfl, rfl⟩)).2.2.2.2.2.1 (by decide) (by omega) (by decide) ((hC1.1.wo (Or.inr ⟨rfl, rfl, rfl, rfl⟩)).2.2.2.2.2.2 _ (by omega)) ?_
        refine q_astore_n d103_57 (by decide) rfl ?_
        refine q_iconstN (z := 0) d103_58 ?_
        refine q_istore d103_59 (by decide) rfl ?_
        exact l103 (E := yov60 (dT D) (dnm D) s 60 0 (dW D, none)) (nm := dnm D) hR hs hw (fun M' g1 g2 => k M' g1 g2) 61 0 M1 _ (by omega) (by omega) hC1 (f1.mono (fun b q e => ⟨by have := e.1; omega, by have := e.2; omega⟩)) rfl
    · rw [oz_n ew] at k
      refine q_iload_n d103_0 rfl ?_
      refine q_s1 d103_1 (Or.inl rfl) rfl (Nat.le_of_ble_eq_true rfl) (c60t (by omega) ?_)
      refine n0_eq 16 d103_4 (by decide) (by decide) (fun q => absurd q (by decide)) (fun _ => ?_)
      refine q_iload_n d103_7 rfl ?_
      refine q_iconstN (z := 0) d103_8 ?_
      refine q_iconstN (z := 2) d103_9 ?_
      refine q_s3 d103_10 (Or.inl rfl) rfl (Nat.le_of_ble_eq_true rfl) (c10f (by decide) (by omega) (by decide) ?_)
      refine n0_ne 19 d103_13 (by decide) (by decide) (fun q => absurd q (by decide)) (fun _ => ?_)
      refine q_bipush (x := (-2)) d103_16 rfl ?_
      refine q_iret d103_18 rfl ?_
      exact k _ hR (Fc.refl _)
  · rw [oz_n es] at k
    refine q_iload_n d103_0 rfl ?_
    refine q_s1 d103_1 (Or.inl rfl) rfl (Nat.le_of_ble_eq_true rfl) (c60f es ?_)
    refine n0_eq 16 d103_4 (by decide) (by decide) (fun _ => ?_) (fun q => absurd q (by decide))
    refine q_bipush (x := (-2)) d103_16 rfl ?_
    refine q_iret d103_18 rfl ?_
    exact k _ hR (Fc.refl _)
theorem yss_id (X : yX) (s : Nat) : yss X s (yxs X s) = X := by
  unfold yss yxs
  have : yu X.1.2 s (X.1.2 s) = X.1.2 := by
    funext j
    by_cases e : j = s
    · subst e; rw [yu_s]
    · rw [yu_n e]
  rw [this]
theorem yxs_s (X : yX) (s : Nat) (A : yS) : yxs (yss X s A) s = A := yu_s _ _ _
/-- plans of the first i steps are drawn -/
def yzq (z : Int32) (i : Nat) : Nat → Int32 := fun j => if j < i then yzp (yzs z (j + 1)) else 0
theorem yzq_s (z : Int32) (i : Nat) : yu (yzq z i) i (yzp (yzs z (i + 1))) = yzq z (i + 1) := by
  funext j
  by_cases e : j = i
  · subst e; rw [yu_s]; unfold yzq; rw [if_pos (by omega)]
  · rw [yu_n e]; unfold yzq
    by_cases h : j < i
    · rw [if_pos h, if_pos (by omega)]
    · rw [if_neg h, if_neg (by omega)]
def yzX (X : yX) (s : Nat) (z : Int32) (i : Nat) : yX := yss X s (gpS (yxs X s) (yzq z i))
theorem CW_gp {M : zM} {T : Nat → yT} {c s i : Nat} {v : Int32} {nm : Nat → Nat → Int32} {X : yX} (hC : CW M 94 94 99 95 T c nm X) (hs : s < 3) (hi : i < 12) : CW (zwi M (102 + 8 * s + 2 + 2) i v) 94 94 99 95 T c nm (yss X s (gpS (yxs X s) (yu (gp (yxs X s)) i v))) := by
  have hw := hC.2.1
  have hRs := hC.2.2.2.2.2.1 s hs
  have f : Fi (fun b _ => b = 102 + 8 * s + 4) M (zwi M (102 + 8 * s + 2 + 2) i v) := (Fi.refl _ M).wi rfl
  have f2 : Fi (FS (99 + 3 + 8 * s)) M (zwi M (102 + 8 * s + 2 + 2) i v) := f.mono (fun b _ q => FS_x (by omega) (by omega))
  refine hC.up (RW_sg hw hC.2.2.2.2 hs (RS_gp hRs (fun j hj => ?_) f) f2.fr) (OKW_ss hC.2.2.2.1 (OKS_pl (hC.2.2.2.1.2.2 s hs))) (f2.mono (Fb_m (by omega) (by omega)))
  show zi (zwi M (102 + 8 * s + 4) i v) (102 + 8 * s + 4) j = yu (gp (yxs X s)) i v j
  by_cases e : j = i
  · subst e; rw [wi_s, yu_s]
  · rw [wi_n (Or.inr e), yu_n e]
    exact (hRs.2.2.2.2.2 j hj).1
theorem CW_zs {M : zM} {T : Nat → yT} {c s i : Nat} {z : Int32} {nm : Nat → Nat → Int32} {X : yX} (hC : CW M 94 94 99 95 T c nm (yzX X s z i)) (hs : s < 3) (hi : i < 12) : CW (zwi M (102 + 8 * s + 2 + 2) i (yzp (yzs z (i + 1)))) 94 94 99 95 T c nm (yzX X s z (i + 1)) := by
  have h := CW_gp hC (v := yzp (yzs z (i + 1))) hs hi
  unfold yzX at h
  rw [yxs_s, yss_yss] at h
  have e : gpS (gpS (yxs X s) (yzq z i)) (yu (gp (gpS (yxs X s) (yzq z i))) i (yzp (yzs z (i + 1)))) = gpS (yxs X s) (yzq z (i + 1)) := by
    show gpS (yxs X s) (yu (yzq z i) i (yzp (yzs z (i + 1)))) = _
    rw [yzq_s]
  rw [e] at h
  exact h
theorem d107_0 : decode (zB 107) 0 = .ok (.aload_n 0, 1) := (congrArg (fun c => decode c 0) zeq107).trans (by decide +kernel)
theorem d107_1 : decode (zB 107) 1 = .ok (.getfield 41, 3) := (congrArg (fun c => decode c 1) zeq107).trans (by decide +kernel)
theorem d107_4 : decode (zB 107) 4 = .ok (.aload_n 0, 1) := (congrArg (fun c => decode c 4) zeq107).trans (by decide +kernel)
theorem d107_5 : decode (zB 107) 5 = .ok (.getfield 37, 3) := (congrArg (fun c => decode c 5) zeq107).trans (by decide +kernel)
theorem d107_8 : decode (zB 107) 8 = .ok (.invokevirtual 227, 3) := (congrArg (fun c => decode c 8) zeq107).trans (by decide +kernel)
theorem d107_11 : decode (zB 107) 11 = .ok (.aload_n 0, 1) := (congrArg (fun c => decode c 11) zeq107).trans (by decide +kernel)
theorem d107_12 : decode (zB 107) 12 = .ok (.getfield 41, 3) := (congrArg (fun c => decode c 12) zeq107).trans (by decide +kernel)
theorem d107_15 : decode (zB 107) 15 = .ok (.invokevirtual 321, 3) := (congrArg (fun c => decode c 15) zeq107).trans (by decide +kernel)
theorem d107_18 : decode (zB 107) 18 = .ok (.aload_n 0, 1) := (congrArg (fun c => decode c 18) zeq107).trans (by decide +kernel)
theorem d107_19 : decode (zB 107) 19 = .ok (.getfield 41, 3) := (congrArg (fun c => decode c 19) zeq107).trans (by decide +kernel)
theorem d107_22 : decode (zB 107) 22 = .ok (.getfield 144, 3) := (congrArg (fun c => decode c 22) zeq107).trans (by decide +kernel)
theorem d107_25 : decode (zB 107) 25 = .ok (.iload_n 1, 1) := (congrArg (fun c => decode c 25) zeq107).trans (by decide +kernel)
theorem d107_26 : decode (zB 107) 26 = .ok (.aaload, 1) := (congrArg (fun c => decode c 26) zeq107).trans (by decide +kernel)
theorem d107_27 : decode (zB 107) 27 = .ok (.astore_n 3, 1) := (congrArg (fun c => decode c 27) zeq107).trans (by decide +kernel)
theorem d107_28 : decode (zB 107) 28 = .ok (.iload_n 2, 1) := (congrArg (fun c => decode c 28) zeq107).trans (by decide +kernel)
theorem d107_29 : decode (zB 107) 29 = .ok (.istore 4, 2) := (congrArg (fun c => decode c 29) zeq107).trans (by decide +kernel)
theorem d107_31 : decode (zB 107) 31 = .ok (.iconst 0, 1) := (congrArg (fun c => decode c 31) zeq107).trans (by decide +kernel)
theorem d107_32 : decode (zB 107) 32 = .ok (.istore 5, 2) := (congrArg (fun c => decode c 32) zeq107).trans (by decide +kernel)
theorem d107_34 : decode (zB 107) 34 = .ok (.iload 5, 2) := (congrArg (fun c => decode c 34) zeq107).trans (by decide +kernel)
theorem d107_36 : decode (zB 107) 36 = .ok (.aload_n 3, 1) := (congrArg (fun c => decode c 36) zeq107).trans (by decide +kernel)
theorem d107_37 : decode (zB 107) 37 = .ok (.invokevirtual 324, 3) := (congrArg (fun c => decode c 37) zeq107).trans (by decide +kernel)
theorem d107_40 : decode (zB 107) 40 = .ok (.if_icmp .ge 43, 3) := (congrArg (fun c => decode c 40) zeq107).trans (by decide +kernel)
theorem d107_43 : decode (zB 107) 43 = .ok (.iload 4, 2) := (congrArg (fun c => decode c 43) zeq107).trans (by decide +kernel)
theorem d107_45 : decode (zB 107) 45 = .ok (.ldc_w 326, 3) := (congrArg (fun c => decode c 45) zeq107).trans (by decide +kernel)
theorem d107_48 : decode (zB 107) 48 = .ok (.imul, 1) := (congrArg (fun c => decode c 48) zeq107).trans (by decide +kernel)
theorem d107_49 : decode (zB 107) 49 = .ok (.sipush 12345, 3) := (congrArg (fun c => decode c 49) zeq107).trans (by decide +kernel)
theorem d107_52 : decode (zB 107) 52 = .ok (.iadd, 1) := (congrArg (fun c => decode c 52) zeq107).trans (by decide +kernel)
theorem d107_53 : decode (zB 107) 53 = .ok (.istore 4, 2) := (congrArg (fun c => decode c 53) zeq107).trans (by decide +kernel)
theorem d107_55 : decode (zB 107) 55 = .ok (.aload_n 3, 1) := (congrArg (fun c => decode c 55) zeq107).trans (by decide +kernel)
theorem d107_56 : decode (zB 107) 56 = .ok (.getfield 169, 3) := (congrArg (fun c => decode c 56) zeq107).trans (by decide +kernel)
theorem d107_59 : decode (zB 107) 59 = .ok (.iload 5, 2) := (congrArg (fun c => decode c 59) zeq107).trans (by decide +kernel)
theorem d107_61 : decode (zB 107) 61 = .ok (.iload 4, 2) := (congrArg (fun c => decode c 61) zeq107).trans (by decide +kernel)
theorem d107_63 : decode (zB 107) 63 = .ok (.bipush 9, 2) := (congrArg (fun c => decode c 63) zeq107).trans (by decide +kernel)
theorem d107_65 : decode (zB 107) 65 = .ok (.iushr, 1) := (congrArg (fun c => decode c 65) zeq107).trans (by decide +kernel)
theorem d107_66 : decode (zB 107) 66 = .ok (.iconst 4, 1) := (congrArg (fun c => decode c 66) zeq107).trans (by decide +kernel)
theorem d107_67 : decode (zB 107) 67 = .ok (.irem, 1) := (congrArg (fun c => decode c 67) zeq107).trans (by decide +kernel)
theorem d107_68 : decode (zB 107) 68 = .ok (.ifCond .ne 7, 3) := (congrArg (fun c => decode c 68) zeq107).trans (by decide +kernel)
theorem d107_71 : decode (zB 107) 71 = .ok (.iconst 1, 1) := (congrArg (fun c => decode c 71) zeq107).trans (by decide +kernel)
theorem d107_72 : decode (zB 107) 72 = .ok (.goto 4, 3) := (congrArg (fun c => decode c 72) zeq107).trans (by decide +kernel)
theorem d107_75 : decode (zB 107) 75 = .ok (.iconst 0, 1) := (congrArg (fun c => decode c 75) zeq107).trans (by decide +kernel)
theorem d107_76 : decode (zB 107) 76 = .ok (.iastore, 1) := (congrArg (fun c => decode c 76) zeq107).trans (by decide +kernel)
theorem d107_77 : decode (zB 107) 77 = .ok (.iinc 5 1, 3) := (congrArg (fun c => decode c 77) zeq107).trans (by decide +kernel)
theorem d107_80 : decode (zB 107) 80 = .ok (.goto (-46), 3) := (congrArg (fun c => decode c 80) zeq107).trans (by decide +kernel)
theorem d107_83 : decode (zB 107) 83 = .ok (.iconst 0, 1) := (congrArg (fun c => decode c 83) zeq107).trans (by decide +kernel)
theorem d107_84 : decode (zB 107) 84 = .ok (.istore 5, 2) := (congrArg (fun c => decode c 84) zeq107).trans (by decide +kernel)
theorem d107_86 : decode (zB 107) 86 = .ok (.iload 5, 2) := (congrArg (fun c => decode c 86) zeq107).trans (by decide +kernel)
theorem d107_88 : decode (zB 107) 88 = .ok (.bipush 40, 2) := (congrArg (fun c => decode c 88) zeq107).trans (by decide +kernel)
theorem d107_90 : decode (zB 107) 90 = .ok (.if_icmp .ge 16, 3) := (congrArg (fun c => decode c 90) zeq107).trans (by decide +kernel)
theorem d107_93 : decode (zB 107) 93 = .ok (.aload_n 0, 1) := (congrArg (fun c => decode c 93) zeq107).trans (by decide +kernel)
theorem d107_94 : decode (zB 107) 94 = .ok (.getfield 41, 3) := (congrArg (fun c => decode c 94) zeq107).trans (by decide +kernel)
theorem d107_97 : decode (zB 107) 97 = .ok (.invokevirtual 175, 3) := (congrArg (fun c => decode c 97) zeq107).trans (by decide +kernel)
theorem d107_100 : decode (zB 107) 100 = .ok (.iinc 5 1, 3) := (congrArg (fun c => decode c 100) zeq107).trans (by decide +kernel)
theorem d107_103 : decode (zB 107) 103 = .ok (.goto (-17), 3) := (congrArg (fun c => decode c 103) zeq107).trans (by decide +kernel)
theorem d107_106 : decode (zB 107) 106 = .ok (.aload_n 3, 1) := (congrArg (fun c => decode c 106) zeq107).trans (by decide +kernel)
theorem d107_107 : decode (zB 107) 107 = .ok (.getfield 166, 3) := (congrArg (fun c => decode c 107) zeq107).trans (by decide +kernel)
theorem d107_110 : decode (zB 107) 110 = .ok (.ireturn, 1) := (congrArg (fun c => decode c 110) zeq107).trans (by decide +kernel)
theorem l107b {d : Nat} {Q : Option Value → zM → Prop} {D : yD} {M0 : zM} {s : Nat} {z v : Int32} {nm : Nat → Nat → Int32} {XF : yX} (hR : RC M0 D) (hs : s < 3) (k : gt (yxs XF s) ≤ 5 → ∀ M', RC M' D → Fc M0 M' → Q (some (.int (nI (gt (yxs XF s))))) M') : ∀ (r i : Nat) (M1 : zM) (X1 : yX), i ≤ 40 → 40 < i + r →  CW M1 94 94 99 95 (dT D) (dc D) nm X1 → Fr (FW 94) M0 M1 → ytn (dT D) nm (40 - i) X1 = XF → qW (zEv (d + 5)) 107 Q 86 [(5, .int (nI i)), (4, .int v), (3, .ref (102 + 8 * s)), (0, .ref 16), (1, .int (nI s)), (2, .int z)] [] M1 := by
  intro r
  induction r with
  | zero => intros; omega
  | succ r ih =>
    intro i M1 X1 h1 h2 hC1 hF hy
    have hsghC1 : SSg M1 (102 + 8 * s) := hC1.1.sg (by unfold zSa; omega)
    refine q_iload d107_86 rfl ?_
    refine q_bipush (x := nI 40) d107_88 rfl ?_
    refine nc_ge 106 d107_90 (by decide) (by omega) (by omega) (fun h90 => ?_) (fun h90 => ?_)
    · refine q_aload_n d107_106 rfl ?_
      refine q_getv (c := 5) (f := 0) d107_107 ⟨rfl, by decide⟩ hsghC1.1 (hC1.2.2.2.2.2.1 s (by omega)).1.1 ?_
      refine q_iret d107_110 rfl ?_
      have e : X1 = XF := by rw [show 40 - i = 0 by omega] at hy; exact hy
      subst e
      exact k (hC1.2.2.2.1.2.2 s hs).1 _ (hR.th hC1.1 hF).1 (hR.th hC1.1 hF).2
    · refine q_aload_n d107_93 rfl ?_
      refine q_getr (c := 7) (f := 5) d107_94 ⟨rfl, rfl⟩ (hC1.1.1.1) (hC1.1.1.2.2.2.2.2.2.2.1) ?_
      refine q_v0 d107_97 rfl rfl (hC1.1.wo (Or.inr ⟨rfl, rfl, rfl, rfl⟩)).1 (Nat.le_of_ble_eq_true rfl) (c69 hC1 hC1.l0 (fun M2 hC2 f2 => ?_))
      refine n_iinc 1 d107_100 (by decide) rfl rfl ?_
      refine q_goto 86 d107_103 (by decide) ?_
      exact ih (i + 1) _ _ (by omega) (by omega) hC2 (hF.trans f2.fr) (by rw [show 40 - i = (40 - (i + 1)) + 1 by omega, ytn] at hy; exact hy)
theorem l107a {d : Nat} {Q : Option Value → zM → Prop} {D : yD} {M0 : zM} {s : Nat} {z : Int32} {nm : Nat → Nat → Int32} (hR : RC M0 D) (hO : OKW (dT D) (dc D) (dW D)) (hs : s < 3) (h0 : gt (dS D s) ≠ 0) (k : gt (yxs (ytn (dT D) nm 40 (yzX (ydp 3 (dW D, none)) s z (tn (dT D (gx (dS D s)))))) s) ≤ 5 → ∀ M', RC M' D → Fc M0 M' → Q (some (.int (nI (gt (yxs (ytn (dT D) nm 40 (yzX (ydp 3 (dW D, none)) s z (tn (dT D (gx (dS D s)))))) s))))) M') : ∀ (r i : Nat) (M1 : zM), i ≤ tn (dT D (gx (dS D s))) → tn (dT D (gx (dS D s))) < i + r →  CW M1 94 94 99 95 (dT D) (dc D) nm (yzX (ydp 3 (dW D, none)) s z i) → Fr (FW 94) M0 M1 → qW (zEv (d + 5)) 107 Q 34 [(5, .int (nI i)), (4, .int (yzs z i)), (3, .ref (102 + 8 * s)), (0, .ref 16), (1, .int (nI s)), (2, .int z)] [] M1 := by
  intro r
  induction r with
  | zero => intros; omega
  | succ r ih =>
    intro i M1 h1 h2 hC1 hF
    have hsghC1 : SSg M1 (102 + 8 * s) := hC1.1.sg (by unfold zSa; omega)
    have hgx : gx (dS D s) < dc D := (hO.2.2 s hs).2.1 h0
    have hn := (hO.1.2 _ hgx).n
    have hc6 := hO.1.1
    have e1 : yxs (yzX (ydp 3 (dW D, none)) s z i) s = gpS (ydr (dS D s)) (yzq z i) := by
      unfold yzX
      rw [yxs_s]
      show gpS (if s < 3 then ydr ((dW D).2 s) else (dW D).2 s) (yzq z i) = _
      rw [if_pos hs]; rfl
    have q2 : zr M1 (102 + 8 * s) 2 = some (20 + 7 * gx (dS D s)) := by
      have h := (hC1.2.2.2.2.2.1 s hs).1.2.2
      have h : zr M1 (102 + 8 * s) 2 = prg (yxs (yzX (ydp 3 (dW D, none)) s z i) s) := h
      rw [h, e1]
      exact if_neg h0
    refine q_iload d107_34 rfl ?_
    refine q_aload_n d107_36 rfl ?_
    refine q_v0 d107_37 rfl rfl hsghC1.1 (Nat.le_of_ble_eq_true rfl) (c109 hsghC1 q2 (hC1.1.pr (by omega)) (hC1.2.2.1 _ hgx) ?_)
    refine nc_ge 83 d107_40 (by decide) (by omega) (by omega) (fun h40 => ?_) (fun h40 => ?_)
    · refine q_iconstN (z := 0) d107_83 ?_
      refine q_istore d107_84 (by decide) rfl ?_
      have ei : i = tn (dT D (gx (dS D s))) := by omega
      subst ei
      exact l107b (nm := nm) hR hs k 41 0 M1 _ (by omega) (by omega) hC1 hF rfl
    · refine q_iload d107_43 rfl ?_
      refine q_ldc_w d107_45 rfl ?_
      refine q_imul d107_48 ?_
      refine q_sipush (x := (12345)) d107_49 rfl ?_
      refine q_iadd d107_52 ?_
      refine q_istore d107_53 (by decide) rfl ?_
      refine q_aload_n d107_55 rfl ?_
      refine q_getr (c := 5) (f := 10) d107_56 ⟨rfl, rfl⟩ hsghC1.1 (hsghC1.2.2.1 2 (by decide)) ?_
      refine q_iload d107_59 rfl ?_
      refine q_iload d107_61 rfl ?_
      refine q_bipush (x := nI 9) d107_63 rfl ?_
      refine q_iushr d107_65 ?_
      refine q_iconstN (z := 4) d107_66 ?_
      refine q_irem d107_67 (by decide) ?_
      refine i0_ne 75 d107_68 (by decide) (fun h68 => ?_) (fun h68 => ?_)
      · refine q_iconstN (z := 0) d107_75 ?_
        refine n_iast d107_76 (hsghC1.2.2.2 3 (by decide)) (by omega) (by decide) ?_
        refine n_iinc 1 d107_77 (by decide) rfl rfl ?_
        refine q_goto 34 d107_80 (by decide) ?_
        exact ih (i + 1) _ (by omega) (by omega) (by have h := CW_zs (z := z) hC1 hs (by omega); rw [show yzp (yzs z (i + 1)) = nI 0 from if_neg h68] at h; exact h) (hF.trans ((Fr.refl _ _).wi (by constructor <;> omega)))
      · refine q_iconstN (z := 1) d107_71 ?_
        refine q_goto 76 d107_72 (by decide) ?_
        refine n_iast d107_76 (hsghC1.2.2.2 3 (by decide)) (by omega) (by decide) ?_
        refine n_iinc 1 d107_77 (by decide) rfl rfl ?_
        refine q_goto 34 d107_80 (by decide) ?_
        exact ih (i + 1) _ (by omega) (by omega) (by have h := CW_zs (z := z) hC1 hs (by omega); rw [show yzp (yzs z (i + 1)) = nI 1 from if_pos h68] at h; exact h) (hF.trans ((Fr.refl _ _).wi (by constructor <;> omega)))
theorem c107 {d : Nat} {M : zM} {Q : Option Value → zM → Prop} {D : yD} {s : Nat} {z : Int32} (hR : RC M D) (hs : s < 3) (h0 : gt (dS D s) ≠ 0) (k : ydn D s z ≤ 5 → ∀ M', RC M' D → Fc M M' → Q (some (.int (nI (ydn D s z)))) M') : qC (d + 6) 107 [.ref 16, .int (nI s), .int z] M Q := by
  refine qC_of (by decide) (Nat.le_of_ble_eq_true rfl) ?_
  have hS := hR.1.1
  have hT := hR.1.2.2.1
  have hO := hR.1.2.2.2.1
  have hRW := hR.1.2.2.2.2
  have hJ : RL M 62 (dL D) := hRW.2.2.2
  have hc6 := hO.1.1
  have h120 := hR.2.2.1.1
  have hwr := hS.wo (Or.inl ⟨rfl, rfl, rfl, rfl⟩)
  have hwt := hS.wo (Or.inr ⟨rfl, rfl, rfl, rfl⟩)
  have hpr := hS.pu (Or.inl ⟨rfl, rfl, rfl, rfl⟩)
  have hpt := hS.pu (Or.inr ⟨rfl, rfl, rfl, rfl⟩)
  have hsg : SSg M (70 + 8 * s) := hS.sg (by unfold zSa; omega)
  have hg0 : zi M (70 + 8 * s) 0 = nI (gt (dS D s)) := (hRW.2.1 s hs).1.1
  have k : gt (yxs (ytn (dT D) (dnm D) 40 (yzX (ydp 3 (dW D, none)) s z (tn (dT D (gx (dS D s)))))) s) ≤ 5 → ∀ M', RC M' D → Fc M M' → Q (some (.int (nI (gt (yxs (ytn (dT D) (dnm D) 40 (yzX (ydp 3 (dW D, none)) s z (tn (dT D (gx (dS D s)))))) s))))) M' := k
  refine q_aload_n d107_0 rfl ?_
  refine q_getr (c := 7) (f := 5) d107_1 ⟨rfl, rfl⟩ (hS.1.1) (hS.1.2.2.2.2.2.2.2.1) ?_
  refine q_aload_n d107_4 rfl ?_
  refine q_getr (c := 7) (f := 4) d107_5 ⟨rfl, rfl⟩ (hS.1.1) (hS.1.2.2.2.2.2.2.1) ?_
  refine q_v1 d107_8 rfl rfl hwt.1 (Nat.le_of_ble_eq_true rfl) (c101 (nm := dnm D) (X := dX D) hR.1 (fun M1 hC1 f1 => ?_))
  refine q_aload_n d107_11 rfl ?_
  refine q_getr (c := 7) (f := 5) d107_12 ⟨rfl, rfl⟩ (hC1.1.1.1) (hC1.1.1.2.2.2.2.2.2.2.1) ?_
  refine q_v0 d107_15 rfl rfl (hC1.1.wo (Or.inr ⟨rfl, rfl, rfl, rfl⟩)).1 (Nat.le_of_ble_eq_true rfl) (c108 hC1 (fun M2 hC2 f2 => ?_))
  have hsghC2 : SSg M2 (102 + 8 * s) := hC2.1.sg (by unfold zSa; omega)
  have e0 : yzX (ydp 3 (dW D, none)) s z 0 = ydp 3 (dW D, none) := by
    have e1 : gpS (yxs (ydp 3 (dW D, none)) s) (yzq z 0) = yxs (ydp 3 (dW D, none)) s := by
      show gpS (if s < 3 then ydr ((dW D).2 s) else (dW D).2 s) (fun _ => 0) = (if s < 3 then ydr ((dW D).2 s) else (dW D).2 s)
      rw [if_pos hs]; rfl
    unfold yzX
    rw [e1, yss_id]
  refine q_aload_n d107_18 rfl ?_
  refine q_getr (c := 7) (f := 5) d107_19 ⟨rfl, rfl⟩ (hC2.1.1.1) (hC2.1.1.2.2.2.2.2.2.2.1) ?_
  refine q_getr (c := 6) (f := 3) d107_22 ⟨rfl, rfl⟩ (hC2.1.wo (Or.inr ⟨rfl, rfl, rfl, rfl⟩)).1 (hC2.1.wo (Or.inr ⟨rfl, rfl, rfl, rfl⟩)).2.2.2.2.1 ?_
  refine q_iload_n d107_25 rfl ?_
  refine n_aald d107_26 (hC2.1.wo (Or.inr ⟨rfl, rfl, rfl, rfl⟩)).2.2.2.2.2.1 (by decide) (by omega) (by decide) ((hC2.1.wo (Or.inr ⟨rfl, rfl, rfl, rfl⟩)).2.2.2.2.2.2 _ (by omega)) ?_
  refine q_astore_n d107_27 (by decide) rfl ?_
  refine q_iload_n d107_28 rfl ?_
  refine q_istore d107_29 (by decide) rfl ?_
  refine q_iconstN (z := 0) d107_31 ?_
  refine q_istore d107_32 (by decide) rfl ?_
  exact l107a (nm := dnm D) hR hO hs h0 k (tn (dT D (gx (dS D s))) + 1) 0 M2 (Nat.zero_le _) (by omega) (by rw [e0]; exact hC2) ((f1.mono (fun b q e => ⟨by have := e.1; omega, by have := e.2; omega⟩)).trans f2.fr)
theorem d106_0 : decode (zB 106) 0 = .ok (.iload_n 1, 1) := (congrArg (fun c => decode c 0) zeq106).trans (by decide +kernel)
theorem d106_1 : decode (zB 106) 1 = .ok (.invokestatic 141, 3) := (congrArg (fun c => decode c 1) zeq106).trans (by decide +kernel)
theorem d106_4 : decode (zB 106) 4 = .ok (.ifCond .ne 6, 3) := (congrArg (fun c => decode c 4) zeq106).trans (by decide +kernel)
theorem d106_7 : decode (zB 106) 7 = .ok (.bipush (-2), 2) := (congrArg (fun c => decode c 7) zeq106).trans (by decide +kernel)
theorem d106_9 : decode (zB 106) 9 = .ok (.ireturn, 1) := (congrArg (fun c => decode c 9) zeq106).trans (by decide +kernel)
theorem d106_10 : decode (zB 106) 10 = .ok (.aload_n 0, 1) := (congrArg (fun c => decode c 10) zeq106).trans (by decide +kernel)
theorem d106_11 : decode (zB 106) 11 = .ok (.getfield 37, 3) := (congrArg (fun c => decode c 11) zeq106).trans (by decide +kernel)
theorem d106_14 : decode (zB 106) 14 = .ok (.getfield 144, 3) := (congrArg (fun c => decode c 14) zeq106).trans (by decide +kernel)
theorem d106_17 : decode (zB 106) 17 = .ok (.iload_n 1, 1) := (congrArg (fun c => decode c 17) zeq106).trans (by decide +kernel)
theorem d106_18 : decode (zB 106) 18 = .ok (.aaload, 1) := (congrArg (fun c => decode c 18) zeq106).trans (by decide +kernel)
theorem d106_19 : decode (zB 106) 19 = .ok (.getfield 166, 3) := (congrArg (fun c => decode c 19) zeq106).trans (by decide +kernel)
theorem d106_22 : decode (zB 106) 22 = .ok (.ifCond .ne 8, 3) := (congrArg (fun c => decode c 22) zeq106).trans (by decide +kernel)
theorem d106_25 : decode (zB 106) 25 = .ok (.bipush (-3), 2) := (congrArg (fun c => decode c 25) zeq106).trans (by decide +kernel)
theorem d106_27 : decode (zB 106) 27 = .ok (.goto 9, 3) := (congrArg (fun c => decode c 27) zeq106).trans (by decide +kernel)
theorem d106_30 : decode (zB 106) 30 = .ok (.aload_n 0, 1) := (congrArg (fun c => decode c 30) zeq106).trans (by decide +kernel)
theorem d106_31 : decode (zB 106) 31 = .ok (.iload_n 1, 1) := (congrArg (fun c => decode c 31) zeq106).trans (by decide +kernel)
theorem d106_32 : decode (zB 106) 32 = .ok (.iload_n 2, 1) := (congrArg (fun c => decode c 32) zeq106).trans (by decide +kernel)
theorem d106_33 : decode (zB 106) 33 = .ok (.invokevirtual 238, 3) := (congrArg (fun c => decode c 33) zeq106).trans (by decide +kernel)
theorem d106_36 : decode (zB 106) 36 = .ok (.ireturn, 1) := (congrArg (fun c => decode c 36) zeq106).trans (by decide +kernel)
theorem p106 {d : Nat} {M : zM} {Q : Option Value → zM → Prop} {D : yD} {x z : Int32} (hR : RC M D) (hD : OKD D) (k : ∀ M', RC M' D → Fc M M' → Q (some (.int (sDrawn D x z))) M') : qC (d + 7) 106 [.ref 16, .int x, .int z] M Q := by
  refine qC_of (by decide) (Nat.le_of_ble_eq_true rfl) ?_
  have hS := hR.1.1
  have hT := hR.1.2.2.1
  have hO := hR.1.2.2.2.1
  have hRW := hR.1.2.2.2.2
  have hJ : RL M 62 (dL D) := hRW.2.2.2
  have hc6 := hO.1.1
  have h240 := hD.2.1
  have h120 := hR.2.2.1.1
  have hwr := hS.wo (Or.inl ⟨rfl, rfl, rfl, rfl⟩)
  have hwt := hS.wo (Or.inr ⟨rfl, rfl, rfl, rfl⟩)
  have hpr := hS.pu (Or.inl ⟨rfl, rfl, rfl, rfl⟩)
  have hpt := hS.pu (Or.inr ⟨rfl, rfl, rfl, rfl⟩)
  unfold sDrawn at k
  rcases zix_c x (n := 3) (by omega) with ⟨s, hs, rfl, es⟩ | ⟨es, ns⟩
  · rw [oz_s es] at k
    have hsg : SSg M (70 + 8 * s) := hS.sg (by unfold zSa; omega)
    have hg0 : zi M (70 + 8 * s) 0 = nI (gt (dS D s)) := (hRW.2.1 s hs).1.1
    have hg5 : gt (dS D s) ≤ 5 := (hO.2.2 s hs).1
    by_cases h0 : gt (dS D s) = 0
    · rw [if_pos h0] at k
      refine q_iload_n d106_0 rfl ?_
      refine q_s1 d106_1 (Or.inl rfl) rfl (Nat.le_of_ble_eq_true rfl) (c60t (by omega) ?_)
      refine n0_ne 10 d106_4 (by decide) (by decide) (fun _ => ?_) (fun q => absurd q (by decide))
      refine q_aload_n d106_10 rfl ?_
      refine q_getr (c := 7) (f := 4) d106_11 ⟨rfl, rfl⟩ (hS.1.1) (hS.1.2.2.2.2.2.2.1) ?_
      refine q_getr (c := 6) (f := 3) d106_14 ⟨rfl, rfl⟩ hwr.1 hwr.2.2.2.2.1 ?_
      refine q_iload_n d106_17 rfl ?_
      refine n_aald d106_18 hwr.2.2.2.2.2.1 (by decide) (by omega) (by decide) (hwr.2.2.2.2.2.2 _ (by omega)) ?_
      refine q_getv (c := 5) (f := 0) d106_19 ⟨rfl, by decide⟩ hsg.1 hg0 ?_
      refine n0_ne 30 d106_22 (by decide) (by omega) (fun h22 => (False.elim (h22 h0))) (fun h22 => ?_)
      refine q_bipush (x := (-3)) d106_25 rfl ?_
      refine q_goto 36 d106_27 (by decide) ?_
      refine q_iret d106_36 rfl ?_
      exact k _ hR (Fc.refl _)
    · rw [if_neg h0] at k
      refine q_iload_n d106_0 rfl ?_
      refine q_s1 d106_1 (Or.inl rfl) rfl (Nat.le_of_ble_eq_true rfl) (c60t (by omega) ?_)
      refine n0_ne 10 d106_4 (by decide) (by decide) (fun _ => ?_) (fun q => absurd q (by decide))
      refine q_aload_n d106_10 rfl ?_
      refine q_getr (c := 7) (f := 4) d106_11 ⟨rfl, rfl⟩ (hS.1.1) (hS.1.2.2.2.2.2.2.1) ?_
      refine q_getr (c := 6) (f := 3) d106_14 ⟨rfl, rfl⟩ hwr.1 hwr.2.2.2.2.1 ?_
      refine q_iload_n d106_17 rfl ?_
      refine n_aald d106_18 hwr.2.2.2.2.2.1 (by decide) (by omega) (by decide) (hwr.2.2.2.2.2.2 _ (by omega)) ?_
      refine q_getv (c := 5) (f := 0) d106_19 ⟨rfl, by decide⟩ hsg.1 hg0 ?_
      refine n0_ne 30 d106_22 (by decide) (by omega) (fun h22 => ?_) (fun h22 => (False.elim (h0 h22)))
      refine q_aload_n d106_30 rfl ?_
      refine q_iload_n d106_31 rfl ?_
      refine q_iload_n d106_32 rfl ?_
      refine q_v2 d106_33 rfl rfl (hS.1.1) (Nat.le_of_ble_eq_true rfl) (c107 hR hs h0 (fun hy5 M1 hR1 g1 => ?_))
      refine q_iret d106_36 rfl ?_
      exact k _ hR1 g1
  · rw [oz_n es] at k
    refine q_iload_n d106_0 rfl ?_
    refine q_s1 d106_1 (Or.inl rfl) rfl (Nat.le_of_ble_eq_true rfl) (c60f es ?_)
    refine n0_ne 10 d106_4 (by decide) (by decide) (fun q => absurd q (by decide)) (fun _ => ?_)
    refine q_bipush (x := (-2)) d106_7 rfl ?_
    refine q_iret d106_9 rfl ?_
    exact k _ hR (Fc.refl _)
/-! ===== the calls of the class: chance, and what was told ===== -/
theorem ycn_le (D : yD) (s : Nat) (z : Int32) : ∀ i, ycn D s z i ≤ i
  | 0 => Nat.le_refl _
  | i + 1 => by
    have := ycn_le D s z i
    show ycn D s z i + (if ydn D s (z + nI i) = 3 then 1 else 0) ≤ i + 1
    split <;> omega
theorem ycn_t {D : yD} {s i : Nat} {z : Int32} (h : ydn D s (z + nI i) = 3) : ycn D s z (i + 1) = ycn D s z i + 1 := by
  show ycn D s z i + (if ydn D s (z + nI i) = 3 then 1 else 0) = _
  rw [if_pos h]
theorem ycn_f {D : yD} {s i : Nat} {z : Int32} (h : ¬ ydn D s (z + nI i) = 3) : ycn D s z (i + 1) = ycn D s z i := by
  show ycn D s z i + (if ydn D s (z + nI i) = 3 then 1 else 0) = _
  rw [if_neg h]; rfl
theorem c10fm {d : Nat} {M : zM} {Q : Option Value → zM → Prop} {x : Int32} (h : zix x 21 = none) (k : Q (some (.int (nI 0))) M) : qC (d + 1) 10 [.int x, .int (nI 1), .int (nI 20)] M Q := c10f (by decide) (by have := zix_none h; omega) (by decide) k
theorem d110_0 : decode (zB 110) 0 = .ok (.iload_n 1, 1) := (congrArg (fun c => decode c 0) zeq110).trans (by decide +kernel)
theorem d110_1 : decode (zB 110) 1 = .ok (.invokestatic 141, 3) := (congrArg (fun c => decode c 1) zeq110).trans (by decide +kernel)
theorem d110_4 : decode (zB 110) 4 = .ok (.ifCond .eq 23, 3) := (congrArg (fun c => decode c 4) zeq110).trans (by decide +kernel)
theorem d110_7 : decode (zB 110) 7 = .ok (.iload_n 3, 1) := (congrArg (fun c => decode c 7) zeq110).trans (by decide +kernel)
theorem d110_8 : decode (zB 110) 8 = .ok (.iconst 1, 1) := (congrArg (fun c => decode c 8) zeq110).trans (by decide +kernel)
theorem d110_9 : decode (zB 110) 9 = .ok (.bipush 20, 2) := (congrArg (fun c => decode c 9) zeq110).trans (by decide +kernel)
theorem d110_11 : decode (zB 110) 11 = .ok (.invokestatic 55, 3) := (congrArg (fun c => decode c 11) zeq110).trans (by decide +kernel)
theorem d110_14 : decode (zB 110) 14 = .ok (.ifCond .eq 13, 3) := (congrArg (fun c => decode c 14) zeq110).trans (by decide +kernel)
theorem d110_17 : decode (zB 110) 17 = .ok (.iload 4, 2) := (congrArg (fun c => decode c 17) zeq110).trans (by decide +kernel)
theorem d110_19 : decode (zB 110) 19 = .ok (.iconst 0, 1) := (congrArg (fun c => decode c 19) zeq110).trans (by decide +kernel)
theorem d110_20 : decode (zB 110) 20 = .ok (.iconst 1, 1) := (congrArg (fun c => decode c 20) zeq110).trans (by decide +kernel)
theorem d110_21 : decode (zB 110) 21 = .ok (.invokestatic 55, 3) := (congrArg (fun c => decode c 21) zeq110).trans (by decide +kernel)
theorem d110_24 : decode (zB 110) 24 = .ok (.ifCond .ne 6, 3) := (congrArg (fun c => decode c 24) zeq110).trans (by decide +kernel)
theorem d110_27 : decode (zB 110) 27 = .ok (.bipush (-2), 2) := (congrArg (fun c => decode c 27) zeq110).trans (by decide +kernel)
theorem d110_29 : decode (zB 110) 29 = .ok (.ireturn, 1) := (congrArg (fun c => decode c 29) zeq110).trans (by decide +kernel)
theorem d110_30 : decode (zB 110) 30 = .ok (.aload_n 0, 1) := (congrArg (fun c => decode c 30) zeq110).trans (by decide +kernel)
theorem d110_31 : decode (zB 110) 31 = .ok (.getfield 37, 3) := (congrArg (fun c => decode c 31) zeq110).trans (by decide +kernel)
theorem d110_34 : decode (zB 110) 34 = .ok (.getfield 144, 3) := (congrArg (fun c => decode c 34) zeq110).trans (by decide +kernel)
theorem d110_37 : decode (zB 110) 37 = .ok (.iload_n 1, 1) := (congrArg (fun c => decode c 37) zeq110).trans (by decide +kernel)
theorem d110_38 : decode (zB 110) 38 = .ok (.aaload, 1) := (congrArg (fun c => decode c 38) zeq110).trans (by decide +kernel)
theorem d110_39 : decode (zB 110) 39 = .ok (.getfield 166, 3) := (congrArg (fun c => decode c 39) zeq110).trans (by decide +kernel)
theorem d110_42 : decode (zB 110) 42 = .ok (.ifCond .ne 6, 3) := (congrArg (fun c => decode c 42) zeq110).trans (by decide +kernel)
theorem d110_45 : decode (zB 110) 45 = .ok (.bipush (-3), 2) := (congrArg (fun c => decode c 45) zeq110).trans (by decide +kernel)
theorem d110_47 : decode (zB 110) 47 = .ok (.ireturn, 1) := (congrArg (fun c => decode c 47) zeq110).trans (by decide +kernel)
theorem d110_48 : decode (zB 110) 48 = .ok (.iconst 0, 1) := (congrArg (fun c => decode c 48) zeq110).trans (by decide +kernel)
theorem d110_49 : decode (zB 110) 49 = .ok (.istore 5, 2) := (congrArg (fun c => decode c 49) zeq110).trans (by decide +kernel)
theorem d110_51 : decode (zB 110) 51 = .ok (.iconst 0, 1) := (congrArg (fun c => decode c 51) zeq110).trans (by decide +kernel)
theorem d110_52 : decode (zB 110) 52 = .ok (.istore 6, 2) := (congrArg (fun c => decode c 52) zeq110).trans (by decide +kernel)
theorem d110_54 : decode (zB 110) 54 = .ok (.iload 6, 2) := (congrArg (fun c => decode c 54) zeq110).trans (by decide +kernel)
theorem d110_56 : decode (zB 110) 56 = .ok (.iload_n 3, 1) := (congrArg (fun c => decode c 56) zeq110).trans (by decide +kernel)
theorem d110_57 : decode (zB 110) 57 = .ok (.if_icmp .ge 25, 3) := (congrArg (fun c => decode c 57) zeq110).trans (by decide +kernel)
theorem d110_60 : decode (zB 110) 60 = .ok (.aload_n 0, 1) := (congrArg (fun c => decode c 60) zeq110).trans (by decide +kernel)
theorem d110_61 : decode (zB 110) 61 = .ok (.iload_n 1, 1) := (congrArg (fun c => decode c 61) zeq110).trans (by decide +kernel)
theorem d110_62 : decode (zB 110) 62 = .ok (.iload_n 2, 1) := (congrArg (fun c => decode c 62) zeq110).trans (by decide +kernel)
theorem d110_63 : decode (zB 110) 63 = .ok (.iload 6, 2) := (congrArg (fun c => decode c 63) zeq110).trans (by decide +kernel)
theorem d110_65 : decode (zB 110) 65 = .ok (.iadd, 1) := (congrArg (fun c => decode c 65) zeq110).trans (by decide +kernel)
theorem d110_66 : decode (zB 110) 66 = .ok (.invokevirtual 238, 3) := (congrArg (fun c => decode c 66) zeq110).trans (by decide +kernel)
theorem d110_69 : decode (zB 110) 69 = .ok (.iconst 3, 1) := (congrArg (fun c => decode c 69) zeq110).trans (by decide +kernel)
theorem d110_70 : decode (zB 110) 70 = .ok (.if_icmp .ne 6, 3) := (congrArg (fun c => decode c 70) zeq110).trans (by decide +kernel)
theorem d110_73 : decode (zB 110) 73 = .ok (.iinc 5 1, 3) := (congrArg (fun c => decode c 73) zeq110).trans (by decide +kernel)
theorem d110_76 : decode (zB 110) 76 = .ok (.iinc 6 1, 3) := (congrArg (fun c => decode c 76) zeq110).trans (by decide +kernel)
theorem d110_79 : decode (zB 110) 79 = .ok (.goto (-25), 3) := (congrArg (fun c => decode c 79) zeq110).trans (by decide +kernel)
theorem d110_82 : decode (zB 110) 82 = .ok (.iload 5, 2) := (congrArg (fun c => decode c 82) zeq110).trans (by decide +kernel)
theorem d110_84 : decode (zB 110) 84 = .ok (.iload_n 3, 1) := (congrArg (fun c => decode c 84) zeq110).trans (by decide +kernel)
theorem d110_85 : decode (zB 110) 85 = .ok (.invokestatic 242, 3) := (congrArg (fun c => decode c 85) zeq110).trans (by decide +kernel)
theorem d110_88 : decode (zB 110) 88 = .ok (.istore 6, 2) := (congrArg (fun c => decode c 88) zeq110).trans (by decide +kernel)
theorem d110_90 : decode (zB 110) 90 = .ok (.iload 4, 2) := (congrArg (fun c => decode c 90) zeq110).trans (by decide +kernel)
theorem d110_92 : decode (zB 110) 92 = .ok (.ifCond .ne 8, 3) := (congrArg (fun c => decode c 92) zeq110).trans (by decide +kernel)
theorem d110_95 : decode (zB 110) 95 = .ok (.iload 5, 2) := (congrArg (fun c => decode c 95) zeq110).trans (by decide +kernel)
theorem d110_97 : decode (zB 110) 97 = .ok (.goto 4, 3) := (congrArg (fun c => decode c 97) zeq110).trans (by decide +kernel)
theorem d110_100 : decode (zB 110) 100 = .ok (.iload_n 3, 1) := (congrArg (fun c => decode c 100) zeq110).trans (by decide +kernel)
theorem d110_101 : decode (zB 110) 101 = .ok (.iload 6, 2) := (congrArg (fun c => decode c 101) zeq110).trans (by decide +kernel)
theorem d110_103 : decode (zB 110) 103 = .ok (.idiv, 1) := (congrArg (fun c => decode c 103) zeq110).trans (by decide +kernel)
theorem d110_104 : decode (zB 110) 104 = .ok (.ireturn, 1) := (congrArg (fun c => decode c 104) zeq110).trans (by decide +kernel)
theorem l110 {d : Nat} {Q : Option Value → zM → Prop} {D : yD} {M0 : zM} {s m w : Nat} {z : Int32} (hs : s < 3) (h0 : gt (dS D s) ≠ 0) (hm0 : 0 < m) (hm : m < 21) (hw : w < 2) (k : ∀ M', RC M' D → Fc M0 M' → Q (some (.int (if w = 0 then nI (ycn D s z m / Nat.gcd (ycn D s z m) m) else nI (m / Nat.gcd (ycn D s z m) m)))) M') : ∀ (r i : Nat) (M1 : zM), i ≤ m → m < i + r →  RC M1 D → Fc M0 M1 → qW (zEv (d + 6)) 110 Q 54 [(6, .int (nI i)), (5, .int (nI (ycn D s z i))), (0, .ref 16), (1, .int (nI s)), (2, .int z), (3, .int (nI m)), (4, .int (nI w))] [] M1 := by
  intro r
  induction r with
  | zero => intros; omega
  | succ r ih =>
    intro i M1 h1 h2 hR1 hF
    have hcl := ycn_le D s z i
    refine q_iload d110_54 rfl ?_
    refine q_iload_n d110_56 rfl ?_
    refine nc_ge 82 d110_57 (by decide) (by omega) (by omega) (fun h57 => ?_) (fun h57 => ?_)
    · have ei : i = m := by omega
      have hg1 := Nat.gcd_pos_of_pos_right (ycn D s z i) hm0
      have hg2 := Nat.le_of_dvd hm0 (Nat.gcd_dvd_right (ycn D s z i) m)
      refine q_iload d110_82 rfl ?_
      refine q_iload_n d110_84 rfl ?_
      refine q_s2 d110_85 (Or.inl rfl) rfl (Nat.le_of_ble_eq_true rfl) (c111 (by omega) hm0 (by omega) ?_)
      refine q_istore d110_88 (by decide) rfl ?_
      refine q_iload d110_90 rfl ?_
      refine n0_ne 100 d110_92 (by decide) (by omega) (fun h92 => ?_) (fun h92 => ?_)
      · refine q_iload_n d110_100 rfl ?_
        refine q_iload d110_101 rfl ?_
        refine n_idiv d110_103 (by omega) (by omega) (by omega) ?_
        refine q_iret d110_104 rfl ?_
        have h := k _ hR1 hF
        rw [if_neg h92] at h
        rw [ei]
        exact h
      · refine q_iload d110_95 rfl ?_
        refine q_goto 101 d110_97 (by decide) ?_
        refine q_iload d110_101 rfl ?_
        refine n_idiv d110_103 (by omega) (by omega) (by omega) ?_
        refine q_iret d110_104 rfl ?_
        have h := k _ hR1 hF
        rw [if_pos h92] at h
        rw [ei]
        exact h
    · refine q_aload_n d110_60 rfl ?_
      refine q_iload_n d110_61 rfl ?_
      refine q_iload_n d110_62 rfl ?_
      refine q_iload d110_63 rfl ?_
      refine q_iadd d110_65 ?_
      refine q_v2 d110_66 rfl rfl hR1.1.1.1.1 (Nat.le_of_ble_eq_true rfl) (c107 hR1 hs h0 (fun hy5 M2 hR2 g2 => ?_))
      refine q_iconstN (z := 3) d110_69 ?_
      refine nc_ne 76 d110_70 (by decide) (by omega) (by omega) (fun h70 => ?_) (fun h70 => ?_)
      · refine n_iinc 1 d110_76 (by decide) rfl rfl ?_
        refine q_goto 54 d110_79 (by decide) ?_
        rw [← ycn_f h70]
        exact ih (i + 1) _ (by omega) (by omega) hR2 (hF.trans g2)
      · refine n_iinc 1 d110_73 (by decide) rfl rfl ?_
        refine n_iinc 1 d110_76 (by decide) rfl rfl ?_
        refine q_goto 54 d110_79 (by decide) ?_
        rw [← ycn_t h70]
        exact ih (i + 1) _ (by omega) (by omega) hR2 (hF.trans g2)
theorem p110 {d : Nat} {M : zM} {Q : Option Value → zM → Prop} {D : yD} {x z y w : Int32} (hR : RC M D) (hD : OKD D) (k : ∀ M', RC M' D → Fc M M' → Q (some (.int (sChance D x z y w))) M') : qC (d + 7) 110 [.ref 16, .int x, .int z, .int y, .int w] M Q := by
  refine qC_of (by decide) (Nat.le_of_ble_eq_true rfl) ?_
  have hS := hR.1.1
  have hT := hR.1.2.2.1
  have hO := hR.1.2.2.2.1
  have hRW := hR.1.2.2.2.2
  have hJ : RL M 62 (dL D) := hRW.2.2.2
  have hc6 := hO.1.1
  have h240 := hD.2.1
  have h120 := hR.2.2.1.1
  have hwr := hS.wo (Or.inl ⟨rfl, rfl, rfl, rfl⟩)
  have hwt := hS.wo (Or.inr ⟨rfl, rfl, rfl, rfl⟩)
  have hpr := hS.pu (Or.inl ⟨rfl, rfl, rfl, rfl⟩)
  have hpt := hS.pu (Or.inr ⟨rfl, rfl, rfl, rfl⟩)
  unfold sChance at k
  rcases zix_c x (n := 3) (by omega) with ⟨s, hs, rfl, es⟩ | ⟨es, ns⟩
  · rw [oz_s es] at k
    have hsg : SSg M (70 + 8 * s) := hS.sg (by unfold zSa; omega)
    have hg0 : zi M (70 + 8 * s) 0 = nI (gt (dS D s)) := (hRW.2.1 s hs).1.1
    have hg5 : gt (dS D s) ≤ 5 := (hO.2.2 s hs).1
    rcases zix_c y (n := 21) (by omega) with ⟨m, hm, rfl, em⟩ | ⟨em, nm⟩
    · rw [oz_s em] at k
      by_cases hm0 : m = 0
      · subst hm0
        rw [if_pos rfl] at k
        refine q_iload_n d110_0 rfl ?_
        refine q_s1 d110_1 (Or.inl rfl) rfl (Nat.le_of_ble_eq_true rfl) (c60t (by omega) ?_)
        refine n0_eq 27 d110_4 (by decide) (by decide) (fun q => absurd q (by decide)) (fun _ => ?_)
        refine q_iload_n d110_7 rfl ?_
        refine q_iconstN (z := 1) d110_8 ?_
        refine q_bipush (x := nI 20) d110_9 rfl ?_
        refine q_s3 d110_11 (Or.inl rfl) rfl (Nat.le_of_ble_eq_true rfl) (c10n (by decide) (by decide) (by decide) (by decide) ?_)
        refine n0_eq 27 d110_14 (by decide) (by decide) (fun _ => ?_) (fun q => absurd q (by decide))
        refine q_bipush (x := (-2)) d110_27 rfl ?_
        refine q_iret d110_29 rfl ?_
        exact k _ hR (Fc.refl _)
      · rw [if_neg hm0] at k
        rcases zix_c w (n := 2) (by omega) with ⟨w, hw, rfl, ew⟩ | ⟨ew, nw⟩
        · rw [oz_s ew] at k
          by_cases h0 : gt (dS D s) = 0
          · rw [if_pos h0] at k
            refine q_iload_n d110_0 rfl ?_
            refine q_s1 d110_1 (Or.inl rfl) rfl (Nat.le_of_ble_eq_true rfl) (c60t (by omega) ?_)
            refine n0_eq 27 d110_4 (by decide) (by decide) (fun q => absurd q (by decide)) (fun _ => ?_)
            refine q_iload_n d110_7 rfl ?_
            refine q_iconstN (z := 1) d110_8 ?_
            refine q_bipush (x := nI 20) d110_9 rfl ?_
            refine q_s3 d110_11 (Or.inl rfl) rfl (Nat.le_of_ble_eq_true rfl) (c10t ⟨by omega, by omega⟩ (by decide) ?_)
            refine n0_eq 27 d110_14 (by decide) (by decide) (fun q => absurd q (by decide)) (fun _ => ?_)
            refine q_iload d110_17 rfl ?_
            refine q_iconstN (z := 0) d110_19 ?_
            refine q_iconstN (z := 1) d110_20 ?_
            refine q_s3 d110_21 (Or.inl rfl) rfl (Nat.le_of_ble_eq_true rfl) (c10t ⟨by omega, by omega⟩ (by decide) ?_)
            refine n0_ne 30 d110_24 (by decide) (by decide) (fun _ => ?_) (fun q => absurd q (by decide))
            refine q_aload_n d110_30 rfl ?_
            refine q_getr (c := 7) (f := 4) d110_31 ⟨rfl, rfl⟩ (hS.1.1) (hS.1.2.2.2.2.2.2.1) ?_
            refine q_getr (c := 6) (f := 3) d110_34 ⟨rfl, rfl⟩ hwr.1 hwr.2.2.2.2.1 ?_
            refine q_iload_n d110_37 rfl ?_
            refine n_aald d110_38 hwr.2.2.2.2.2.1 (by decide) (by omega) (by decide) (hwr.2.2.2.2.2.2 _ (by omega)) ?_
            refine q_getv (c := 5) (f := 0) d110_39 ⟨rfl, by decide⟩ hsg.1 hg0 ?_
            refine n0_ne 48 d110_42 (by decide) (by omega) (fun h42 => (False.elim (h42 h0))) (fun h42 => ?_)
            refine q_bipush (x := (-3)) d110_45 rfl ?_
            refine q_iret d110_47 rfl ?_
            exact k _ hR (Fc.refl _)
          · rw [if_neg h0] at k
            refine q_iload_n d110_0 rfl ?_
            refine q_s1 d110_1 (Or.inl rfl) rfl (Nat.le_of_ble_eq_true rfl) (c60t (by omega) ?_)
            refine n0_eq 27 d110_4 (by decide) (by decide) (fun q => absurd q (by decide)) (fun _ => ?_)
            refine q_iload_n d110_7 rfl ?_
            refine q_iconstN (z := 1) d110_8 ?_
            refine q_bipush (x := nI 20) d110_9 rfl ?_
            refine q_s3 d110_11 (Or.inl rfl) rfl (Nat.le_of_ble_eq_true rfl) (c10t ⟨by omega, by omega⟩ (by decide) ?_)
            refine n0_eq 27 d110_14 (by decide) (by decide) (fun q => absurd q (by decide)) (fun _ => ?_)
            refine q_iload d110_17 rfl ?_
            refine q_iconstN (z := 0) d110_19 ?_
            refine q_iconstN (z := 1) d110_20 ?_
            refine q_s3 d110_21 (Or.inl rfl) rfl (Nat.le_of_ble_eq_true rfl) (c10t ⟨by omega, by omega⟩ (by decide) ?_)
            refine n0_ne 30 d110_24 (by decide) (by decide) (fun _ => ?_) (fun q => absurd q (by decide))
            refine q_aload_n d110_30 rfl ?_
            refine q_getr (c := 7) (f := 4) d110_31 ⟨rfl, rfl⟩ (hS.1.1) (hS.1.2.2.2.2.2.2.1) ?_
            refine q_getr (c := 6) (f := 3) d110_34 ⟨rfl, rfl⟩ hwr.1 hwr.2.2.2.2.1 ?_
            refine q_iload_n d110_37 rfl ?_
            refine n_aald d110_38 hwr.2.2.2.2.2.1 (by decide) (by omega) (by decide) (hwr.2.2.2.2.2.2 _ (by omega)) ?_
            refine q_getv (c := 5) (f := 0) d110_39 ⟨rfl, by decide⟩ hsg.1 hg0 ?_
            refine n0_ne 48 d110_42 (by decide) (by omega) (fun h42 => ?_) (fun h42 => (False.elim (h0 h42)))
            refine q_iconstN (z := 0) d110_48 ?_
            refine q_istore d110_49 (by decide) rfl ?_
            refine q_iconstN (z := 0) d110_51 ?_
            refine q_istore d110_52 (by decide) rfl ?_
            exact l110 hs h0 (by omega) hm hw (fun M' g1 g2 => k M' g1 g2) (m + 1) 0 M (by omega) (by omega) hR (Fc.refl _)
        · rw [oz_n ew] at k
          refine q_iload_n d110_0 rfl ?_
          refine q_s1 d110_1 (Or.inl rfl) rfl (Nat.le_of_ble_eq_true rfl) (c60t (by omega) ?_)
          refine n0_eq 27 d110_4 (by decide) (by decide) (fun q => absurd q (by decide)) (fun _ => ?_)
          refine q_iload_n d110_7 rfl ?_
          refine q_iconstN (z := 1) d110_8 ?_
          refine q_bipush (x := nI 20) d110_9 rfl ?_
          refine q_s3 d110_11 (Or.inl rfl) rfl (Nat.le_of_ble_eq_true rfl) (c10t ⟨by omega, by omega⟩ (by decide) ?_)
          refine n0_eq 27 d110_14 (by decide) (by decide) (fun q => absurd q (by decide)) (fun _ => ?_)
          refine q_iload d110_17 rfl ?_
          refine q_iconstN (z := 0) d110_19 ?_
          refine q_iconstN (z := 1) d110_20 ?_
          refine q_s3 d110_21 (Or.inl rfl) rfl (Nat.le_of_ble_eq_true rfl) (c10f (by decide) (by omega) (by decide) ?_)
          refine n0_ne 30 d110_24 (by decide) (by decide) (fun q => absurd q (by decide)) (fun _ => ?_)
          refine q_bipush (x := (-2)) d110_27 rfl ?_
          refine q_iret d110_29 rfl ?_
          exact k _ hR (Fc.refl _)
    · rw [oz_n em] at k
      refine q_iload_n d110_0 rfl ?_
      refine q_s1 d110_1 (Or.inl rfl) rfl (Nat.le_of_ble_eq_true rfl) (c60t (by omega) ?_)
      refine n0_eq 27 d110_4 (by decide) (by decide) (fun q => absurd q (by decide)) (fun _ => ?_)
      refine q_iload_n d110_7 rfl ?_
      refine q_iconstN (z := 1) d110_8 ?_
      refine q_bipush (x := nI 20) d110_9 rfl ?_
      refine q_s3 d110_11 (Or.inl rfl) rfl (Nat.le_of_ble_eq_true rfl) (c10fm em ?_)
      refine n0_eq 27 d110_14 (by decide) (by decide) (fun _ => ?_) (fun q => absurd q (by decide))
      refine q_bipush (x := (-2)) d110_27 rfl ?_
      refine q_iret d110_29 rfl ?_
      exact k _ hR (Fc.refl _)
  · rw [oz_n es] at k
    refine q_iload_n d110_0 rfl ?_
    refine q_s1 d110_1 (Or.inl rfl) rfl (Nat.le_of_ble_eq_true rfl) (c60f es ?_)
    refine n0_eq 27 d110_4 (by decide) (by decide) (fun _ => ?_) (fun q => absurd q (by decide))
    refine q_bipush (x := (-2)) d110_27 rfl ?_
    refine q_iret d110_29 rfl ?_
    exact k _ hR (Fc.refl _)
theorem d116_0 : decode (zB 116) 0 = .ok (.iconst 0, 1) := (congrArg (fun c => decode c 0) zeq116).trans (by decide +kernel)
theorem d116_1 : decode (zB 116) 1 = .ok (.istore_n 3, 1) := (congrArg (fun c => decode c 1) zeq116).trans (by decide +kernel)
theorem d116_2 : decode (zB 116) 2 = .ok (.iload_n 3, 1) := (congrArg (fun c => decode c 2) zeq116).trans (by decide +kernel)
theorem d116_3 : decode (zB 116) 3 = .ok (.aload_n 1, 1) := (congrArg (fun c => decode c 3) zeq116).trans (by decide +kernel)
theorem d116_4 : decode (zB 116) 4 = .ok (.getfield 256, 3) := (congrArg (fun c => decode c 4) zeq116).trans (by decide +kernel)
theorem d116_7 : decode (zB 116) 7 = .ok (.if_icmp .ge 39, 3) := (congrArg (fun c => decode c 7) zeq116).trans (by decide +kernel)
theorem d116_10 : decode (zB 116) 10 = .ok (.aload_n 0, 1) := (congrArg (fun c => decode c 10) zeq116).trans (by decide +kernel)
theorem d116_11 : decode (zB 116) 11 = .ok (.getfield 41, 3) := (congrArg (fun c => decode c 11) zeq116).trans (by decide +kernel)
theorem d116_14 : decode (zB 116) 14 = .ok (.invokevirtual 175, 3) := (congrArg (fun c => decode c 14) zeq116).trans (by decide +kernel)
theorem d116_17 : decode (zB 116) 17 = .ok (.aload_n 0, 1) := (congrArg (fun c => decode c 17) zeq116).trans (by decide +kernel)
theorem d116_18 : decode (zB 116) 18 = .ok (.getfield 41, 3) := (congrArg (fun c => decode c 18) zeq116).trans (by decide +kernel)
theorem d116_21 : decode (zB 116) 21 = .ok (.getfield 94, 3) := (congrArg (fun c => decode c 21) zeq116).trans (by decide +kernel)
theorem d116_24 : decode (zB 116) 24 = .ok (.getfield 205, 3) := (congrArg (fun c => decode c 24) zeq116).trans (by decide +kernel)
theorem d116_27 : decode (zB 116) 27 = .ok (.iload_n 2, 1) := (congrArg (fun c => decode c 27) zeq116).trans (by decide +kernel)
theorem d116_28 : decode (zB 116) 28 = .ok (.iaload, 1) := (congrArg (fun c => decode c 28) zeq116).trans (by decide +kernel)
theorem d116_29 : decode (zB 116) 29 = .ok (.aload_n 1, 1) := (congrArg (fun c => decode c 29) zeq116).trans (by decide +kernel)
theorem d116_30 : decode (zB 116) 30 = .ok (.getfield 291, 3) := (congrArg (fun c => decode c 30) zeq116).trans (by decide +kernel)
theorem d116_33 : decode (zB 116) 33 = .ok (.iload_n 3, 1) := (congrArg (fun c => decode c 33) zeq116).trans (by decide +kernel)
theorem d116_34 : decode (zB 116) 34 = .ok (.iaload, 1) := (congrArg (fun c => decode c 34) zeq116).trans (by decide +kernel)
theorem d116_35 : decode (zB 116) 35 = .ok (.if_icmp .eq 5, 3) := (congrArg (fun c => decode c 35) zeq116).trans (by decide +kernel)
theorem d116_38 : decode (zB 116) 38 = .ok (.iload_n 3, 1) := (congrArg (fun c => decode c 38) zeq116).trans (by decide +kernel)
theorem d116_39 : decode (zB 116) 39 = .ok (.ireturn, 1) := (congrArg (fun c => decode c 39) zeq116).trans (by decide +kernel)
theorem d116_40 : decode (zB 116) 40 = .ok (.iinc 3 1, 3) := (congrArg (fun c => decode c 40) zeq116).trans (by decide +kernel)
theorem d116_43 : decode (zB 116) 43 = .ok (.goto (-41), 3) := (congrArg (fun c => decode c 43) zeq116).trans (by decide +kernel)
theorem d116_46 : decode (zB 116) 46 = .ok (.iconst (-1), 1) := (congrArg (fun c => decode c 46) zeq116).trans (by decide +kernel)
theorem d116_47 : decode (zB 116) 47 = .ok (.ireturn, 1) := (congrArg (fun c => decode c 47) zeq116).trans (by decide +kernel)
theorem l116 {d : Nat} {Q : Option Value → zM → Prop} {D : yD} {M0 : zM} {n h a : Nat} {nm : Nat → Nat → Int32} (hh : h < 4) (ha : a < 6) (hn : n ≤ 20) (hz : (dR D h).2 = n) (k : ∀ v M', RC M' D → Fc M0 M' → Q (some (.int v)) M') : ∀ (r i : Nat) (M1 : zM) (X1 : yX), i ≤ n → n < i + r →  RC M1 D → CW M1 94 94 99 95 (dT D) (dc D) nm X1 → Fc M0 M1 → qW (zEv (d + 5)) 116 Q 2 [(3, .int (nI i)), (0, .ref 16), (1, .ref (127 + 2 * h)), (2, .int (nI a))] [] M1 := by
  intro r
  induction r with
  | zero => intros; omega
  | succ r ih =>
    intro i M1 X1 h1 h2 hR1 hC1 hF
    have hz1 : zi M1 (127 + 2 * h) 1 = nI n := (hR1.2.2.2 h hh).2.trans (by rw [hz])
    refine q_iload_n d116_2 rfl ?_
    refine q_aload_n d116_3 rfl ?_
    refine q_getv (c := 4) (f := 1) d116_4 ⟨rfl, by decide⟩ (hC1.1.2.2.2.2.2.2.2.2.2.2.2.1 h (by omega)).1 hz1 ?_
    refine nc_ge 46 d116_7 (by decide) (by omega) (by omega) (fun h7 => ?_) (fun h7 => ?_)
    · refine q_iconst (x := (-1)) d116_46 rfl ?_
      refine q_iret d116_47 rfl ?_
      exact k _ _ hR1 hF
    · refine q_aload_n d116_10 rfl ?_
      refine q_getr (c := 7) (f := 5) d116_11 ⟨rfl, rfl⟩ (hC1.1.1.1) (hC1.1.1.2.2.2.2.2.2.2.1) ?_
      refine q_v0 d116_14 rfl rfl (hC1.1.wo (Or.inr ⟨rfl, rfl, rfl, rfl⟩)).1 (Nat.le_of_ble_eq_true rfl) (c69 hC1 hC1.l0 (fun M2 hC2 f2 => ?_))
      have ht2 := hR1.th hC2.1 f2.fr
      refine q_aload_n d116_17 rfl ?_
      refine q_getr (c := 7) (f := 5) d116_18 ⟨rfl, rfl⟩ (hC2.1.1.1) (hC2.1.1.2.2.2.2.2.2.2.1) ?_
      refine q_getr (c := 6) (f := 2) d116_21 ⟨rfl, rfl⟩ (hC2.1.wo (Or.inr ⟨rfl, rfl, rfl, rfl⟩)).1 (hC2.1.wo (Or.inr ⟨rfl, rfl, rfl, rfl⟩)).2.2.2.1 ?_
      refine q_getr (c := 2) (f := 0) d116_24 ⟨rfl, rfl⟩ (hC2.1.pu (Or.inr ⟨rfl, rfl, rfl, rfl⟩)).1 (hC2.1.pu (Or.inr ⟨rfl, rfl, rfl, rfl⟩)).2.1 ?_
      refine q_iload_n d116_27 rfl ?_
      refine n_iald d116_28 (hC2.1.pu (Or.inr ⟨rfl, rfl, rfl, rfl⟩)).2.2 (by omega) (by decide) (hC2.2.2.2.2.1.1 _ (by omega)) ?_
      refine q_aload_n d116_29 rfl ?_
      refine q_getr (c := 4) (f := 2) d116_30 ⟨rfl, rfl⟩ (hC2.1.2.2.2.2.2.2.2.2.2.2.2.1 h (by omega)).1 (hC2.1.2.2.2.2.2.2.2.2.2.2.2.1 h (by omega)).2.1 ?_
      refine q_iload_n d116_33 rfl ?_
      refine n_iald d116_34 (hC2.1.2.2.2.2.2.2.2.2.2.2.2.1 h (by omega)).2.2 (by omega) (by decide) rfl ?_
      refine ic_eq 40 d116_35 (by decide) (fun h35 => ?_) (fun h35 => ?_)
      · refine n_iinc 1 d116_40 (by decide) rfl rfl ?_
        refine q_goto 2 d116_43 (by decide) ?_
        exact ih (i + 1) _ _ (by omega) (by omega) ht2.1 hC2 (hF.trans ht2.2)
      · refine q_iload_n d116_38 rfl ?_
        refine q_iret d116_39 rfl ?_
        exact k _ _ ht2.1 (hF.trans ht2.2)
theorem c116 {d : Nat} {M : zM} {Q : Option Value → zM → Prop} {D : yD} {n h a : Nat} {nm : Nat → Nat → Int32} {X : yX} (hh : h < 4) (ha : a < 6) (hn : n ≤ 20) (hz : (dR D h).2 = n) (hR : RC M D) (hC : CW M 94 94 99 95 (dT D) (dc D) nm X) (k : ∀ v M', RC M' D → Fc M M' → Q (some (.int v)) M') : qC (d + 6) 116 [.ref 16, .ref (127 + 2 * h), .int (nI a)] M Q := by
  refine qC_of (by decide) (Nat.le_of_ble_eq_true rfl) ?_
  refine q_iconstN (z := 0) d116_0 ?_
  refine q_istore_n d116_1 (by decide) rfl ?_
  exact l116 hh ha hn hz k (n + 1) 0 M X (by omega) (by omega) hR hC (Fc.refl _)
theorem d117_0 : decode (zB 117) 0 = .ok (.bipush 63, 2) := (congrArg (fun c => decode c 0) zeq117).trans (by decide +kernel)
theorem d117_2 : decode (zB 117) 2 = .ok (.istore_n 2, 1) := (congrArg (fun c => decode c 2) zeq117).trans (by decide +kernel)
theorem d117_3 : decode (zB 117) 3 = .ok (.aload_n 0, 1) := (congrArg (fun c => decode c 3) zeq117).trans (by decide +kernel)
theorem d117_4 : decode (zB 117) 4 = .ok (.getfield 41, 3) := (congrArg (fun c => decode c 4) zeq117).trans (by decide +kernel)
theorem d117_7 : decode (zB 117) 7 = .ok (.aload_n 0, 1) := (congrArg (fun c => decode c 7) zeq117).trans (by decide +kernel)
theorem d117_8 : decode (zB 117) 8 = .ok (.getfield 37, 3) := (congrArg (fun c => decode c 8) zeq117).trans (by decide +kernel)
theorem d117_11 : decode (zB 117) 11 = .ok (.invokevirtual 227, 3) := (congrArg (fun c => decode c 11) zeq117).trans (by decide +kernel)
theorem d117_14 : decode (zB 117) 14 = .ok (.iconst 0, 1) := (congrArg (fun c => decode c 14) zeq117).trans (by decide +kernel)
theorem d117_15 : decode (zB 117) 15 = .ok (.istore_n 3, 1) := (congrArg (fun c => decode c 15) zeq117).trans (by decide +kernel)
theorem d117_16 : decode (zB 117) 16 = .ok (.iload_n 3, 1) := (congrArg (fun c => decode c 16) zeq117).trans (by decide +kernel)
theorem d117_17 : decode (zB 117) 17 = .ok (.aload_n 1, 1) := (congrArg (fun c => decode c 17) zeq117).trans (by decide +kernel)
theorem d117_18 : decode (zB 117) 18 = .ok (.getfield 256, 3) := (congrArg (fun c => decode c 18) zeq117).trans (by decide +kernel)
theorem d117_21 : decode (zB 117) 21 = .ok (.if_icmp .ge 63, 3) := (congrArg (fun c => decode c 21) zeq117).trans (by decide +kernel)
theorem d117_24 : decode (zB 117) 24 = .ok (.aload_n 0, 1) := (congrArg (fun c => decode c 24) zeq117).trans (by decide +kernel)
theorem d117_25 : decode (zB 117) 25 = .ok (.getfield 41, 3) := (congrArg (fun c => decode c 25) zeq117).trans (by decide +kernel)
theorem d117_28 : decode (zB 117) 28 = .ok (.invokevirtual 175, 3) := (congrArg (fun c => decode c 28) zeq117).trans (by decide +kernel)
theorem d117_31 : decode (zB 117) 31 = .ok (.iconst 0, 1) := (congrArg (fun c => decode c 31) zeq117).trans (by decide +kernel)
theorem d117_32 : decode (zB 117) 32 = .ok (.istore 4, 2) := (congrArg (fun c => decode c 32) zeq117).trans (by decide +kernel)
theorem d117_34 : decode (zB 117) 34 = .ok (.iload 4, 2) := (congrArg (fun c => decode c 34) zeq117).trans (by decide +kernel)
theorem d117_36 : decode (zB 117) 36 = .ok (.bipush 6, 2) := (congrArg (fun c => decode c 36) zeq117).trans (by decide +kernel)
theorem d117_38 : decode (zB 117) 38 = .ok (.if_icmp .ge 40, 3) := (congrArg (fun c => decode c 38) zeq117).trans (by decide +kernel)
theorem d117_41 : decode (zB 117) 41 = .ok (.aload_n 0, 1) := (congrArg (fun c => decode c 41) zeq117).trans (by decide +kernel)
theorem d117_42 : decode (zB 117) 42 = .ok (.getfield 41, 3) := (congrArg (fun c => decode c 42) zeq117).trans (by decide +kernel)
theorem d117_45 : decode (zB 117) 45 = .ok (.getfield 94, 3) := (congrArg (fun c => decode c 45) zeq117).trans (by decide +kernel)
theorem d117_48 : decode (zB 117) 48 = .ok (.getfield 205, 3) := (congrArg (fun c => decode c 48) zeq117).trans (by decide +kernel)
theorem d117_51 : decode (zB 117) 51 = .ok (.iload 4, 2) := (congrArg (fun c => decode c 51) zeq117).trans (by decide +kernel)
theorem d117_53 : decode (zB 117) 53 = .ok (.iaload, 1) := (congrArg (fun c => decode c 53) zeq117).trans (by decide +kernel)
theorem d117_54 : decode (zB 117) 54 = .ok (.aload_n 1, 1) := (congrArg (fun c => decode c 54) zeq117).trans (by decide +kernel)
theorem d117_55 : decode (zB 117) 55 = .ok (.getfield 291, 3) := (congrArg (fun c => decode c 55) zeq117).trans (by decide +kernel)
theorem d117_58 : decode (zB 117) 58 = .ok (.iload_n 3, 1) := (congrArg (fun c => decode c 58) zeq117).trans (by decide +kernel)
theorem d117_59 : decode (zB 117) 59 = .ok (.iaload, 1) := (congrArg (fun c => decode c 59) zeq117).trans (by decide +kernel)
theorem d117_60 : decode (zB 117) 60 = .ok (.if_icmp .eq 12, 3) := (congrArg (fun c => decode c 60) zeq117).trans (by decide +kernel)
theorem d117_63 : decode (zB 117) 63 = .ok (.iload_n 2, 1) := (congrArg (fun c => decode c 63) zeq117).trans (by decide +kernel)
theorem d117_64 : decode (zB 117) 64 = .ok (.iconst 1, 1) := (congrArg (fun c => decode c 64) zeq117).trans (by decide +kernel)
theorem d117_65 : decode (zB 117) 65 = .ok (.iload 4, 2) := (congrArg (fun c => decode c 65) zeq117).trans (by decide +kernel)
theorem d117_67 : decode (zB 117) 67 = .ok (.ishl, 1) := (congrArg (fun c => decode c 67) zeq117).trans (by decide +kernel)
theorem d117_68 : decode (zB 117) 68 = .ok (.iconst (-1), 1) := (congrArg (fun c => decode c 68) zeq117).trans (by decide +kernel)
theorem d117_69 : decode (zB 117) 69 = .ok (.ixor, 1) := (congrArg (fun c => decode c 69) zeq117).trans (by decide +kernel)
theorem d117_70 : decode (zB 117) 70 = .ok (.iand, 1) := (congrArg (fun c => decode c 70) zeq117).trans (by decide +kernel)
theorem d117_71 : decode (zB 117) 71 = .ok (.istore_n 2, 1) := (congrArg (fun c => decode c 71) zeq117).trans (by decide +kernel)
theorem d117_72 : decode (zB 117) 72 = .ok (.iinc 4 1, 3) := (congrArg (fun c => decode c 72) zeq117).trans (by decide +kernel)
theorem d117_75 : decode (zB 117) 75 = .ok (.goto (-41), 3) := (congrArg (fun c => decode c 75) zeq117).trans (by decide +kernel)
theorem d117_78 : decode (zB 117) 78 = .ok (.iinc 3 1, 3) := (congrArg (fun c => decode c 78) zeq117).trans (by decide +kernel)
theorem d117_81 : decode (zB 117) 81 = .ok (.goto (-65), 3) := (congrArg (fun c => decode c 81) zeq117).trans (by decide +kernel)
theorem d117_84 : decode (zB 117) 84 = .ok (.iload_n 2, 1) := (congrArg (fun c => decode c 84) zeq117).trans (by decide +kernel)
theorem d117_85 : decode (zB 117) 85 = .ok (.ireturn, 1) := (congrArg (fun c => decode c 85) zeq117).trans (by decide +kernel)
theorem l117b {d : Nat} {Q : Option Value → zM → Prop} {D : yD} {M0 : zM} {n h q : Nat} {nm : Nat → Nat → Int32} {X1 : yX} (hh : h < 4) (hq : q < n) (hn : n ≤ 20) (hz : (dR D h).2 = n) (hR1 : RC M0 D) (hC1 : CW M0 94 94 99 95 (dT D) (dc D) nm X1) (k : ∀ v, qW (zEv (d + 5)) 117 Q 78 [(0, .ref 16), (1, .ref (127 + 2 * h)), (2, .int v), (3, .int (nI q)), (4, .int (nI 6))] [] M0) : ∀ (r i : Nat) (v : Int32), i ≤ 6 → 6 < i + r →  qW (zEv (d + 5)) 117 Q 34 [(0, .ref 16), (1, .ref (127 + 2 * h)), (2, .int v), (3, .int (nI q)), (4, .int (nI i))] [] M0 := by
  intro r
  induction r with
  | zero => intros; omega
  | succ r ih =>
    intro i v h1 h2 
    have hz1 : zi M0 (127 + 2 * h) 1 = nI n := (hR1.2.2.2 h hh).2.trans (by rw [hz])
    refine q_iload d117_34 rfl ?_
    refine q_bipush (x := nI 6) d117_36 rfl ?_
    refine nc_ge 78 d117_38 (by decide) (by omega) (by omega) (fun h38 => ?_) (fun h38 => ?_)
    · have e6 : i = 6 := by omega
      rw [e6]
      exact k v
    · refine q_aload_n d117_41 rfl ?_
      refine q_getr (c := 7) (f := 5) d117_42 ⟨rfl, rfl⟩ (hC1.1.1.1) (hC1.1.1.2.2.2.2.2.2.2.1) ?_
      refine q_getr (c := 6) (f := 2) d117_45 ⟨rfl, rfl⟩ (hC1.1.wo (Or.inr ⟨rfl, rfl, rfl, rfl⟩)).1 (hC1.1.wo (Or.inr ⟨rfl, rfl, rfl, rfl⟩)).2.2.2.1 ?_
      refine q_getr (c := 2) (f := 0) d117_48 ⟨rfl, rfl⟩ (hC1.1.pu (Or.inr ⟨rfl, rfl, rfl, rfl⟩)).1 (hC1.1.pu (Or.inr ⟨rfl, rfl, rfl, rfl⟩)).2.1 ?_
      refine q_iload d117_51 rfl ?_
      refine n_iald d117_53 (hC1.1.pu (Or.inr ⟨rfl, rfl, rfl, rfl⟩)).2.2 (by omega) (by decide) (hC1.2.2.2.2.1.1 _ (by omega)) ?_
      refine q_aload_n d117_54 rfl ?_
      refine q_getr (c := 4) (f := 2) d117_55 ⟨rfl, rfl⟩ (hC1.1.2.2.2.2.2.2.2.2.2.2.2.1 h (by omega)).1 (hC1.1.2.2.2.2.2.2.2.2.2.2.2.1 h (by omega)).2.1 ?_
      refine q_iload_n d117_58 rfl ?_
      refine n_iald d117_59 (hC1.1.2.2.2.2.2.2.2.2.2.2.2.1 h (by omega)).2.2 (by omega) (by decide) rfl ?_
      refine ic_eq 72 d117_60 (by decide) (fun h60 => ?_) (fun h60 => ?_)
      · refine n_iinc 1 d117_72 (by decide) rfl rfl ?_
        refine q_goto 34 d117_75 (by decide) ?_
        refine qW_srt rfl rfl ?_
        exact ih (i + 1) _ (by omega) (by omega)
      · refine q_iload_n d117_63 rfl ?_
        refine q_iconstN (z := 1) d117_64 ?_
        refine q_iload d117_65 rfl ?_
        refine n_ishl1 d117_67 (by omega) ?_
        refine q_iconst (x := (-1)) d117_68 rfl ?_
        refine q_ixor d117_69 ?_
        refine q_iand d117_70 ?_
        refine q_istore_n d117_71 (by decide) rfl ?_
        refine n_iinc 1 d117_72 (by decide) rfl rfl ?_
        refine q_goto 34 d117_75 (by decide) ?_
        refine qW_srt rfl rfl ?_
        exact ih (i + 1) _ (by omega) (by omega)
theorem l117 {d : Nat} {Q : Option Value → zM → Prop} {D : yD} {M0 : zM} {n h : Nat} {nm : Nat → Nat → Int32} (hh : h < 4) (hn : n ≤ 20) (hz : (dR D h).2 = n) (k : ∀ v M', RC M' D → Fc M0 M' → Q (some (.int v)) M') : ∀ (r i : Nat) (M1 : zM) (X1 : yX) (v j4 : Int32), i ≤ n → n < i + r →  RC M1 D → CW M1 94 94 99 95 (dT D) (dc D) nm X1 → Fc M0 M1 → qW (zEv (d + 5)) 117 Q 16 [(0, .ref 16), (1, .ref (127 + 2 * h)), (2, .int v), (3, .int (nI i)), (4, .int j4)] [] M1 := by
  intro r
  induction r with
  | zero => intros; omega
  | succ r ih =>
    intro i M1 X1 v j4 h1 h2 hR1 hC1 hF
    have hz1 : zi M1 (127 + 2 * h) 1 = nI n := (hR1.2.2.2 h hh).2.trans (by rw [hz])
    refine q_iload_n d117_16 rfl ?_
    refine q_aload_n d117_17 rfl ?_
    refine q_getv (c := 4) (f := 1) d117_18 ⟨rfl, by decide⟩ (hC1.1.2.2.2.2.2.2.2.2.2.2.2.1 h (by omega)).1 hz1 ?_
    refine nc_ge 84 d117_21 (by decide) (by omega) (by omega) (fun h21 => ?_) (fun h21 => ?_)
    · refine q_iload_n d117_84 rfl ?_
      refine q_iret d117_85 rfl ?_
      exact k _ _ hR1 hF
    · refine q_aload_n d117_24 rfl ?_
      refine q_getr (c := 7) (f := 5) d117_25 ⟨rfl, rfl⟩ (hC1.1.1.1) (hC1.1.1.2.2.2.2.2.2.2.1) ?_
      refine q_v0 d117_28 rfl rfl (hC1.1.wo (Or.inr ⟨rfl, rfl, rfl, rfl⟩)).1 (Nat.le_of_ble_eq_true rfl) (c69 hC1 hC1.l0 (fun M2 hC2 f2 => ?_))
      have ht2 := hR1.th hC2.1 f2.fr
      refine q_iconstN (z := 0) d117_31 ?_
      refine q_istore d117_32 (by decide) rfl ?_
      refine qW_srt rfl rfl ?_
      exact l117b hh (by omega) hn hz ht2.1 hC2 (fun v2 => by
        refine n_iinc 1 d117_78 (by decide) rfl rfl ?_
        refine q_goto 16 d117_81 (by decide) ?_
        refine qW_srt rfl rfl ?_
        exact ih (i + 1) _ _ _ _ (by omega) (by omega) ht2.1 hC2 (hF.trans ht2.2)) 7 0 _ (by omega) (by omega)
theorem c117 {d : Nat} {M : zM} {Q : Option Value → zM → Prop} {D : yD} {n h : Nat} (hh : h < 4) (hn : n ≤ 20) (hz : (dR D h).2 = n) (hR : RC M D) (k : ∀ v M', RC M' D → Fc M M' → Q (some (.int v)) M') : qC (d + 6) 117 [.ref 16, .ref (127 + 2 * h)] M Q := by
  refine qC_of (by decide) (Nat.le_of_ble_eq_true rfl) ?_
  have hS := hR.1.1
  have hT := hR.1.2.2.1
  have hO := hR.1.2.2.2.1
  have hRW := hR.1.2.2.2.2
  have hJ : RL M 62 (dL D) := hRW.2.2.2
  have hc6 := hO.1.1
  have h120 := hR.2.2.1.1
  have hwr := hS.wo (Or.inl ⟨rfl, rfl, rfl, rfl⟩)
  have hwt := hS.wo (Or.inr ⟨rfl, rfl, rfl, rfl⟩)
  have hpr := hS.pu (Or.inl ⟨rfl, rfl, rfl, rfl⟩)
  have hpt := hS.pu (Or.inr ⟨rfl, rfl, rfl, rfl⟩)
  refine q_bipush (x := nI 63) d117_0 rfl ?_
  refine q_istore_n d117_2 (by decide) rfl ?_
  refine q_aload_n d117_3 rfl ?_
  refine q_getr (c := 7) (f := 5) d117_4 ⟨rfl, rfl⟩ (hS.1.1) (hS.1.2.2.2.2.2.2.2.1) ?_
  refine q_aload_n d117_7 rfl ?_
  refine q_getr (c := 7) (f := 4) d117_8 ⟨rfl, rfl⟩ (hS.1.1) (hS.1.2.2.2.2.2.2.1) ?_
  refine q_v1 d117_11 rfl rfl hwt.1 (Nat.le_of_ble_eq_true rfl) (c101 (nm := dnm D) (X := dX D) hR.1 (fun M1 hC1 f1 => ?_))
  have ht1 := hR.th hC1.1 (f1.mono (fun b q e => ⟨by have := e.1; omega, by have := e.2; omega⟩))
  have hR1 := ht1.1
  have hz1 : zi M1 (127 + 2 * h) 1 = nI n := (hR1.2.2.2 h hh).2.trans (by rw [hz])
  refine q_iconstN (z := 0) d117_14 ?_
  refine q_istore_n d117_15 (by decide) rfl ?_
  refine q_iload_n d117_16 rfl ?_
  refine q_aload_n d117_17 rfl ?_
  refine q_getv (c := 4) (f := 1) d117_18 ⟨rfl, by decide⟩ (hC1.1.2.2.2.2.2.2.2.2.2.2.2.1 h (by omega)).1 hz1 ?_
  refine nc_ge 84 d117_21 (by decide) (by omega) (by omega) (fun h21 => ?_) (fun h21 => ?_)
  · refine q_iload_n d117_84 rfl ?_
    refine q_iret d117_85 rfl ?_
    exact k _ _ hR1 ht1.2
  · refine q_aload_n d117_24 rfl ?_
    refine q_getr (c := 7) (f := 5) d117_25 ⟨rfl, rfl⟩ (hC1.1.1.1) (hC1.1.1.2.2.2.2.2.2.2.1) ?_
    refine q_v0 d117_28 rfl rfl (hC1.1.wo (Or.inr ⟨rfl, rfl, rfl, rfl⟩)).1 (Nat.le_of_ble_eq_true rfl) (c69 hC1 hC1.l0 (fun M2 hC2 f2 => ?_))
    have ht2 := hR1.th hC2.1 f2.fr
    refine q_iconstN (z := 0) d117_31 ?_
    refine q_istore d117_32 (by decide) rfl ?_
    refine qW_srt rfl rfl ?_
    exact l117b hh (by omega) hn hz ht2.1 hC2 (fun v2 => by
      refine n_iinc 1 d117_78 (by decide) rfl rfl ?_
      refine q_goto 16 d117_81 (by decide) ?_
      refine qW_srt rfl rfl ?_
      exact l117 hh hn hz k (n + 1) 1 _ _ _ _ (by omega) (by omega) ht2.1 hC2 (ht1.2.trans ht2.2)) 7 0 _ (by omega) (by omega)
theorem CW_nm {M : zM} {T : Nat → yT} {c s i : Nat} {v : Int32} {nm : Nat → Nat → Int32} {X : yX} (hC : CW M 94 94 99 95 T c nm X) (hs : s < 3) : CW (zwi M (102 + 8 * s + 2) i v) 94 94 99 95 T c (yu nm s (yu (nm s) i v)) X := by
  have f : Fi (fun b _ => b = 102 + 8 * s + 2) M (zwi M (102 + 8 * s + 2) i v) := (Fi.refl _ M).wi rfl
  obtain ⟨h1, h2, h3, h4, h5, h6, h7⟩ := hC
  refine ⟨f.sc h1 (fun a k ha q => by omega), h2, RTx_fr h3 h4.1.1 f.fr (fun b k a1 a2 q => by omega), h4, RPu_fr h5 f.fr (fun b k a1 a2 q => by omega), fun r hr => ?_, RJ_fr h7 f.fr (fun b k a1 a2 q => by omega)⟩
  by_cases e : r = s
  · subst e
    rw [yu_s]
    have g : ∀ b k, b ≠ 102 + 8 * r + 2 → zi (zwi M (102 + 8 * r + 2) i v) b k = zi M b k := fun b k n => f.1 b k (by omega)
    obtain ⟨⟨r1, r2, r3⟩, ⟨r4, r5, r6⟩, ⟨r7, r8⟩, r9, ra, rb⟩ := h6 r hr
    exact ⟨⟨(g _ _ (by omega)).trans r1, (g _ _ (by omega)).trans r2, (f.r _ _).trans r3⟩, ⟨(g _ _ (by omega)).trans r4, (g _ _ (by omega)).trans r5, (g _ _ (by omega)).trans r6⟩,
      ⟨(g _ _ (by omega)).trans r7, fun k hk => (g _ _ (by omega)).trans (r8 k hk)⟩, fun k hk => (by
        show zi (zwi M (102 + 8 * r + 2) i v) (102 + 8 * r + 2) k = yu (nm r) i v k
        by_cases ek : k = i
        · subst ek; rw [wi_s, yu_s]
        · rw [wi_n (Or.inr ek), yu_n ek]; exact r9 k hk), fun k hk he => (g _ _ (by omega)).trans (ra k hk he),
      fun k hk => ⟨(g _ _ (by omega)).trans (rb k hk).1, (g _ _ (by omega)).trans (rb k hk).2.1, (g _ _ (by omega)).trans (rb k hk).2.2.1, (g _ _ (by omega)).trans (rb k hk).2.2.2⟩⟩
  · rw [yu_n e]
    exact RS_fr (h6 r hr) f.fr (fun b k a1 a2 q => by omega)
theorem d118_0 : decode (zB 118) 0 = .ok (.iconst 0, 1) := (congrArg (fun c => decode c 0) zeq118).trans (by decide +kernel)
theorem d118_1 : decode (zB 118) 1 = .ok (.istore 5, 2) := (congrArg (fun c => decode c 1) zeq118).trans (by decide +kernel)
theorem d118_3 : decode (zB 118) 3 = .ok (.iconst 0, 1) := (congrArg (fun c => decode c 3) zeq118).trans (by decide +kernel)
theorem d118_4 : decode (zB 118) 4 = .ok (.istore 6, 2) := (congrArg (fun c => decode c 4) zeq118).trans (by decide +kernel)
theorem d118_6 : decode (zB 118) 6 = .ok (.iload 6, 2) := (congrArg (fun c => decode c 6) zeq118).trans (by decide +kernel)
theorem d118_8 : decode (zB 118) 8 = .ok (.bipush 20, 2) := (congrArg (fun c => decode c 8) zeq118).trans (by decide +kernel)
theorem d118_10 : decode (zB 118) 10 = .ok (.if_icmp .ge 56, 3) := (congrArg (fun c => decode c 10) zeq118).trans (by decide +kernel)
theorem d118_13 : decode (zB 118) 13 = .ok (.aload_n 0, 1) := (congrArg (fun c => decode c 13) zeq118).trans (by decide +kernel)
theorem d118_14 : decode (zB 118) 14 = .ok (.getfield 41, 3) := (congrArg (fun c => decode c 14) zeq118).trans (by decide +kernel)
theorem d118_17 : decode (zB 118) 17 = .ok (.aload_n 0, 1) := (congrArg (fun c => decode c 17) zeq118).trans (by decide +kernel)
theorem d118_18 : decode (zB 118) 18 = .ok (.getfield 37, 3) := (congrArg (fun c => decode c 18) zeq118).trans (by decide +kernel)
theorem d118_21 : decode (zB 118) 21 = .ok (.invokevirtual 227, 3) := (congrArg (fun c => decode c 21) zeq118).trans (by decide +kernel)
theorem d118_24 : decode (zB 118) 24 = .ok (.aload_n 0, 1) := (congrArg (fun c => decode c 24) zeq118).trans (by decide +kernel)
theorem d118_25 : decode (zB 118) 25 = .ok (.getfield 41, 3) := (congrArg (fun c => decode c 25) zeq118).trans (by decide +kernel)
theorem d118_28 : decode (zB 118) 28 = .ok (.getfield 144, 3) := (congrArg (fun c => decode c 28) zeq118).trans (by decide +kernel)
theorem d118_31 : decode (zB 118) 31 = .ok (.iload_n 3, 1) := (congrArg (fun c => decode c 31) zeq118).trans (by decide +kernel)
theorem d118_32 : decode (zB 118) 32 = .ok (.aaload, 1) := (congrArg (fun c => decode c 32) zeq118).trans (by decide +kernel)
theorem d118_33 : decode (zB 118) 33 = .ok (.getfield 252, 3) := (congrArg (fun c => decode c 33) zeq118).trans (by decide +kernel)
theorem d118_36 : decode (zB 118) 36 = .ok (.iload 4, 2) := (congrArg (fun c => decode c 36) zeq118).trans (by decide +kernel)
theorem d118_38 : decode (zB 118) 38 = .ok (.iload 6, 2) := (congrArg (fun c => decode c 38) zeq118).trans (by decide +kernel)
theorem d118_40 : decode (zB 118) 40 = .ok (.iastore, 1) := (congrArg (fun c => decode c 40) zeq118).trans (by decide +kernel)
theorem d118_41 : decode (zB 118) 41 = .ok (.aload_n 0, 1) := (congrArg (fun c => decode c 41) zeq118).trans (by decide +kernel)
theorem d118_42 : decode (zB 118) 42 = .ok (.aload_n 1, 1) := (congrArg (fun c => decode c 42) zeq118).trans (by decide +kernel)
theorem d118_43 : decode (zB 118) 43 = .ok (.iload_n 2, 1) := (congrArg (fun c => decode c 43) zeq118).trans (by decide +kernel)
theorem d118_44 : decode (zB 118) 44 = .ok (.invokevirtual 257, 3) := (congrArg (fun c => decode c 44) zeq118).trans (by decide +kernel)
theorem d118_47 : decode (zB 118) 47 = .ok (.iconst (-1), 1) := (congrArg (fun c => decode c 47) zeq118).trans (by decide +kernel)
theorem d118_48 : decode (zB 118) 48 = .ok (.if_icmp .ne 12, 3) := (congrArg (fun c => decode c 48) zeq118).trans (by decide +kernel)
theorem d118_51 : decode (zB 118) 51 = .ok (.iload 5, 2) := (congrArg (fun c => decode c 51) zeq118).trans (by decide +kernel)
theorem d118_53 : decode (zB 118) 53 = .ok (.iconst 1, 1) := (congrArg (fun c => decode c 53) zeq118).trans (by decide +kernel)
theorem d118_54 : decode (zB 118) 54 = .ok (.iload 6, 2) := (congrArg (fun c => decode c 54) zeq118).trans (by decide +kernel)
theorem d118_56 : decode (zB 118) 56 = .ok (.ishl, 1) := (congrArg (fun c => decode c 56) zeq118).trans (by decide +kernel)
theorem d118_57 : decode (zB 118) 57 = .ok (.ior, 1) := (congrArg (fun c => decode c 57) zeq118).trans (by decide +kernel)
theorem d118_58 : decode (zB 118) 58 = .ok (.istore 5, 2) := (congrArg (fun c => decode c 58) zeq118).trans (by decide +kernel)
theorem d118_60 : decode (zB 118) 60 = .ok (.iinc 6 1, 3) := (congrArg (fun c => decode c 60) zeq118).trans (by decide +kernel)
theorem d118_63 : decode (zB 118) 63 = .ok (.goto (-57), 3) := (congrArg (fun c => decode c 63) zeq118).trans (by decide +kernel)
theorem d118_66 : decode (zB 118) 66 = .ok (.iload 5, 2) := (congrArg (fun c => decode c 66) zeq118).trans (by decide +kernel)
theorem d118_68 : decode (zB 118) 68 = .ok (.ireturn, 1) := (congrArg (fun c => decode c 68) zeq118).trans (by decide +kernel)
theorem l118 {d : Nat} {Q : Option Value → zM → Prop} {D : yD} {M0 : zM} {n h a s st : Nat} (hh : h < 4) (ha : a < 6) (hs : s < 3) (hst : st < 12) (hn : n ≤ 20) (hz : (dR D h).2 = n) (k : ∀ t M', t < 2 ^ 20 → RC M' D → Fc M0 M' → Q (some (.int (nI t))) M') : ∀ (r i : Nat) (M1 : zM) (t : Nat), i ≤ 20 → 20 < i + r →  t < 2 ^ i → RC M1 D → Fc M0 M1 → qW (zEv (d + 6)) 118 Q 6 [(0, .ref 16), (1, .ref (127 + 2 * h)), (2, .int (nI a)), (3, .int (nI s)), (4, .int (nI st)), (5, .int (nI t)), (6, .int (nI i))] [] M1 := by
  intro r
  induction r with
  | zero => intros; omega
  | succ r ih =>
    intro i M1 t h1 h2 ht hR1 hF
    have hz1 : zi M1 (127 + 2 * h) 1 = nI n := (hR1.2.2.2 h hh).2.trans (by rw [hz])
    have hS := hR1.1.1
    have hwr := hS.wo (Or.inl ⟨rfl, rfl, rfl, rfl⟩)
    refine q_iload d118_6 rfl ?_
    refine q_bipush (x := nI 20) d118_8 rfl ?_
    refine nc_ge 66 d118_10 (by decide) (by omega) (by omega) (fun h10 => ?_) (fun h10 => ?_)
    · refine q_iload d118_66 rfl ?_
      refine q_iret d118_68 rfl ?_
      exact k _ _ (by rw [show (20 : Nat) = i by omega]; exact ht) hR1 hF
    · refine q_aload_n d118_13 rfl ?_
      refine q_getr (c := 7) (f := 5) d118_14 ⟨rfl, rfl⟩ (hS.1.1) (hS.1.2.2.2.2.2.2.2.1) ?_
      refine q_aload_n d118_17 rfl ?_
      refine q_getr (c := 7) (f := 4) d118_18 ⟨rfl, rfl⟩ (hS.1.1) (hS.1.2.2.2.2.2.2.1) ?_
      refine q_v1 d118_21 rfl rfl (hS.wo (Or.inr ⟨rfl, rfl, rfl, rfl⟩)).1 (Nat.le_of_ble_eq_true rfl) (c101 (nm := dnm D) (X := dX D) hR1.1 (fun M2 hC2 f1 => ?_))
      have ht2 := hR1.th hC2.1 (f1.mono (fun b q e => ⟨by have := e.1; omega, by have := e.2; omega⟩))
      have hsghC2 : SSg M2 (102 + 8 * s) := hC2.1.sg (by unfold zSa; omega)
      refine q_aload_n d118_24 rfl ?_
      refine q_getr (c := 7) (f := 5) d118_25 ⟨rfl, rfl⟩ (hC2.1.1.1) (hC2.1.1.2.2.2.2.2.2.2.1) ?_
      refine q_getr (c := 6) (f := 3) d118_28 ⟨rfl, rfl⟩ (hC2.1.wo (Or.inr ⟨rfl, rfl, rfl, rfl⟩)).1 (hC2.1.wo (Or.inr ⟨rfl, rfl, rfl, rfl⟩)).2.2.2.2.1 ?_
      refine q_iload_n d118_31 rfl ?_
      refine n_aald d118_32 (hC2.1.wo (Or.inr ⟨rfl, rfl, rfl, rfl⟩)).2.2.2.2.2.1 (by decide) (by omega) (by decide) ((hC2.1.wo (Or.inr ⟨rfl, rfl, rfl, rfl⟩)).2.2.2.2.2.2 _ (by omega)) ?_
      refine q_getr (c := 5) (f := 8) d118_33 ⟨rfl, rfl⟩ hsghC2.1 (hsghC2.2.2.1 0 (by decide)) ?_
      refine q_iload d118_36 rfl ?_
      refine q_iload d118_38 rfl ?_
      refine n_iast d118_40 (hsghC2.2.2.2 1 (by decide)) (by omega) (by decide) ?_
      have hC3 := CW_nm (i := st) (v := nI i) hC2 hs
      have ht3 := ht2.1.th hC3.1 ((Fr.refl _ _).wi (by constructor <;> omega))
      refine q_aload_n d118_41 rfl ?_
      refine q_aload_n d118_42 rfl ?_
      refine q_iload_n d118_43 rfl ?_
      refine q_v2 d118_44 rfl rfl (hC2.1.1.1) (Nat.le_of_ble_eq_true rfl) (c116 hh ha hn hz ht3.1 hC3 (fun v4 M4 hR4 g4 => ?_))
      refine q_iconst (x := (-1)) d118_47 rfl ?_
      refine ic_ne 60 d118_48 (by decide) (fun h48 => ?_) (fun h48 => ?_)
      · refine n_iinc 1 d118_60 (by decide) rfl rfl ?_
        refine q_goto 6 d118_63 (by decide) ?_
        refine qW_srt rfl rfl ?_
        exact ih (i + 1) _ _ (by omega) (by omega) (Nat.lt_trans ht (pow_lt (by omega))) hR4 (hF.trans (ht2.2.trans (ht3.2.trans g4)))
      · refine q_iload d118_51 rfl ?_
        refine q_iconstN (z := 1) d118_53 ?_
        refine q_iload d118_54 rfl ?_
        refine n_ishl1 d118_56 (by omega) ?_
        refine n_ior d118_57 ?_
        refine q_istore d118_58 (by decide) rfl ?_
        refine n_iinc 1 d118_60 (by decide) rfl rfl ?_
        refine q_goto 6 d118_63 (by decide) ?_
        refine qW_srt rfl rfl ?_
        exact ih (i + 1) _ _ (by omega) (by omega) (Nat.or_lt_two_pow (Nat.lt_trans ht (pow_lt (by omega))) (pow_lt (by omega))) hR4 (hF.trans (ht2.2.trans (ht3.2.trans g4)))
theorem c118 {d : Nat} {M : zM} {Q : Option Value → zM → Prop} {D : yD} {n h a s st : Nat} (hh : h < 4) (ha : a < 6) (hs : s < 3) (hst : st < 12) (hn : n ≤ 20) (hz : (dR D h).2 = n) (hR : RC M D) (k : ∀ t M', t < 2 ^ 20 → RC M' D → Fc M M' → Q (some (.int (nI t))) M') : qC (d + 7) 118 [.ref 16, .ref (127 + 2 * h), .int (nI a), .int (nI s), .int (nI st)] M Q := by
  refine qC_of (by decide) (Nat.le_of_ble_eq_true rfl) ?_
  refine q_iconstN (z := 0) d118_0 ?_
  refine q_istore d118_1 (by decide) rfl ?_
  refine q_iconstN (z := 0) d118_3 ?_
  refine q_istore d118_4 (by decide) rfl ?_
  refine qW_srt rfl rfl ?_
  exact l118 hh ha hs hst hn hz k 21 0 M 0 (by omega) (by omega) (by decide) hR (Fc.refl _)
/-! ===== the calls of the class: tells ===== -/
theorem c114t {d m : Nat} {M : zM} {Q : Option Value → zM → Prop} {x : Int32} (h : yqx x = some m) (k : Q (some (.int (nI 1))) M) : qC (d + 2) 114 [.int x] M Q := c114 (by rw [h]; exact k)
theorem c114f {d : Nat} {M : zM} {Q : Option Value → zM → Prop} {x : Int32} (h : yqx x = none) (k : Q (some (.int (nI 0))) M) : qC (d + 2) 114 [.int x] M Q := c114 (by rw [h]; exact k)
theorem yqx_s {x : Int32} {m : Nat} (h : yqx x = some m) : x = nI m ∧ yqm m = true ∧ m < 212 := by
  unfold yqx at h
  rcases zix_c x (n := 212) (by omega) with ⟨j, hj, rfl, e⟩ | ⟨e, hn⟩
  · rw [e] at h
    have h : (if yqm j = true then some j else none) = some m := h
    by_cases hw : yqm j = true
    · rw [if_pos hw] at h
      have := Option.some.inj h
      subst this
      exact ⟨rfl, hw, hj⟩
    · rw [if_neg hw] at h
      exact absurd h.symm (Option.some_ne_none _)
  · rw [e] at h
    exact absurd (Eq.symm h) (Option.some_ne_none _)
theorem zixN {k n : Nat} (hk : k < 2147483648) (hn : n ≤ 2147483648) (h : (zix (nI k) n).isSome = true) : k < n := by
  cases e : zix (nI k) n with
  | none => rw [e] at h; cases h
  | some j =>
    obtain ⟨h1, h2⟩ := zix_some e
    have := nI_inj hk (by omega) h2
    omega
theorem d112_0 : decode (zB 112) 0 = .ok (.iload_n 1, 1) := (congrArg (fun c => decode c 0) zeq112).trans (by decide +kernel)
theorem d112_1 : decode (zB 112) 1 = .ok (.invokestatic 245, 3) := (congrArg (fun c => decode c 1) zeq112).trans (by decide +kernel)
theorem d112_4 : decode (zB 112) 4 = .ok (.ifCond .eq 25, 3) := (congrArg (fun c => decode c 4) zeq112).trans (by decide +kernel)
theorem d112_7 : decode (zB 112) 7 = .ok (.iload_n 2, 1) := (congrArg (fun c => decode c 7) zeq112).trans (by decide +kernel)
theorem d112_8 : decode (zB 112) 8 = .ok (.invokestatic 202, 3) := (congrArg (fun c => decode c 8) zeq112).trans (by decide +kernel)
theorem d112_11 : decode (zB 112) 11 = .ok (.ifCond .eq 18, 3) := (congrArg (fun c => decode c 11) zeq112).trans (by decide +kernel)
theorem d112_14 : decode (zB 112) 14 = .ok (.iload_n 3, 1) := (congrArg (fun c => decode c 14) zeq112).trans (by decide +kernel)
theorem d112_15 : decode (zB 112) 15 = .ok (.invokestatic 141, 3) := (congrArg (fun c => decode c 15) zeq112).trans (by decide +kernel)
theorem d112_18 : decode (zB 112) 18 = .ok (.ifCond .eq 11, 3) := (congrArg (fun c => decode c 18) zeq112).trans (by decide +kernel)
theorem d112_21 : decode (zB 112) 21 = .ok (.iload 4, 2) := (congrArg (fun c => decode c 21) zeq112).trans (by decide +kernel)
theorem d112_23 : decode (zB 112) 23 = .ok (.invokestatic 248, 3) := (congrArg (fun c => decode c 23) zeq112).trans (by decide +kernel)
theorem d112_26 : decode (zB 112) 26 = .ok (.ifCond .ne 6, 3) := (congrArg (fun c => decode c 26) zeq112).trans (by decide +kernel)
theorem d112_29 : decode (zB 112) 29 = .ok (.bipush (-2), 2) := (congrArg (fun c => decode c 29) zeq112).trans (by decide +kernel)
theorem d112_31 : decode (zB 112) 31 = .ok (.ireturn, 1) := (congrArg (fun c => decode c 31) zeq112).trans (by decide +kernel)
theorem d112_32 : decode (zB 112) 32 = .ok (.iload 4, 2) := (congrArg (fun c => decode c 32) zeq112).trans (by decide +kernel)
theorem d112_34 : decode (zB 112) 34 = .ok (.bipush 100, 2) := (congrArg (fun c => decode c 34) zeq112).trans (by decide +kernel)
theorem d112_36 : decode (zB 112) 36 = .ok (.irem, 1) := (congrArg (fun c => decode c 36) zeq112).trans (by decide +kernel)
theorem d112_37 : decode (zB 112) 37 = .ok (.istore 5, 2) := (congrArg (fun c => decode c 37) zeq112).trans (by decide +kernel)
theorem d112_39 : decode (zB 112) 39 = .ok (.iload 4, 2) := (congrArg (fun c => decode c 39) zeq112).trans (by decide +kernel)
theorem d112_41 : decode (zB 112) 41 = .ok (.bipush 100, 2) := (congrArg (fun c => decode c 41) zeq112).trans (by decide +kernel)
theorem d112_43 : decode (zB 112) 43 = .ok (.if_icmp .lt 50, 3) := (congrArg (fun c => decode c 43) zeq112).trans (by decide +kernel)
theorem d112_46 : decode (zB 112) 46 = .ok (.aload_n 0, 1) := (congrArg (fun c => decode c 46) zeq112).trans (by decide +kernel)
theorem d112_47 : decode (zB 112) 47 = .ok (.getfield 37, 3) := (congrArg (fun c => decode c 47) zeq112).trans (by decide +kernel)
theorem d112_50 : decode (zB 112) 50 = .ok (.getfield 144, 3) := (congrArg (fun c => decode c 50) zeq112).trans (by decide +kernel)
theorem d112_53 : decode (zB 112) 53 = .ok (.iload_n 3, 1) := (congrArg (fun c => decode c 53) zeq112).trans (by decide +kernel)
theorem d112_54 : decode (zB 112) 54 = .ok (.aaload, 1) := (congrArg (fun c => decode c 54) zeq112).trans (by decide +kernel)
theorem d112_55 : decode (zB 112) 55 = .ok (.astore 6, 2) := (congrArg (fun c => decode c 55) zeq112).trans (by decide +kernel)
theorem d112_57 : decode (zB 112) 57 = .ok (.aload 6, 2) := (congrArg (fun c => decode c 57) zeq112).trans (by decide +kernel)
theorem d112_59 : decode (zB 112) 59 = .ok (.getfield 166, 3) := (congrArg (fun c => decode c 59) zeq112).trans (by decide +kernel)
theorem d112_62 : decode (zB 112) 62 = .ok (.ifCond .ne 6, 3) := (congrArg (fun c => decode c 62) zeq112).trans (by decide +kernel)
theorem d112_65 : decode (zB 112) 65 = .ok (.bipush (-3), 2) := (congrArg (fun c => decode c 65) zeq112).trans (by decide +kernel)
theorem d112_67 : decode (zB 112) 67 = .ok (.ireturn, 1) := (congrArg (fun c => decode c 67) zeq112).trans (by decide +kernel)
theorem d112_68 : decode (zB 112) 68 = .ok (.aload 6, 2) := (congrArg (fun c => decode c 68) zeq112).trans (by decide +kernel)
theorem d112_70 : decode (zB 112) 70 = .ok (.iload 5, 2) := (congrArg (fun c => decode c 70) zeq112).trans (by decide +kernel)
theorem d112_72 : decode (zB 112) 72 = .ok (.invokevirtual 251, 3) := (congrArg (fun c => decode c 72) zeq112).trans (by decide +kernel)
theorem d112_75 : decode (zB 112) 75 = .ok (.ifCond .eq 15, 3) := (congrArg (fun c => decode c 75) zeq112).trans (by decide +kernel)
theorem d112_78 : decode (zB 112) 78 = .ok (.aload 6, 2) := (congrArg (fun c => decode c 78) zeq112).trans (by decide +kernel)
theorem d112_80 : decode (zB 112) 80 = .ok (.getfield 252, 3) := (congrArg (fun c => decode c 80) zeq112).trans (by decide +kernel)
theorem d112_83 : decode (zB 112) 83 = .ok (.iload 5, 2) := (congrArg (fun c => decode c 83) zeq112).trans (by decide +kernel)
theorem d112_85 : decode (zB 112) 85 = .ok (.iaload, 1) := (congrArg (fun c => decode c 85) zeq112).trans (by decide +kernel)
theorem d112_86 : decode (zB 112) 86 = .ok (.iconst (-1), 1) := (congrArg (fun c => decode c 86) zeq112).trans (by decide +kernel)
theorem d112_87 : decode (zB 112) 87 = .ok (.if_icmp .ne 6, 3) := (congrArg (fun c => decode c 87) zeq112).trans (by decide +kernel)
theorem d112_90 : decode (zB 112) 90 = .ok (.bipush (-2), 2) := (congrArg (fun c => decode c 90) zeq112).trans (by decide +kernel)
theorem d112_92 : decode (zB 112) 92 = .ok (.ireturn, 1) := (congrArg (fun c => decode c 92) zeq112).trans (by decide +kernel)
theorem d112_93 : decode (zB 112) 93 = .ok (.aload_n 0, 1) := (congrArg (fun c => decode c 93) zeq112).trans (by decide +kernel)
theorem d112_94 : decode (zB 112) 94 = .ok (.getfield 46, 3) := (congrArg (fun c => decode c 94) zeq112).trans (by decide +kernel)
theorem d112_97 : decode (zB 112) 97 = .ok (.iload_n 1, 1) := (congrArg (fun c => decode c 97) zeq112).trans (by decide +kernel)
theorem d112_98 : decode (zB 112) 98 = .ok (.aaload, 1) := (congrArg (fun c => decode c 98) zeq112).trans (by decide +kernel)
theorem d112_99 : decode (zB 112) 99 = .ok (.astore 6, 2) := (congrArg (fun c => decode c 99) zeq112).trans (by decide +kernel)
theorem d112_101 : decode (zB 112) 101 = .ok (.aload 6, 2) := (congrArg (fun c => decode c 101) zeq112).trans (by decide +kernel)
theorem d112_103 : decode (zB 112) 103 = .ok (.getfield 253, 3) := (congrArg (fun c => decode c 103) zeq112).trans (by decide +kernel)
theorem d112_106 : decode (zB 112) 106 = .ok (.iconst (-1), 1) := (congrArg (fun c => decode c 106) zeq112).trans (by decide +kernel)
theorem d112_107 : decode (zB 112) 107 = .ok (.if_icmp .ne 6, 3) := (congrArg (fun c => decode c 107) zeq112).trans (by decide +kernel)
theorem d112_110 : decode (zB 112) 110 = .ok (.bipush (-11), 2) := (congrArg (fun c => decode c 110) zeq112).trans (by decide +kernel)
theorem d112_112 : decode (zB 112) 112 = .ok (.ireturn, 1) := (congrArg (fun c => decode c 112) zeq112).trans (by decide +kernel)
theorem d112_113 : decode (zB 112) 113 = .ok (.aload 6, 2) := (congrArg (fun c => decode c 113) zeq112).trans (by decide +kernel)
theorem d112_115 : decode (zB 112) 115 = .ok (.getfield 256, 3) := (congrArg (fun c => decode c 115) zeq112).trans (by decide +kernel)
theorem d112_118 : decode (zB 112) 118 = .ok (.bipush 20, 2) := (congrArg (fun c => decode c 118) zeq112).trans (by decide +kernel)
theorem d112_120 : decode (zB 112) 120 = .ok (.if_icmp .le 6, 3) := (congrArg (fun c => decode c 120) zeq112).trans (by decide +kernel)
theorem d112_123 : decode (zB 112) 123 = .ok (.bipush (-2), 2) := (congrArg (fun c => decode c 123) zeq112).trans (by decide +kernel)
theorem d112_125 : decode (zB 112) 125 = .ok (.ireturn, 1) := (congrArg (fun c => decode c 125) zeq112).trans (by decide +kernel)
theorem d112_126 : decode (zB 112) 126 = .ok (.iload 4, 2) := (congrArg (fun c => decode c 126) zeq112).trans (by decide +kernel)
theorem d112_128 : decode (zB 112) 128 = .ok (.ifCond .ne 22, 3) := (congrArg (fun c => decode c 128) zeq112).trans (by decide +kernel)
theorem d112_131 : decode (zB 112) 131 = .ok (.aload_n 0, 1) := (congrArg (fun c => decode c 131) zeq112).trans (by decide +kernel)
theorem d112_132 : decode (zB 112) 132 = .ok (.getfield 41, 3) := (congrArg (fun c => decode c 132) zeq112).trans (by decide +kernel)
theorem d112_135 : decode (zB 112) 135 = .ok (.aload_n 0, 1) := (congrArg (fun c => decode c 135) zeq112).trans (by decide +kernel)
theorem d112_136 : decode (zB 112) 136 = .ok (.getfield 37, 3) := (congrArg (fun c => decode c 136) zeq112).trans (by decide +kernel)
theorem d112_139 : decode (zB 112) 139 = .ok (.invokevirtual 227, 3) := (congrArg (fun c => decode c 139) zeq112).trans (by decide +kernel)
theorem d112_142 : decode (zB 112) 142 = .ok (.aload_n 0, 1) := (congrArg (fun c => decode c 142) zeq112).trans (by decide +kernel)
theorem d112_143 : decode (zB 112) 143 = .ok (.aload 6, 2) := (congrArg (fun c => decode c 143) zeq112).trans (by decide +kernel)
theorem d112_145 : decode (zB 112) 145 = .ok (.iload_n 2, 1) := (congrArg (fun c => decode c 145) zeq112).trans (by decide +kernel)
theorem d112_146 : decode (zB 112) 146 = .ok (.invokevirtual 257, 3) := (congrArg (fun c => decode c 146) zeq112).trans (by decide +kernel)
theorem d112_149 : decode (zB 112) 149 = .ok (.ireturn, 1) := (congrArg (fun c => decode c 149) zeq112).trans (by decide +kernel)
theorem d112_150 : decode (zB 112) 150 = .ok (.iload 4, 2) := (congrArg (fun c => decode c 150) zeq112).trans (by decide +kernel)
theorem d112_152 : decode (zB 112) 152 = .ok (.iconst 1, 1) := (congrArg (fun c => decode c 152) zeq112).trans (by decide +kernel)
theorem d112_153 : decode (zB 112) 153 = .ok (.if_icmp .ne 10, 3) := (congrArg (fun c => decode c 153) zeq112).trans (by decide +kernel)
theorem d112_156 : decode (zB 112) 156 = .ok (.aload_n 0, 1) := (congrArg (fun c => decode c 156) zeq112).trans (by decide +kernel)
theorem d112_157 : decode (zB 112) 157 = .ok (.aload 6, 2) := (congrArg (fun c => decode c 157) zeq112).trans (by decide +kernel)
theorem d112_159 : decode (zB 112) 159 = .ok (.invokevirtual 261, 3) := (congrArg (fun c => decode c 159) zeq112).trans (by decide +kernel)
theorem d112_162 : decode (zB 112) 162 = .ok (.ireturn, 1) := (congrArg (fun c => decode c 162) zeq112).trans (by decide +kernel)
theorem d112_163 : decode (zB 112) 163 = .ok (.aload_n 0, 1) := (congrArg (fun c => decode c 163) zeq112).trans (by decide +kernel)
theorem d112_164 : decode (zB 112) 164 = .ok (.aload 6, 2) := (congrArg (fun c => decode c 164) zeq112).trans (by decide +kernel)
theorem d112_166 : decode (zB 112) 166 = .ok (.iload_n 2, 1) := (congrArg (fun c => decode c 166) zeq112).trans (by decide +kernel)
theorem d112_167 : decode (zB 112) 167 = .ok (.iload_n 3, 1) := (congrArg (fun c => decode c 167) zeq112).trans (by decide +kernel)
theorem d112_168 : decode (zB 112) 168 = .ok (.iload 5, 2) := (congrArg (fun c => decode c 168) zeq112).trans (by decide +kernel)
theorem d112_170 : decode (zB 112) 170 = .ok (.invokevirtual 265, 3) := (congrArg (fun c => decode c 170) zeq112).trans (by decide +kernel)
theorem d112_173 : decode (zB 112) 173 = .ok (.istore 7, 2) := (congrArg (fun c => decode c 173) zeq112).trans (by decide +kernel)
theorem d112_175 : decode (zB 112) 175 = .ok (.iload 4, 2) := (congrArg (fun c => decode c 175) zeq112).trans (by decide +kernel)
theorem d112_177 : decode (zB 112) 177 = .ok (.sipush 200, 3) := (congrArg (fun c => decode c 177) zeq112).trans (by decide +kernel)
theorem d112_180 : decode (zB 112) 180 = .ok (.if_icmp .ge 11, 3) := (congrArg (fun c => decode c 180) zeq112).trans (by decide +kernel)
theorem d112_183 : decode (zB 112) 183 = .ok (.iload 7, 2) := (congrArg (fun c => decode c 183) zeq112).trans (by decide +kernel)
theorem d112_185 : decode (zB 112) 185 = .ok (.invokestatic 233, 3) := (congrArg (fun c => decode c 185) zeq112).trans (by decide +kernel)
theorem d112_188 : decode (zB 112) 188 = .ok (.goto 8, 3) := (congrArg (fun c => decode c 188) zeq112).trans (by decide +kernel)
theorem d112_191 : decode (zB 112) 191 = .ok (.iload 7, 2) := (congrArg (fun c => decode c 191) zeq112).trans (by decide +kernel)
theorem d112_193 : decode (zB 112) 193 = .ok (.invokestatic 269, 3) := (congrArg (fun c => decode c 193) zeq112).trans (by decide +kernel)
theorem d112_196 : decode (zB 112) 196 = .ok (.ireturn, 1) := (congrArg (fun c => decode c 196) zeq112).trans (by decide +kernel)
theorem p112 {d : Nat} {M : zM} {Q : Option Value → zM → Prop} {D : yD} {x y z w : Int32} (hR : RC M D) (hD : OKD D) (k : ∀ v M', RC M' D → Fc M M' → Q (some (.int v)) M') : qC (d + 8) 112 [.ref 16, .int x, .int y, .int z, .int w] M Q := by
  refine qC_of (by decide) (Nat.le_of_ble_eq_true rfl) ?_
  have hS := hR.1.1
  have hT := hR.1.2.2.1
  have hO := hR.1.2.2.2.1
  have hRW := hR.1.2.2.2.2
  have hJ : RL M 62 (dL D) := hRW.2.2.2
  have hc6 := hO.1.1
  have h240 := hD.2.1
  have h120 := hR.2.2.1.1
  have hwr := hS.wo (Or.inl ⟨rfl, rfl, rfl, rfl⟩)
  have hwt := hS.wo (Or.inr ⟨rfl, rfl, rfl, rfl⟩)
  have hpr := hS.pu (Or.inl ⟨rfl, rfl, rfl, rfl⟩)
  have hpt := hS.pu (Or.inr ⟨rfl, rfl, rfl, rfl⟩)
  rcases zix_c x (n := 4) (by omega) with ⟨h, hh, rfl, eh⟩ | ⟨eh, nh⟩
  · have _u := eh
    rcases zix_c y (n := 6) (by omega) with ⟨a, ha, rfl, ea⟩ | ⟨ea, na⟩
    · have _u := ea
      rcases zix_c z (n := 3) (by omega) with ⟨s, hs, rfl, es⟩ | ⟨es, ns⟩
      · have _u := es
        have hsg : SSg M (70 + 8 * s) := hS.sg (by unfold zSa; omega)
        have hg0 : zi M (70 + 8 * s) 0 = nI (gt (dS D s)) := (hRW.2.1 s hs).1.1
        have hg5 : gt (dS D s) ≤ 5 := (hO.2.2 s hs).1
        cases hv : yqx w with
        | none =>
          refine q_iload_n d112_0 rfl ?_
          refine q_s1 d112_1 (Or.inl rfl) rfl (Nat.le_of_ble_eq_true rfl) (c113t (by omega) ?_)
          refine n0_eq 29 d112_4 (by decide) (by decide) (fun q => absurd q (by decide)) (fun _ => ?_)
          refine q_iload_n d112_7 rfl ?_
          refine q_s1 d112_8 (Or.inl rfl) rfl (Nat.le_of_ble_eq_true rfl) (c26t (by omega) ?_)
          refine n0_eq 29 d112_11 (by decide) (by decide) (fun q => absurd q (by decide)) (fun _ => ?_)
          refine q_iload_n d112_14 rfl ?_
          refine q_s1 d112_15 (Or.inl rfl) rfl (Nat.le_of_ble_eq_true rfl) (c60t (by omega) ?_)
          refine n0_eq 29 d112_18 (by decide) (by decide) (fun q => absurd q (by decide)) (fun _ => ?_)
          refine q_iload d112_21 rfl ?_
          refine q_s1 d112_23 (Or.inl rfl) rfl (Nat.le_of_ble_eq_true rfl) (c114f hv ?_)
          refine n0_ne 32 d112_26 (by decide) (by decide) (fun q => absurd q (by decide)) (fun _ => ?_)
          refine q_bipush (x := (-2)) d112_29 rfl ?_
          refine q_iret d112_31 rfl ?_
          exact k _ _ hR (Fc.refl _)
        | some m =>
          obtain ⟨rfl, hm, h212⟩ := yqx_s hv
          simp only [yqm, Bool.or_eq_true, decide_eq_true_eq] at hm
          have hz40 := (hD.2.2.2.2 h hh).1
          refine q_iload_n d112_0 rfl ?_
          refine q_s1 d112_1 (Or.inl rfl) rfl (Nat.le_of_ble_eq_true rfl) (c113t (by omega) ?_)
          refine n0_eq 29 d112_4 (by decide) (by decide) (fun q => absurd q (by decide)) (fun _ => ?_)
          refine q_iload_n d112_7 rfl ?_
          refine q_s1 d112_8 (Or.inl rfl) rfl (Nat.le_of_ble_eq_true rfl) (c26t (by omega) ?_)
          refine n0_eq 29 d112_11 (by decide) (by decide) (fun q => absurd q (by decide)) (fun _ => ?_)
          refine q_iload_n d112_14 rfl ?_
          refine q_s1 d112_15 (Or.inl rfl) rfl (Nat.le_of_ble_eq_true rfl) (c60t (by omega) ?_)
          refine n0_eq 29 d112_18 (by decide) (by decide) (fun q => absurd q (by decide)) (fun _ => ?_)
          refine q_iload d112_21 rfl ?_
          refine q_s1 d112_23 (Or.inl rfl) rfl (Nat.le_of_ble_eq_true rfl) (c114t hv ?_)
          refine n0_ne 32 d112_26 (by decide) (by decide) (fun _ => ?_) (fun q => absurd q (by decide))
          refine q_iload d112_32 rfl ?_
          refine q_bipush (x := nI 100) d112_34 rfl ?_
          refine n_irem d112_36 (by omega) (by omega) (by omega) ?_
          refine q_istore d112_37 (by decide) rfl ?_
          refine q_iload d112_39 rfl ?_
          refine q_bipush (x := nI 100) d112_41 rfl ?_
          refine nc_lt 93 d112_43 (by decide) (by omega) (by omega) (fun h43 => ?_) (fun h43 => ?_)
          · refine q_aload_n d112_93 rfl ?_
            refine q_getr (c := 7) (f := 6) d112_94 ⟨rfl, rfl⟩ (hS.1.1) (hS.1.2.2.2.2.2.2.2.2.1) ?_
            refine q_iload_n d112_97 rfl ?_
            refine n_aald d112_98 (hS.1.2.2.2.2.2.2.2.2.2.1) (by decide) (by omega) (by decide) ((hS.1.2.2.2.2.2.2.2.2.2.2.1) _ (by omega)) ?_
            refine q_astore d112_99 (by decide) rfl ?_
            refine q_aload d112_101 rfl ?_
            refine q_getv (c := 4) (f := 0) d112_103 ⟨rfl, by decide⟩ (hS.2.2.2.2.2.2.2.2.2.2.2.1 _ (by omega)).1 (hR.2.2.2 _ (by omega)).1 ?_
            refine q_iconst (x := (-1)) d112_106 rfl ?_
            refine ic_ne 113 d112_107 (by decide) (fun h107 => ?_) (fun h107 => ?_)
            · refine q_aload d112_113 rfl ?_
              refine q_getv (c := 4) (f := 1) d112_115 ⟨rfl, by decide⟩ (hS.2.2.2.2.2.2.2.2.2.2.2.1 _ (by omega)).1 (hR.2.2.2 _ (by omega)).2 ?_
              refine q_bipush (x := nI 20) d112_118 rfl ?_
              refine nc_le 126 d112_120 (by decide) (by omega) (by omega) (fun h120 => ?_) (fun h120 => ?_)
              · refine q_iload d112_126 rfl ?_
                refine n0_ne 150 d112_128 (by decide) (by omega) (fun h128 => ?_) (fun h128 => ?_)
                · refine q_iload d112_150 rfl ?_
                  refine q_iconstN (z := 1) d112_152 ?_
                  refine nc_ne 163 d112_153 (by decide) (by omega) (by omega) (fun h153 => ?_) (fun h153 => ?_)
                  · have hst : m % 100 < 12 := by omega
                    refine q_aload_n d112_163 rfl ?_
                    refine q_aload d112_164 rfl ?_
                    refine q_iload_n d112_166 rfl ?_
                    refine q_iload_n d112_167 rfl ?_
                    refine q_iload d112_168 rfl ?_
                    refine q_v4 d112_170 rfl rfl (hS.1.1) (Nat.le_of_ble_eq_true rfl) (c118 hh ha hs hst (by omega) rfl hR (fun t3 M3 ht3 hR3 g3 => ?_))
                    refine q_istore d112_173 (by decide) rfl ?_
                    have ht3 : t3 < 1048576 := ht3
                    refine q_iload d112_175 rfl ?_
                    refine q_sipush (x := nI 200) d112_177 rfl ?_
                    refine nc_ge 191 d112_180 (by decide) (by omega) (by omega) (fun h180 => ?_) (fun h180 => ?_)
                    · refine q_iload d112_191 rfl ?_
                      refine q_s1 d112_193 (Or.inl rfl) rfl (Nat.le_of_ble_eq_true rfl) (c119 (by omega) (fun v9 => ?_))
                      refine q_iret d112_196 rfl ?_
                      exact k _ _ hR3 g3
                    · refine q_iload d112_183 rfl ?_
                      refine q_s1 d112_185 (Or.inl rfl) rfl (Nat.le_of_ble_eq_true rfl) (c105 ?_)
                      refine q_goto 196 d112_188 (by decide) ?_
                      refine q_iret d112_196 rfl ?_
                      exact k _ _ hR3 g3
                  · refine q_aload_n d112_156 rfl ?_
                    refine q_aload d112_157 rfl ?_
                    refine q_v1 d112_159 rfl rfl (hS.1.1) (Nat.le_of_ble_eq_true rfl) (c117 hh (by omega) rfl hR (fun v3 M3 hR3 g3 => ?_))
                    refine q_iret d112_162 rfl ?_
                    exact k _ _ hR3 g3
                · refine q_aload_n d112_131 rfl ?_
                  refine q_getr (c := 7) (f := 5) d112_132 ⟨rfl, rfl⟩ (hS.1.1) (hS.1.2.2.2.2.2.2.2.1) ?_
                  refine q_aload_n d112_135 rfl ?_
                  refine q_getr (c := 7) (f := 4) d112_136 ⟨rfl, rfl⟩ (hS.1.1) (hS.1.2.2.2.2.2.2.1) ?_
                  refine q_v1 d112_139 rfl rfl hwt.1 (Nat.le_of_ble_eq_true rfl) (c101 (nm := dnm D) (X := dX D) hR.1 (fun M1 hC1 f1 => ?_))
                  have ht1 := hR.th hC1.1 (f1.mono (fun b q e => ⟨by have := e.1; omega, by have := e.2; omega⟩))
                  refine q_aload_n d112_142 rfl ?_
                  refine q_aload d112_143 rfl ?_
                  refine q_iload_n d112_145 rfl ?_
                  refine q_v2 d112_146 rfl rfl (hC1.1.1.1) (Nat.le_of_ble_eq_true rfl) (c116 hh ha (by omega) rfl ht1.1 hC1 (fun v3 M3 hR3 g3 => ?_))
                  refine q_iret d112_149 rfl ?_
                  exact k _ _ hR3 (ht1.2.trans g3)
              · refine q_bipush (x := (-2)) d112_123 rfl ?_
                refine q_iret d112_125 rfl ?_
                exact k _ _ hR (Fc.refl _)
            · refine q_bipush (x := (-11)) d112_110 rfl ?_
              refine q_iret d112_112 rfl ?_
              exact k _ _ hR (Fc.refl _)
          · refine q_aload_n d112_46 rfl ?_
            refine q_getr (c := 7) (f := 4) d112_47 ⟨rfl, rfl⟩ (hS.1.1) (hS.1.2.2.2.2.2.2.1) ?_
            refine q_getr (c := 6) (f := 3) d112_50 ⟨rfl, rfl⟩ hwr.1 hwr.2.2.2.2.1 ?_
            refine q_iload_n d112_53 rfl ?_
            refine n_aald d112_54 hwr.2.2.2.2.2.1 (by decide) (by omega) (by decide) (hwr.2.2.2.2.2.2 _ (by omega)) ?_
            refine q_astore d112_55 (by decide) rfl ?_
            refine q_aload d112_57 rfl ?_
            refine q_getv (c := 5) (f := 0) d112_59 ⟨rfl, by decide⟩ hsg.1 hg0 ?_
            refine n0_ne 68 d112_62 (by decide) (by omega) (fun h62 => ?_) (fun h62 => ?_)
            · have h0 : gt (dS D s) ≠ 0 := h62
              have hgx : gx (dS D s) < dc D := (hO.2.2 s hs).2.1 h0
              have q2 : zr M (70 + 8 * s) 2 = some (20 + 7 * gx (dS D s)) := ((hRW.2.1 s hs).1.2.2).trans (if_neg h0)
              have hn := (hO.1.2 _ hgx).n
              refine q_aload d112_68 rfl ?_
              refine q_iload d112_70 rfl ?_
              refine q_v1 d112_72 rfl rfl hsg.1 (Nat.le_of_ble_eq_true rfl) (c115 hsg q2 (hS.pr (by omega)) (hT _ hgx) hn ?_)
              refine b0_eq 90 d112_75 (by decide) (fun h75 => ?_) (fun h75 => ?_)
              · refine q_bipush (x := (-2)) d112_90 rfl ?_
                refine q_iret d112_92 rfl ?_
                exact k _ _ hR (Fc.refl _)
              · have hk := zixN (by omega) (by omega) h75
                refine q_aload d112_78 rfl ?_
                refine q_getr (c := 5) (f := 8) d112_80 ⟨rfl, rfl⟩ hsg.1 (hsg.2.2.1 0 (by decide)) ?_
                refine q_iload d112_83 rfl ?_
                refine n_iald d112_85 (hsg.2.2.2 1 (by decide)) (by omega) (by decide) rfl ?_
                refine q_iconst (x := (-1)) d112_86 rfl ?_
                refine ic_ne 93 d112_87 (by decide) (fun h87 => ?_) (fun h87 => ?_)
                · refine q_aload_n d112_93 rfl ?_
                  refine q_getr (c := 7) (f := 6) d112_94 ⟨rfl, rfl⟩ (hS.1.1) (hS.1.2.2.2.2.2.2.2.2.1) ?_
                  refine q_iload_n d112_97 rfl ?_
                  refine n_aald d112_98 (hS.1.2.2.2.2.2.2.2.2.2.1) (by decide) (by omega) (by decide) ((hS.1.2.2.2.2.2.2.2.2.2.2.1) _ (by omega)) ?_
                  refine q_astore d112_99 (by decide) rfl ?_
                  refine q_aload d112_101 rfl ?_
                  refine q_getv (c := 4) (f := 0) d112_103 ⟨rfl, by decide⟩ (hS.2.2.2.2.2.2.2.2.2.2.2.1 _ (by omega)).1 (hR.2.2.2 _ (by omega)).1 ?_
                  refine q_iconst (x := (-1)) d112_106 rfl ?_
                  refine ic_ne 113 d112_107 (by decide) (fun h107 => ?_) (fun h107 => ?_)
                  · refine q_aload d112_113 rfl ?_
                    refine q_getv (c := 4) (f := 1) d112_115 ⟨rfl, by decide⟩ (hS.2.2.2.2.2.2.2.2.2.2.2.1 _ (by omega)).1 (hR.2.2.2 _ (by omega)).2 ?_
                    refine q_bipush (x := nI 20) d112_118 rfl ?_
                    refine nc_le 126 d112_120 (by decide) (by omega) (by omega) (fun h120 => ?_) (fun h120 => ?_)
                    · refine q_iload d112_126 rfl ?_
                      refine n0_ne 150 d112_128 (by decide) (by omega) (fun h128 => ?_) (fun h128 => ?_)
                      · refine q_iload d112_150 rfl ?_
                        refine q_iconstN (z := 1) d112_152 ?_
                        refine nc_ne 163 d112_153 (by decide) (by omega) (by omega) (fun h153 => ?_) (fun h153 => ?_)
                        · have hst : m % 100 < 12 := by omega
                          refine q_aload_n d112_163 rfl ?_
                          refine q_aload d112_164 rfl ?_
                          refine q_iload_n d112_166 rfl ?_
                          refine q_iload_n d112_167 rfl ?_
                          refine q_iload d112_168 rfl ?_
                          refine q_v4 d112_170 rfl rfl (hS.1.1) (Nat.le_of_ble_eq_true rfl) (c118 hh ha hs hst (by omega) rfl hR (fun t3 M3 ht3 hR3 g3 => ?_))
                          refine q_istore d112_173 (by decide) rfl ?_
                          have ht3 : t3 < 1048576 := ht3
                          refine q_iload d112_175 rfl ?_
                          refine q_sipush (x := nI 200) d112_177 rfl ?_
                          refine nc_ge 191 d112_180 (by decide) (by omega) (by omega) (fun h180 => ?_) (fun h180 => ?_)
                          · refine q_iload d112_191 rfl ?_
                            refine q_s1 d112_193 (Or.inl rfl) rfl (Nat.le_of_ble_eq_true rfl) (c119 (by omega) (fun v9 => ?_))
                            refine q_iret d112_196 rfl ?_
                            exact k _ _ hR3 g3
                          · refine q_iload d112_183 rfl ?_
                            refine q_s1 d112_185 (Or.inl rfl) rfl (Nat.le_of_ble_eq_true rfl) (c105 ?_)
                            refine q_goto 196 d112_188 (by decide) ?_
                            refine q_iret d112_196 rfl ?_
                            exact k _ _ hR3 g3
                        · refine q_aload_n d112_156 rfl ?_
                          refine q_aload d112_157 rfl ?_
                          refine q_v1 d112_159 rfl rfl (hS.1.1) (Nat.le_of_ble_eq_true rfl) (c117 hh (by omega) rfl hR (fun v3 M3 hR3 g3 => ?_))
                          refine q_iret d112_162 rfl ?_
                          exact k _ _ hR3 g3
                      · refine q_aload_n d112_131 rfl ?_
                        refine q_getr (c := 7) (f := 5) d112_132 ⟨rfl, rfl⟩ (hS.1.1) (hS.1.2.2.2.2.2.2.2.1) ?_
                        refine q_aload_n d112_135 rfl ?_
                        refine q_getr (c := 7) (f := 4) d112_136 ⟨rfl, rfl⟩ (hS.1.1) (hS.1.2.2.2.2.2.2.1) ?_
                        refine q_v1 d112_139 rfl rfl hwt.1 (Nat.le_of_ble_eq_true rfl) (c101 (nm := dnm D) (X := dX D) hR.1 (fun M1 hC1 f1 => ?_))
                        have ht1 := hR.th hC1.1 (f1.mono (fun b q e => ⟨by have := e.1; omega, by have := e.2; omega⟩))
                        refine q_aload_n d112_142 rfl ?_
                        refine q_aload d112_143 rfl ?_
                        refine q_iload_n d112_145 rfl ?_
                        refine q_v2 d112_146 rfl rfl (hC1.1.1.1) (Nat.le_of_ble_eq_true rfl) (c116 hh ha (by omega) rfl ht1.1 hC1 (fun v3 M3 hR3 g3 => ?_))
                        refine q_iret d112_149 rfl ?_
                        exact k _ _ hR3 (ht1.2.trans g3)
                    · refine q_bipush (x := (-2)) d112_123 rfl ?_
                      refine q_iret d112_125 rfl ?_
                      exact k _ _ hR (Fc.refl _)
                  · refine q_bipush (x := (-11)) d112_110 rfl ?_
                    refine q_iret d112_112 rfl ?_
                    exact k _ _ hR (Fc.refl _)
                · refine q_bipush (x := (-2)) d112_90 rfl ?_
                  refine q_iret d112_92 rfl ?_
                  exact k _ _ hR (Fc.refl _)
            · refine q_bipush (x := (-3)) d112_65 rfl ?_
              refine q_iret d112_67 rfl ?_
              exact k _ _ hR (Fc.refl _)
      · have _u := es
        refine q_iload_n d112_0 rfl ?_
        refine q_s1 d112_1 (Or.inl rfl) rfl (Nat.le_of_ble_eq_true rfl) (c113t (by omega) ?_)
        refine n0_eq 29 d112_4 (by decide) (by decide) (fun q => absurd q (by decide)) (fun _ => ?_)
        refine q_iload_n d112_7 rfl ?_
        refine q_s1 d112_8 (Or.inl rfl) rfl (Nat.le_of_ble_eq_true rfl) (c26t (by omega) ?_)
        refine n0_eq 29 d112_11 (by decide) (by decide) (fun q => absurd q (by decide)) (fun _ => ?_)
        refine q_iload_n d112_14 rfl ?_
        refine q_s1 d112_15 (Or.inl rfl) rfl (Nat.le_of_ble_eq_true rfl) (c60f es ?_)
        refine n0_eq 29 d112_18 (by decide) (by decide) (fun _ => ?_) (fun q => absurd q (by decide))
        refine q_bipush (x := (-2)) d112_29 rfl ?_
        refine q_iret d112_31 rfl ?_
        exact k _ _ hR (Fc.refl _)
    · have _u := ea
      refine q_iload_n d112_0 rfl ?_
      refine q_s1 d112_1 (Or.inl rfl) rfl (Nat.le_of_ble_eq_true rfl) (c113t (by omega) ?_)
      refine n0_eq 29 d112_4 (by decide) (by decide) (fun q => absurd q (by decide)) (fun _ => ?_)
      refine q_iload_n d112_7 rfl ?_
      refine q_s1 d112_8 (Or.inl rfl) rfl (Nat.le_of_ble_eq_true rfl) (c26f ea ?_)
      refine n0_eq 29 d112_11 (by decide) (by decide) (fun _ => ?_) (fun q => absurd q (by decide))
      refine q_bipush (x := (-2)) d112_29 rfl ?_
      refine q_iret d112_31 rfl ?_
      exact k _ _ hR (Fc.refl _)
  · have _u := eh
    refine q_iload_n d112_0 rfl ?_
    refine q_s1 d112_1 (Or.inl rfl) rfl (Nat.le_of_ble_eq_true rfl) (c113f eh ?_)
    refine n0_eq 29 d112_4 (by decide) (by decide) (fun _ => ?_) (fun q => absurd q (by decide))
    refine q_bipush (x := (-2)) d112_29 rfl ?_
    refine q_iret d112_31 rfl ?_
    exact k _ _ hR (Fc.refl _)
