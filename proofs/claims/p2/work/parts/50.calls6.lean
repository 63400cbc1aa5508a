/-! ===== the calls of the class: views, replays ===== -/
theorem ov_n {x : Int32} {f : Nat → Int32} (h : yvx x = none) : ov x f = -2 := by unfold ov; rw [h]
theorem ov_s {x : Int32} {f : Nat → Int32} {m : Nat} (h : yvx x = some m) : ov x f = f m := by unfold ov; rw [h]
theorem yvx_s {x : Int32} {m : Nat} (h : yvx x = some m) : x = nI m ∧ ywv m = true ∧ m < 50 := by
  unfold yvx at h
  rcases zix_c x (n := 50) (by omega) with ⟨j, hj, rfl, e⟩ | ⟨e, hn⟩
  · rw [e] at h
    have h : (if ywv j = true then some j else none) = some m := h
    by_cases hw : ywv j = true
    · rw [if_pos hw] at h
      have := Option.some.inj h
      subst this
      exact ⟨rfl, hw, hj⟩
    · rw [if_neg hw] at h
      exact absurd h.symm (Option.some_ne_none _)
  · rw [e] at h
    exact absurd (Eq.symm h) (Option.some_ne_none _)
theorem c93t {d m : Nat} {M : zM} {Q : Option Value → zM → Prop} {x : Int32} (h : yvx x = some m) (k : Q (some (.int (nI 1))) M) : qC (d + 2) 93 [.int x] M Q := c93 (by rw [h]; exact k)
theorem c93f {d : Nat} {M : zM} {Q : Option Value → zM → Prop} {x : Int32} (h : yvx x = none) (k : Q (some (.int (nI 0))) M) : qC (d + 2) 93 [.int x] M Q := c93 (by rw [h]; exact k)
theorem yvx_n {m : Nat} (h : ywv m = true) (h5 : m < 50) : yvx (nI m) = some m := by
  unfold yvx
  rw [zix_in h5 (by omega)]
  show (if ywv m = true then some m else none) = some m
  rw [if_pos h]
theorem RC.th {M M' : zM} {D : yD} (hR : RC M D) (hS : SC M') (f : Fr (FW 94) M M') : RC M' D ∧ Fc M M' :=
  ⟨hR.fr hS f ⟨fun k q => by have := q.1; omega, fun q => by have := q.1; omega, fun a k h1 h2 q => by have := q.1; omega, fun a k h1 h2 q => by have := q.2; omega⟩, f.c (fun a k ha q => by have := q.1; have := q.2; omega)⟩
theorem d98_0 : decode (zB 98) 0 = .ok (.iload_n 1, 1) := by decide +kernel
theorem d98_1 : decode (zB 98) 1 = .ok (.invokestatic 47, 3) := by decide +kernel
theorem d98_4 : decode (zB 98) 4 = .ok (.ifCond .ne 6, 3) := by decide +kernel
theorem d98_7 : decode (zB 98) 7 = .ok (.bipush (-2), 2) := by decide +kernel
theorem d98_9 : decode (zB 98) 9 = .ok (.ireturn, 1) := by decide +kernel
theorem d98_10 : decode (zB 98) 10 = .ok (.iload_n 1, 1) := by decide +kernel
theorem d98_11 : decode (zB 98) 11 = .ok (.invokestatic 51, 3) := by decide +kernel
theorem d98_14 : decode (zB 98) 14 = .ok (.ifCond .eq 13, 3) := by decide +kernel
theorem d98_17 : decode (zB 98) 17 = .ok (.aload_n 0, 1) := by decide +kernel
theorem d98_18 : decode (zB 98) 18 = .ok (.getfield 12, 3) := by decide +kernel
theorem d98_21 : decode (zB 98) 21 = .ok (.getfield 54, 3) := by decide +kernel
theorem d98_24 : decode (zB 98) 24 = .ok (.iload_n 1, 1) := by decide +kernel
theorem d98_25 : decode (zB 98) 25 = .ok (.iaload, 1) := by decide +kernel
theorem d98_26 : decode (zB 98) 26 = .ok (.ireturn, 1) := by decide +kernel
theorem d98_27 : decode (zB 98) 27 = .ok (.iload_n 1, 1) := by decide +kernel
theorem d98_28 : decode (zB 98) 28 = .ok (.bipush 10, 2) := by decide +kernel
theorem d98_30 : decode (zB 98) 30 = .ok (.if_icmp .ge 27, 3) := by decide +kernel
theorem d98_33 : decode (zB 98) 33 = .ok (.iload_n 1, 1) := by decide +kernel
theorem d98_34 : decode (zB 98) 34 = .ok (.bipush 6, 2) := by decide +kernel
theorem d98_36 : decode (zB 98) 36 = .ok (.if_icmp .ne 13, 3) := by decide +kernel
theorem d98_39 : decode (zB 98) 39 = .ok (.aload_n 0, 1) := by decide +kernel
theorem d98_40 : decode (zB 98) 40 = .ok (.getfield 12, 3) := by decide +kernel
theorem d98_43 : decode (zB 98) 43 = .ok (.getfield 58, 3) := by decide +kernel
theorem d98_46 : decode (zB 98) 46 = .ok (.goto 10, 3) := by decide +kernel
theorem d98_49 : decode (zB 98) 49 = .ok (.aload_n 0, 1) := by decide +kernel
theorem d98_50 : decode (zB 98) 50 = .ok (.getfield 12, 3) := by decide +kernel
theorem d98_53 : decode (zB 98) 53 = .ok (.getfield 62, 3) := by decide +kernel
theorem d98_56 : decode (zB 98) 56 = .ok (.ireturn, 1) := by decide +kernel
theorem d98_57 : decode (zB 98) 57 = .ok (.aload_n 0, 1) := by decide +kernel
theorem d98_58 : decode (zB 98) 58 = .ok (.getfield 20, 3) := by decide +kernel
theorem d98_61 : decode (zB 98) 61 = .ok (.iload_n 1, 1) := by decide +kernel
theorem d98_62 : decode (zB 98) 62 = .ok (.bipush 10, 2) := by decide +kernel
theorem d98_64 : decode (zB 98) 64 = .ok (.irem, 1) := by decide +kernel
theorem d98_65 : decode (zB 98) 65 = .ok (.aaload, 1) := by decide +kernel
theorem d98_66 : decode (zB 98) 66 = .ok (.astore_n 2, 1) := by decide +kernel
theorem d98_67 : decode (zB 98) 67 = .ok (.iload_n 1, 1) := by decide +kernel
theorem d98_68 : decode (zB 98) 68 = .ok (.bipush 10, 2) := by decide +kernel
theorem d98_70 : decode (zB 98) 70 = .ok (.idiv, 1) := by decide +kernel
theorem d98_71 : decode (zB 98) 71 = .ok (.tableswitch 40 1 3 #[25, 30, 35], 25) := by decide +kernel
theorem d98_96 : decode (zB 98) 96 = .ok (.aload_n 2, 1) := by decide +kernel
theorem d98_97 : decode (zB 98) 97 = .ok (.getfield 65, 3) := by decide +kernel
theorem d98_100 : decode (zB 98) 100 = .ok (.ireturn, 1) := by decide +kernel
theorem d98_101 : decode (zB 98) 101 = .ok (.aload_n 2, 1) := by decide +kernel
theorem d98_102 : decode (zB 98) 102 = .ok (.getfield 68, 3) := by decide +kernel
theorem d98_105 : decode (zB 98) 105 = .ok (.ireturn, 1) := by decide +kernel
theorem d98_106 : decode (zB 98) 106 = .ok (.aload_n 2, 1) := by decide +kernel
theorem d98_107 : decode (zB 98) 107 = .ok (.getfield 71, 3) := by decide +kernel
theorem d98_110 : decode (zB 98) 110 = .ok (.ireturn, 1) := by decide +kernel
theorem d98_111 : decode (zB 98) 111 = .ok (.aload_n 2, 1) := by decide +kernel
theorem d98_112 : decode (zB 98) 112 = .ok (.getfield 74, 3) := by decide +kernel
theorem d98_115 : decode (zB 98) 115 = .ok (.ireturn, 1) := by decide +kernel
theorem c98 {d lo w u j c m : Nat} {M : zM} {Q : Option Value → zM → Prop} {T : Nat → yT} {nm : Nat → Nat → Int32} {X : yX} (hC : CW M lo w u j T c nm X) (hm : ywv m = true) (h50 : m < 50) (k : Q (some (.int (yvw X.1 m))) M) : qC (d + 3) 98 [.ref w, .int (nI m)] M Q := by
  refine qC_of (by decide) (Nat.le_of_ble_eq_true rfl) ?_
  have hv := yvx_n hm h50
  obtain ⟨hS, hw, hT, hO, hR⟩ := hC
  have hwo := hS.wo hw
  have hpu := hS.pu hw
  simp only [ywv, Bool.or_eq_true, Bool.and_eq_true, decide_eq_true_eq] at hm
  by_cases h6 : m < 6
  · rw [show yvw X.1 m = X.1.1.1 m from if_pos h6] at k
    refine q_iload_n d98_0 rfl ?_
    refine q_s1 d98_1 (Or.inr rfl) rfl (Nat.le_of_ble_eq_true rfl) (c93t hv ?_)
    refine n0_ne 10 d98_4 (by decide) (by decide) (fun _ => ?_) (fun q => absurd q (by decide))
    refine q_iload_n d98_10 rfl ?_
    refine q_s1 d98_11 (Or.inr rfl) rfl (Nat.le_of_ble_eq_true rfl) (c26t h6 ?_)
    refine n0_eq 27 d98_14 (by decide) (by decide) (fun q => absurd q (by decide)) (fun _ => ?_)
    refine q_aload_n d98_17 rfl ?_
    refine q_getr (c := 6) (f := 2) d98_18 ⟨rfl, rfl⟩ hwo.1 hwo.2.2.2.1 ?_
    refine q_getr (c := 2) (f := 0) d98_21 ⟨rfl, rfl⟩ hpu.1 hpu.2.1 ?_
    refine q_iload_n d98_24 rfl ?_
    refine n_iald d98_25 hpu.2.2 (by omega) (by decide) (hR.1.1 _ (by omega)) ?_
    refine q_iret d98_26 rfl ?_
    exact k
  · rcases (show m = 6 ∨ m = 7 ∨ m = 10 ∨ m = 11 ∨ m = 12 ∨ m = 20 ∨ m = 21 ∨ m = 22 ∨ m = 30 ∨ m = 31 ∨ m = 32 ∨ m = 40 ∨ m = 41 ∨ m = 42 by omega) with rfl | rfl | rfl | rfl | rfl | rfl | rfl | rfl | rfl | rfl | rfl | rfl | rfl | rfl
    · refine q_iload_n d98_0 rfl ?_
      refine q_s1 d98_1 (Or.inr rfl) rfl (Nat.le_of_ble_eq_true rfl) (c93t hv ?_)
      refine n0_ne 10 d98_4 (by decide) (by decide) (fun _ => ?_) (fun q => absurd q (by decide))
      refine q_iload_n d98_10 rfl ?_
      refine q_s1 d98_11 (Or.inr rfl) rfl (Nat.le_of_ble_eq_true rfl) (c26f (by decide) ?_)
      refine n0_eq 27 d98_14 (by decide) (by decide) (fun _ => ?_) (fun q => absurd q (by decide))
      refine q_iload_n d98_27 rfl ?_
      refine q_bipush (x := nI 10) d98_28 rfl ?_
      refine nc_ge 57 d98_30 (by decide) (by decide) (by decide) (fun q => absurd q (by decide)) (fun _ => ?_)
      refine q_iload_n d98_33 rfl ?_
      refine q_bipush (x := nI 6) d98_34 rfl ?_
      refine nc_ne 49 d98_36 (by decide) (by decide) (by decide) (fun q => absurd q (by decide)) (fun _ => ?_)
      refine q_aload_n d98_39 rfl ?_
      refine q_getr (c := 6) (f := 2) d98_40 ⟨rfl, rfl⟩ hwo.1 hwo.2.2.2.1 ?_
      refine q_getv (c := 2) (f := 1) d98_43 ⟨rfl, by decide⟩ hpu.1 hR.1.2.1 ?_
      refine q_goto 56 d98_46 (by decide) ?_
      refine q_iret d98_56 rfl ?_
      exact k
    · refine q_iload_n d98_0 rfl ?_
      refine q_s1 d98_1 (Or.inr rfl) rfl (Nat.le_of_ble_eq_true rfl) (c93t hv ?_)
      refine n0_ne 10 d98_4 (by decide) (by decide) (fun _ => ?_) (fun q => absurd q (by decide))
      refine q_iload_n d98_10 rfl ?_
      refine q_s1 d98_11 (Or.inr rfl) rfl (Nat.le_of_ble_eq_true rfl) (c26f (by decide) ?_)
      refine n0_eq 27 d98_14 (by decide) (by decide) (fun _ => ?_) (fun q => absurd q (by decide))
      refine q_iload_n d98_27 rfl ?_
      refine q_bipush (x := nI 10) d98_28 rfl ?_
      refine nc_ge 57 d98_30 (by decide) (by decide) (by decide) (fun q => absurd q (by decide)) (fun _ => ?_)
      refine q_iload_n d98_33 rfl ?_
      refine q_bipush (x := nI 6) d98_34 rfl ?_
      refine nc_ne 49 d98_36 (by decide) (by decide) (by decide) (fun _ => ?_) (fun q => absurd q (by decide))
      refine q_aload_n d98_49 rfl ?_
      refine q_getr (c := 6) (f := 2) d98_50 ⟨rfl, rfl⟩ hwo.1 hwo.2.2.2.1 ?_
      refine q_getv (c := 2) (f := 2) d98_53 ⟨rfl, by decide⟩ hpu.1 hR.1.2.2 ?_
      refine q_iret d98_56 rfl ?_
      exact k
    · have hs := hS.sg (hw.sg (show 0 < 3 by omega))
      have hRs := hR.2.1 0 (by omega)
      refine q_iload_n d98_0 rfl ?_
      refine q_s1 d98_1 (Or.inr rfl) rfl (Nat.le_of_ble_eq_true rfl) (c93t hv ?_)
      refine n0_ne 10 d98_4 (by decide) (by decide) (fun _ => ?_) (fun q => absurd q (by decide))
      refine q_iload_n d98_10 rfl ?_
      refine q_s1 d98_11 (Or.inr rfl) rfl (Nat.le_of_ble_eq_true rfl) (c26f (by decide) ?_)
      refine n0_eq 27 d98_14 (by decide) (by decide) (fun _ => ?_) (fun q => absurd q (by decide))
      refine q_iload_n d98_27 rfl ?_
      refine q_bipush (x := nI 10) d98_28 rfl ?_
      refine nc_ge 57 d98_30 (by decide) (by decide) (by decide) (fun _ => ?_) (fun q => absurd q (by decide))
      refine q_aload_n d98_57 rfl ?_
      refine q_getr (c := 6) (f := 3) d98_58 ⟨rfl, rfl⟩ hwo.1 hwo.2.2.2.2.1 ?_
      refine q_iload_n d98_61 rfl ?_
      refine q_bipush (x := nI 10) d98_62 rfl ?_
      refine n_irem d98_64 (by omega) (by omega) (by omega) ?_
      refine n_aald d98_65 hwo.2.2.2.2.2.1 (by decide) (by omega) (by decide) (hwo.2.2.2.2.2.2 0 (by omega)) ?_
      refine q_astore_n d98_66 (by decide) rfl ?_
      refine q_iload_n d98_67 rfl ?_
      refine q_bipush (x := nI 10) d98_68 rfl ?_
      refine n_idiv d98_70 (by omega) (by omega) (by omega) ?_
      refine n_tsI (25) 96 d98_71 (by decide) (by decide) rfl (by decide) ?_
      refine q_aload_n d98_96 rfl ?_
      refine q_getv (c := 5) (f := 0) d98_97 ⟨rfl, by decide⟩ hs.1 hRs.1.1 ?_
      refine q_iret d98_100 rfl ?_
      exact k
    · have hs := hS.sg (hw.sg (show 1 < 3 by omega))
      have hRs := hR.2.1 1 (by omega)
      refine q_iload_n d98_0 rfl ?_
      refine q_s1 d98_1 (Or.inr rfl) rfl (Nat.le_of_ble_eq_true rfl) (c93t hv ?_)
      refine n0_ne 10 d98_4 (by decide) (by decide) (fun _ => ?_) (fun q => absurd q (by decide))
      refine q_iload_n d98_10 rfl ?_
      refine q_s1 d98_11 (Or.inr rfl) rfl (Nat.le_of_ble_eq_true rfl) (c26f (by decide) ?_)
      refine n0_eq 27 d98_14 (by decide) (by decide) (fun _ => ?_) (fun q => absurd q (by decide))
      refine q_iload_n d98_27 rfl ?_
      refine q_bipush (x := nI 10) d98_28 rfl ?_
      refine nc_ge 57 d98_30 (by decide) (by decide) (by decide) (fun _ => ?_) (fun q => absurd q (by decide))
      refine q_aload_n d98_57 rfl ?_
      refine q_getr (c := 6) (f := 3) d98_58 ⟨rfl, rfl⟩ hwo.1 hwo.2.2.2.2.1 ?_
      refine q_iload_n d98_61 rfl ?_
      refine q_bipush (x := nI 10) d98_62 rfl ?_
      refine n_irem d98_64 (by omega) (by omega) (by omega) ?_
      refine n_aald d98_65 hwo.2.2.2.2.2.1 (by decide) (by omega) (by decide) (hwo.2.2.2.2.2.2 1 (by omega)) ?_
      refine q_astore_n d98_66 (by decide) rfl ?_
      refine q_iload_n d98_67 rfl ?_
      refine q_bipush (x := nI 10) d98_68 rfl ?_
      refine n_idiv d98_70 (by omega) (by omega) (by omega) ?_
      refine n_tsI (25) 96 d98_71 (by decide) (by decide) rfl (by decide) ?_
      refine q_aload_n d98_96 rfl ?_
      refine q_getv (c := 5) (f := 0) d98_97 ⟨rfl, by decide⟩ hs.1 hRs.1.1 ?_
      refine q_iret d98_100 rfl ?_
      exact k
    · have hs := hS.sg (hw.sg (show 2 < 3 by omega))
      have hRs := hR.2.1 2 (by omega)
      refine q_iload_n d98_0 rfl ?_
      refine q_s1 d98_1 (Or.inr rfl) rfl (Nat.le_of_ble_eq_true rfl) (c93t hv ?_)
      refine n0_ne 10 d98_4 (by decide) (by decide) (fun _ => ?_) (fun q => absurd q (by decide))
      refine q_iload_n d98_10 rfl ?_
      refine q_s1 d98_11 (Or.inr rfl) rfl (Nat.le_of_ble_eq_true rfl) (c26f (by decide) ?_)
      refine n0_eq 27 d98_14 (by decide) (by decide) (fun _ => ?_) (fun q => absurd q (by decide))
      refine q_iload_n d98_27 rfl ?_
      refine q_bipush (x := nI 10) d98_28 rfl ?_
      refine nc_ge 57 d98_30 (by decide) (by decide) (by decide) (fun _ => ?_) (fun q => absurd q (by decide))
      refine q_aload_n d98_57 rfl ?_
      refine q_getr (c := 6) (f := 3) d98_58 ⟨rfl, rfl⟩ hwo.1 hwo.2.2.2.2.1 ?_
      refine q_iload_n d98_61 rfl ?_
      refine q_bipush (x := nI 10) d98_62 rfl ?_
      refine n_irem d98_64 (by omega) (by omega) (by omega) ?_
      refine n_aald d98_65 hwo.2.2.2.2.2.1 (by decide) (by omega) (by decide) (hwo.2.2.2.2.2.2 2 (by omega)) ?_
      refine q_astore_n d98_66 (by decide) rfl ?_
      refine q_iload_n d98_67 rfl ?_
      refine q_bipush (x := nI 10) d98_68 rfl ?_
      refine n_idiv d98_70 (by omega) (by omega) (by omega) ?_
      refine n_tsI (25) 96 d98_71 (by decide) (by decide) rfl (by decide) ?_
      refine q_aload_n d98_96 rfl ?_
      refine q_getv (c := 5) (f := 0) d98_97 ⟨rfl, by decide⟩ hs.1 hRs.1.1 ?_
      refine q_iret d98_100 rfl ?_
      exact k
    · have hs := hS.sg (hw.sg (show 0 < 3 by omega))
      have hRs := hR.2.1 0 (by omega)
      refine q_iload_n d98_0 rfl ?_
      refine q_s1 d98_1 (Or.inr rfl) rfl (Nat.le_of_ble_eq_true rfl) (c93t hv ?_)
      refine n0_ne 10 d98_4 (by decide) (by decide) (fun _ => ?_) (fun q => absurd q (by decide))
      refine q_iload_n d98_10 rfl ?_
      refine q_s1 d98_11 (Or.inr rfl) rfl (Nat.le_of_ble_eq_true rfl) (c26f (by decide) ?_)
      refine n0_eq 27 d98_14 (by decide) (by decide) (fun _ => ?_) (fun q => absurd q (by decide))
      refine q_iload_n d98_27 rfl ?_
      refine q_bipush (x := nI 10) d98_28 rfl ?_
      refine nc_ge 57 d98_30 (by decide) (by decide) (by decide) (fun _ => ?_) (fun q => absurd q (by decide))
      refine q_aload_n d98_57 rfl ?_
      refine q_getr (c := 6) (f := 3) d98_58 ⟨rfl, rfl⟩ hwo.1 hwo.2.2.2.2.1 ?_
      refine q_iload_n d98_61 rfl ?_
      refine q_bipush (x := nI 10) d98_62 rfl ?_
      refine n_irem d98_64 (by omega) (by omega) (by omega) ?_
      refine n_aald d98_65 hwo.2.2.2.2.2.1 (by decide) (by omega) (by decide) (hwo.2.2.2.2.2.2 0 (by omega)) ?_
      refine q_astore_n d98_66 (by decide) rfl ?_
      refine q_iload_n d98_67 rfl ?_
      refine q_bipush (x := nI 10) d98_68 rfl ?_
      refine n_idiv d98_70 (by omega) (by omega) (by omega) ?_
      refine n_tsI (30) 101 d98_71 (by decide) (by decide) rfl (by decide) ?_
      refine q_aload_n d98_101 rfl ?_
      refine q_getv (c := 5) (f := 3) d98_102 ⟨rfl, by decide⟩ hs.1 hRs.2.1.1 ?_
      refine q_iret d98_105 rfl ?_
      exact k
    · have hs := hS.sg (hw.sg (show 1 < 3 by omega))
      have hRs := hR.2.1 1 (by omega)
      refine q_iload_n d98_0 rfl ?_
      refine q_s1 d98_1 (Or.inr rfl) rfl (Nat.le_of_ble_eq_true rfl) (c93t hv ?_)
      refine n0_ne 10 d98_4 (by decide) (by decide) (fun _ => ?_) (fun q => absurd q (by decide))
      refine q_iload_n d98_10 rfl ?_
      refine q_s1 d98_11 (Or.inr rfl) rfl (Nat.le_of_ble_eq_true rfl) (c26f (by decide) ?_)
      refine n0_eq 27 d98_14 (by decide) (by decide) (fun _ => ?_) (fun q => absurd q (by decide))
      refine q_iload_n d98_27 rfl ?_
      refine q_bipush (x := nI 10) d98_28 rfl ?_
      refine nc_ge 57 d98_30 (by decide) (by decide) (by decide) (fun _ => ?_) (fun q => absurd q (by decide))
      refine q_aload_n d98_57 rfl ?_
      refine q_getr (c := 6) (f := 3) d98_58 ⟨rfl, rfl⟩ hwo.1 hwo.2.2.2.2.1 ?_
      refine q_iload_n d98_61 rfl ?_
      refine q_bipush (x := nI 10) d98_62 rfl ?_
      refine n_irem d98_64 (by omega) (by omega) (by omega) ?_
      refine n_aald d98_65 hwo.2.2.2.2.2.1 (by decide) (by omega) (by decide) (hwo.2.2.2.2.2.2 1 (by omega)) ?_
      refine q_astore_n d98_66 (by decide) rfl ?_
      refine q_iload_n d98_67 rfl ?_
      refine q_bipush (x := nI 10) d98_68 rfl ?_
      refine n_idiv d98_70 (by omega) (by omega) (by omega) ?_
      refine n_tsI (30) 101 d98_71 (by decide) (by decide) rfl (by decide) ?_
      refine q_aload_n d98_101 rfl ?_
      refine q_getv (c := 5) (f := 3) d98_102 ⟨rfl, by decide⟩ hs.1 hRs.2.1.1 ?_
      refine q_iret d98_105 rfl ?_
      exact k
    · have hs := hS.sg (hw.sg (show 2 < 3 by omega))
      have hRs := hR.2.1 2 (by omega)
      refine q_iload_n d98_0 rfl ?_
      refine q_s1 d98_1 (Or.inr rfl) rfl (Nat.le_of_ble_eq_true rfl) (c93t hv ?_)
      refine n0_ne 10 d98_4 (by decide) (by decide) (fun _ => ?_) (fun q => absurd q (by decide))
      refine q_iload_n d98_10 rfl ?_
      refine q_s1 d98_11 (Or.inr rfl) rfl (Nat.le_of_ble_eq_true rfl) (c26f (by decide) ?_)
      refine n0_eq 27 d98_14 (by decide) (by decide) (fun _ => ?_) (fun q => absurd q (by decide))
      refine q_iload_n d98_27 rfl ?_
      refine q_bipush (x := nI 10) d98_28 rfl ?_
      refine nc_ge 57 d98_30 (by decide) (by decide) (by decide) (fun _ => ?_) (fun q => absurd q (by decide))
      refine q_aload_n d98_57 rfl ?_
      refine q_getr (c := 6) (f := 3) d98_58 ⟨rfl, rfl⟩ hwo.1 hwo.2.2.2.2.1 ?_
      refine q_iload_n d98_61 rfl ?_
      refine q_bipush (x := nI 10) d98_62 rfl ?_
      refine n_irem d98_64 (by omega) (by omega) (by omega) ?_
      refine n_aald d98_65 hwo.2.2.2.2.2.1 (by decide) (by omega) (by decide) (hwo.2.2.2.2.2.2 2 (by omega)) ?_
      refine q_astore_n d98_66 (by decide) rfl ?_
      refine q_iload_n d98_67 rfl ?_
      refine q_bipush (x := nI 10) d98_68 rfl ?_
      refine n_idiv d98_70 (by omega) (by omega) (by omega) ?_
      refine n_tsI (30) 101 d98_71 (by decide) (by decide) rfl (by decide) ?_
      refine q_aload_n d98_101 rfl ?_
      refine q_getv (c := 5) (f := 3) d98_102 ⟨rfl, by decide⟩ hs.1 hRs.2.1.1 ?_
      refine q_iret d98_105 rfl ?_
      exact k
    · have hs := hS.sg (hw.sg (show 0 < 3 by omega))
      have hRs := hR.2.1 0 (by omega)
      refine q_iload_n d98_0 rfl ?_
      refine q_s1 d98_1 (Or.inr rfl) rfl (Nat.le_of_ble_eq_true rfl) (c93t hv ?_)
      refine n0_ne 10 d98_4 (by decide) (by decide) (fun _ => ?_) (fun q => absurd q (by decide))
      refine q_iload_n d98_10 rfl ?_
      refine q_s1 d98_11 (Or.inr rfl) rfl (Nat.le_of_ble_eq_true rfl) (c26f (by decide) ?_)
      refine n0_eq 27 d98_14 (by decide) (by decide) (fun _ => ?_) (fun q => absurd q (by decide))
      refine q_iload_n d98_27 rfl ?_
      refine q_bipush (x := nI 10) d98_28 rfl ?_
      refine nc_ge 57 d98_30 (by decide) (by decide) (by decide) (fun _ => ?_) (fun q => absurd q (by decide))
      refine q_aload_n d98_57 rfl ?_
      refine q_getr (c := 6) (f := 3) d98_58 ⟨rfl, rfl⟩ hwo.1 hwo.2.2.2.2.1 ?_
      refine q_iload_n d98_61 rfl ?_
      refine q_bipush (x := nI 10) d98_62 rfl ?_
      refine n_irem d98_64 (by omega) (by omega) (by omega) ?_
      refine n_aald d98_65 hwo.2.2.2.2.2.1 (by decide) (by omega) (by decide) (hwo.2.2.2.2.2.2 0 (by omega)) ?_
      refine q_astore_n d98_66 (by decide) rfl ?_
      refine q_iload_n d98_67 rfl ?_
      refine q_bipush (x := nI 10) d98_68 rfl ?_
      refine n_idiv d98_70 (by omega) (by omega) (by omega) ?_
      refine n_tsI (35) 106 d98_71 (by decide) (by decide) rfl (by decide) ?_
      refine q_aload_n d98_106 rfl ?_
      refine q_getv (c := 5) (f := 4) d98_107 ⟨rfl, by decide⟩ hs.1 hRs.2.1.2.1 ?_
      refine q_iret d98_110 rfl ?_
      exact k
    · have hs := hS.sg (hw.sg (show 1 < 3 by omega))
      have hRs := hR.2.1 1 (by omega)
      refine q_iload_n d98_0 rfl ?_
      refine q_s1 d98_1 (Or.inr rfl) rfl (Nat.le_of_ble_eq_true rfl) (c93t hv ?_)
      refine n0_ne 10 d98_4 (by decide) (by decide) (fun _ => ?_) (fun q => absurd q (by decide))
      refine q_iload_n d98_10 rfl ?_
      refine q_s1 d98_11 (Or.inr rfl) rfl (Nat.le_of_ble_eq_true rfl) (c26f (by decide) ?_)
      refine n0_eq 27 d98_14 (by decide) (by decide) (fun _ => ?_) (fun q => absurd q (by decide))
      refine q_iload_n d98_27 rfl ?_
      refine q_bipush (x := nI 10) d98_28 rfl ?_
      refine nc_ge 57 d98_30 (by decide) (by decide) (by decide) (fun _ => ?_) (fun q => absurd q (by decide))
      refine q_aload_n d98_57 rfl ?_
      refine q_getr (c := 6) (f := 3) d98_58 ⟨rfl, rfl⟩ hwo.1 hwo.2.2.2.2.1 ?_
      refine q_iload_n d98_61 rfl ?_
      refine q_bipush (x := nI 10) d98_62 rfl ?_
      refine n_irem d98_64 (by omega) (by omega) (by omega) ?_
      refine n_aald d98_65 hwo.2.2.2.2.2.1 (by decide) (by omega) (by decide) (hwo.2.2.2.2.2.2 1 (by omega)) ?_
      refine q_astore_n d98_66 (by decide) rfl ?_
      refine q_iload_n d98_67 rfl ?_
      refine q_bipush (x := nI 10) d98_68 rfl ?_
      refine n_idiv d98_70 (by omega) (by omega) (by omega) ?_
      refine n_tsI (35) 106 d98_71 (by decide) (by decide) rfl (by decide) ?_
      refine q_aload_n d98_106 rfl ?_
      refine q_getv (c := 5) (f := 4) d98_107 ⟨rfl, by decide⟩ hs.1 hRs.2.1.2.1 ?_
      refine q_iret d98_110 rfl ?_
      exact k
    · have hs := hS.sg (hw.sg (show 2 < 3 by omega))
      have hRs := hR.2.1 2 (by omega)
      refine q_iload_n d98_0 rfl ?_
      refine q_s1 d98_1 (Or.inr rfl) rfl (Nat.le_of_ble_eq_true rfl) (c93t hv ?_)
      refine n0_ne 10 d98_4 (by decide) (by decide) (fun _ => ?_) (fun q => absurd q (by decide))
      refine q_iload_n d98_10 rfl ?_
      refine q_s1 d98_11 (Or.inr rfl) rfl (Nat.le_of_ble_eq_true rfl) (c26f (by decide) ?_)
      refine n0_eq 27 d98_14 (by decide) (by decide) (fun _ => ?_) (fun q => absurd q (by decide))
      refine q_iload_n d98_27 rfl ?_
      refine q_bipush (x := nI 10) d98_28 rfl ?_
      refine nc_ge 57 d98_30 (by decide) (by decide) (by decide) (fun _ => ?_) (fun q => absurd q (by decide))
      refine q_aload_n d98_57 rfl ?_
      refine q_getr (c := 6) (f := 3) d98_58 ⟨rfl, rfl⟩ hwo.1 hwo.2.2.2.2.1 ?_
      refine q_iload_n d98_61 rfl ?_
      refine q_bipush (x := nI 10) d98_62 rfl ?_
      refine n_irem d98_64 (by omega) (by omega) (by omega) ?_
      refine n_aald d98_65 hwo.2.2.2.2.2.1 (by decide) (by omega) (by decide) (hwo.2.2.2.2.2.2 2 (by omega)) ?_
      refine q_astore_n d98_66 (by decide) rfl ?_
      refine q_iload_n d98_67 rfl ?_
      refine q_bipush (x := nI 10) d98_68 rfl ?_
      refine n_idiv d98_70 (by omega) (by omega) (by omega) ?_
      refine n_tsI (35) 106 d98_71 (by decide) (by decide) rfl (by decide) ?_
      refine q_aload_n d98_106 rfl ?_
      refine q_getv (c := 5) (f := 4) d98_107 ⟨rfl, by decide⟩ hs.1 hRs.2.1.2.1 ?_
      refine q_iret d98_110 rfl ?_
      exact k
    · have hs := hS.sg (hw.sg (show 0 < 3 by omega))
      have hRs := hR.2.1 0 (by omega)
      refine q_iload_n d98_0 rfl ?_
      refine q_s1 d98_1 (Or.inr rfl) rfl (Nat.le_of_ble_eq_true rfl) (c93t hv ?_)
      refine n0_ne 10 d98_4 (by decide) (by decide) (fun _ => ?_) (fun q => absurd q (by decide))
      refine q_iload_n d98_10 rfl ?_
      refine q_s1 d98_11 (Or.inr rfl) rfl (Nat.le_of_ble_eq_true rfl) (c26f (by decide) ?_)
      refine n0_eq 27 d98_14 (by decide) (by decide) (fun _ => ?_) (fun q => absurd q (by decide))
      refine q_iload_n d98_27 rfl ?_
      refine q_bipush (x := nI 10) d98_28 rfl ?_
      refine nc_ge 57 d98_30 (by decide) (by decide) (by decide) (fun _ => ?_) (fun q => absurd q (by decide))
      refine q_aload_n d98_57 rfl ?_
      refine q_getr (c := 6) (f := 3) d98_58 ⟨rfl, rfl⟩ hwo.1 hwo.2.2.2.2.1 ?_
      refine q_iload_n d98_61 rfl ?_
      refine q_bipush (x := nI 10) d98_62 rfl ?_
      refine n_irem d98_64 (by omega) (by omega) (by omega) ?_
      refine n_aald d98_65 hwo.2.2.2.2.2.1 (by decide) (by omega) (by decide) (hwo.2.2.2.2.2.2 0 (by omega)) ?_
      refine q_astore_n d98_66 (by decide) rfl ?_
      refine q_iload_n d98_67 rfl ?_
      refine q_bipush (x := nI 10) d98_68 rfl ?_
      refine n_idiv d98_70 (by omega) (by omega) (by omega) ?_
      refine n_tsO 111 d98_71 (by omega) (Or.inr (by omega)) (by decide) ?_
      refine q_aload_n d98_111 rfl ?_
      refine q_getv (c := 5) (f := 5) d98_112 ⟨rfl, by decide⟩ hs.1 hRs.2.1.2.2 ?_
      refine q_iret d98_115 rfl ?_
      exact k
    · have hs := hS.sg (hw.sg (show 1 < 3 by omega))
      have hRs := hR.2.1 1 (by omega)
      refine q_iload_n d98_0 rfl ?_
      refine q_s1 d98_1 (Or.inr rfl) rfl (Nat.le_of_ble_eq_true rfl) (c93t hv ?_)
      refine n0_ne 10 d98_4 (by decide) (by decide) (fun _ => ?_) (fun q => absurd q (by decide))
      refine q_iload_n d98_10 rfl ?_
      refine q_s1 d98_11 (Or.inr rfl) rfl (Nat.le_of_ble_eq_true rfl) (c26f (by decide) ?_)
      refine n0_eq 27 d98_14 (by decide) (by decide) (fun _ => ?_) (fun q => absurd q (by decide))
      refine q_iload_n d98_27 rfl ?_
      refine q_bipush (x := nI 10) d98_28 rfl ?_
      refine nc_ge 57 d98_30 (by decide) (by decide) (by decide) (fun _ => ?_) (fun q => absurd q (by decide))
      refine q_aload_n d98_57 rfl ?_
      refine q_getr (c := 6) (f := 3) d98_58 ⟨rfl, rfl⟩ hwo.1 hwo.2.2.2.2.1 ?_
      refine q_iload_n d98_61 rfl ?_
      refine q_bipush (x := nI 10) d98_62 rfl ?_
      refine n_irem d98_64 (by omega) (by omega) (by omega) ?_
      refine n_aald d98_65 hwo.2.2.2.2.2.1 (by decide) (by omega) (by decide) (hwo.2.2.2.2.2.2 1 (by omega)) ?_
      refine q_astore_n d98_66 (by decide) rfl ?_
      refine q_iload_n d98_67 rfl ?_
      refine q_bipush (x := nI 10) d98_68 rfl ?_
      refine n_idiv d98_70 (by omega) (by omega) (by omega) ?_
      refine n_tsO 111 d98_71 (by omega) (Or.inr (by omega)) (by decide) ?_
      refine q_aload_n d98_111 rfl ?_
      refine q_getv (c := 5) (f := 5) d98_112 ⟨rfl, by decide⟩ hs.1 hRs.2.1.2.2 ?_
      refine q_iret d98_115 rfl ?_
      exact k
    · have hs := hS.sg (hw.sg (show 2 < 3 by omega))
      have hRs := hR.2.1 2 (by omega)
      refine q_iload_n d98_0 rfl ?_
      refine q_s1 d98_1 (Or.inr rfl) rfl (Nat.le_of_ble_eq_true rfl) (c93t hv ?_)
      refine n0_ne 10 d98_4 (by decide) (by decide) (fun _ => ?_) (fun q => absurd q (by decide))
      refine q_iload_n d98_10 rfl ?_
      refine q_s1 d98_11 (Or.inr rfl) rfl (Nat.le_of_ble_eq_true rfl) (c26f (by decide) ?_)
      refine n0_eq 27 d98_14 (by decide) (by decide) (fun _ => ?_) (fun q => absurd q (by decide))
      refine q_iload_n d98_27 rfl ?_
      refine q_bipush (x := nI 10) d98_28 rfl ?_
      refine nc_ge 57 d98_30 (by decide) (by decide) (by decide) (fun _ => ?_) (fun q => absurd q (by decide))
      refine q_aload_n d98_57 rfl ?_
      refine q_getr (c := 6) (f := 3) d98_58 ⟨rfl, rfl⟩ hwo.1 hwo.2.2.2.2.1 ?_
      refine q_iload_n d98_61 rfl ?_
      refine q_bipush (x := nI 10) d98_62 rfl ?_
      refine n_irem d98_64 (by omega) (by omega) (by omega) ?_
      refine n_aald d98_65 hwo.2.2.2.2.2.1 (by decide) (by omega) (by decide) (hwo.2.2.2.2.2.2 2 (by omega)) ?_
      refine q_astore_n d98_66 (by decide) rfl ?_
      refine q_iload_n d98_67 rfl ?_
      refine q_bipush (x := nI 10) d98_68 rfl ?_
      refine n_idiv d98_70 (by omega) (by omega) (by omega) ?_
      refine n_tsO 111 d98_71 (by omega) (Or.inr (by omega)) (by decide) ?_
      refine q_aload_n d98_111 rfl ?_
      refine q_getv (c := 5) (f := 5) d98_112 ⟨rfl, by decide⟩ hs.1 hRs.2.1.2.2 ?_
      refine q_iret d98_115 rfl ?_
      exact k
theorem d92_0 : decode (zB 92) 0 = .ok (.iload_n 1, 1) := by decide +kernel
theorem d92_1 : decode (zB 92) 1 = .ok (.iconst 0, 1) := by decide +kernel
theorem d92_2 : decode (zB 92) 2 = .ok (.aload_n 0, 1) := by decide +kernel
theorem d92_3 : decode (zB 92) 3 = .ok (.getfield 28, 3) := by decide +kernel
theorem d92_6 : decode (zB 92) 6 = .ok (.getfield 154, 3) := by decide +kernel
theorem d92_9 : decode (zB 92) 9 = .ok (.invokestatic 55, 3) := by decide +kernel
theorem d92_12 : decode (zB 92) 12 = .ok (.ifCond .eq 10, 3) := by decide +kernel
theorem d92_15 : decode (zB 92) 15 = .ok (.iload_n 2, 1) := by decide +kernel
theorem d92_16 : decode (zB 92) 16 = .ok (.invokestatic 217, 3) := by decide +kernel
theorem d92_19 : decode (zB 92) 19 = .ok (.ifCond .ne 6, 3) := by decide +kernel
theorem d92_22 : decode (zB 92) 22 = .ok (.bipush (-2), 2) := by decide +kernel
theorem d92_24 : decode (zB 92) 24 = .ok (.ireturn, 1) := by decide +kernel
theorem d92_25 : decode (zB 92) 25 = .ok (.aload_n 0, 1) := by decide +kernel
theorem d92_26 : decode (zB 92) 26 = .ok (.getfield 41, 3) := by decide +kernel
theorem d92_29 : decode (zB 92) 29 = .ok (.aload_n 0, 1) := by decide +kernel
theorem d92_30 : decode (zB 92) 30 = .ok (.getfield 28, 3) := by decide +kernel
theorem d92_33 : decode (zB 92) 33 = .ok (.iload_n 1, 1) := by decide +kernel
theorem d92_34 : decode (zB 92) 34 = .ok (.invokevirtual 220, 3) := by decide +kernel
theorem d92_37 : decode (zB 92) 37 = .ok (.aload_n 0, 1) := by decide +kernel
theorem d92_38 : decode (zB 92) 38 = .ok (.getfield 41, 3) := by decide +kernel
theorem d92_41 : decode (zB 92) 41 = .ok (.iload_n 2, 1) := by decide +kernel
theorem d92_42 : decode (zB 92) 42 = .ok (.invokevirtual 224, 3) := by decide +kernel
theorem d92_45 : decode (zB 92) 45 = .ok (.ireturn, 1) := by decide +kernel
theorem p92 {d : Nat} {M : zM} {Q : Option Value → zM → Prop} {D : yD} {x y : Int32} (hR : RC M D) (hD : OKD D) (k : ∀ M', RC M' D → Fc M M' → Q (some (.int (sReplay D x y))) M') : qC (d + 8) 92 [.ref 16, .int x, .int y] M Q := by
  refine qC_of (by decide) (Nat.le_of_ble_eq_true rfl) ?_
  have hS := hR.1.1
  have hT := hR.1.2.2.1
  have hO := hR.1.2.2.2.1
  have hRW := hR.1.2.2.2.2
  have hJ : RL M 62 (dL D) := hRW.2.2.2
  have hc6 := hO.1.1
  have h240 := hD.2.1
  have h120 := hR.2.2.1.1
  have hwr := hS.wo (Or.inl ⟨rfl, rfl, rfl, rfl⟩)
  have hwt := hS.wo (Or.inr ⟨rfl, rfl, rfl, rfl⟩)
  have hpr := hS.pu (Or.inl ⟨rfl, rfl, rfl, rfl⟩)
  have hpt := hS.pu (Or.inr ⟨rfl, rfl, rfl, rfl⟩)
  unfold sReplay at k
  rcases zix_c x (n := (dL D).length + 1) (by omega) with ⟨n, hn, rfl, en⟩ | ⟨en, nn⟩
  · rw [oz_s en] at k
    cases hv : yvx y with
    | none =>
      rw [ov_n hv] at k
      refine q_iload_n d92_0 rfl ?_
      refine q_iconstN (z := 0) d92_1 ?_
      refine q_aload_n d92_2 rfl ?_
      refine q_getr (c := 7) (f := 3) d92_3 ⟨rfl, rfl⟩ (hS.1.1) (hS.1.2.2.2.2.2.1) ?_
      refine q_getv (c := 0) (f := 3) d92_6 ⟨rfl, by decide⟩ hS.2.2.2.1.1 hJ.1 ?_
      refine q_s3 d92_9 (Or.inl rfl) rfl (Nat.le_of_ble_eq_true rfl) (c10t ⟨by omega, by omega⟩ (by omega) ?_)
      refine n0_eq 22 d92_12 (by decide) (by decide) (fun q => absurd q (by decide)) (fun _ => ?_)
      refine q_iload_n d92_15 rfl ?_
      refine q_s1 d92_16 (Or.inl rfl) rfl (Nat.le_of_ble_eq_true rfl) (c93f hv ?_)
      refine n0_ne 25 d92_19 (by decide) (by decide) (fun q => absurd q (by decide)) (fun _ => ?_)
      refine q_bipush (x := (-2)) d92_22 rfl ?_
      refine q_iret d92_24 rfl ?_
      exact k _ hR (Fc.refl _)
    | some m =>
      rw [ov_s hv] at k
      obtain ⟨rfl, hm, h50⟩ := yvx_s hv
      refine q_iload_n d92_0 rfl ?_
      refine q_iconstN (z := 0) d92_1 ?_
      refine q_aload_n d92_2 rfl ?_
      refine q_getr (c := 7) (f := 3) d92_3 ⟨rfl, rfl⟩ (hS.1.1) (hS.1.2.2.2.2.2.1) ?_
      refine q_getv (c := 0) (f := 3) d92_6 ⟨rfl, by decide⟩ hS.2.2.2.1.1 hJ.1 ?_
      refine q_s3 d92_9 (Or.inl rfl) rfl (Nat.le_of_ble_eq_true rfl) (c10t ⟨by omega, by omega⟩ (by omega) ?_)
      refine n0_eq 22 d92_12 (by decide) (by decide) (fun q => absurd q (by decide)) (fun _ => ?_)
      refine q_iload_n d92_15 rfl ?_
      refine q_s1 d92_16 (Or.inl rfl) rfl (Nat.le_of_ble_eq_true rfl) (c93t hv ?_)
      refine n0_ne 25 d92_19 (by decide) (by decide) (fun _ => ?_) (fun q => absurd q (by decide))
      refine q_aload_n d92_25 rfl ?_
      refine q_getr (c := 7) (f := 5) d92_26 ⟨rfl, rfl⟩ (hS.1.1) (hS.1.2.2.2.2.2.2.2.1) ?_
      refine q_aload_n d92_29 rfl ?_
      refine q_getr (c := 7) (f := 3) d92_30 ⟨rfl, rfl⟩ (hS.1.1) (hS.1.2.2.2.2.2.1) ?_
      refine q_iload_n d92_33 rfl ?_
      refine q_v2 d92_34 rfl rfl hwt.1 (Nat.le_of_ble_eq_true rfl) (c94 (lo := 94) (w := 94) (u := 99) (j := 95) (g := none) (L := dL D) (n := n) hS hT rfl (Or.inr ⟨rfl, rfl, rfl, rfl⟩) hO.1 hJ (by omega) h240 hD.2.2.1 (fun M1 hN f1 => ?_))
      refine q_aload_n d92_37 rfl ?_
      refine q_getr (c := 7) (f := 5) d92_38 ⟨rfl, rfl⟩ (hN.1.1.1) (hN.1.1.2.2.2.2.2.2.2.1) ?_
      refine q_iload_n d92_41 rfl ?_
      refine q_v1 d92_42 rfl rfl (hN.1.wo (Or.inr ⟨rfl, rfl, rfl, rfl⟩)).1 (Nat.le_of_ble_eq_true rfl) (c98 hN hm h50 ?_)
      refine q_iret d92_45 rfl ?_
      have hth := hR.th hN.1 (f1.mono (fun b q e => ⟨by have := e.1; omega, by have := e.2; omega⟩))
      exact k _ hth.1 hth.2
  · rw [oz_n en] at k
    refine q_iload_n d92_0 rfl ?_
    refine q_iconstN (z := 0) d92_1 ?_
    refine q_aload_n d92_2 rfl ?_
    refine q_getr (c := 7) (f := 3) d92_3 ⟨rfl, rfl⟩ (hS.1.1) (hS.1.2.2.2.2.2.1) ?_
    refine q_getv (c := 0) (f := 3) d92_6 ⟨rfl, by decide⟩ hS.2.2.2.1.1 hJ.1 ?_
    refine q_s3 d92_9 (Or.inl rfl) rfl (Nat.le_of_ble_eq_true rfl) (c10g en (by omega) ?_)
    refine n0_eq 22 d92_12 (by decide) (by decide) (fun _ => ?_) (fun q => absurd q (by decide))
    refine q_bipush (x := (-2)) d92_22 rfl ?_
    refine q_iret d92_24 rfl ?_
    exact k _ hR (Fc.refl _)
