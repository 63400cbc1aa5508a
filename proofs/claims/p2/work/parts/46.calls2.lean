/-! ===== the calls of the class: sheets, shapes ===== -/
theorem RC.fr2 {M M' : zM} {S : Nat → Nat → Prop} {D : yD} (h : RC M D) (hS : SC M') (hT : RTx M' (dT D) (dc D)) (f : Fr S M M') (hs : (∀ k, ¬ S 16 k) ∧ ¬ S 17 1 ∧ (∀ k, ¬ S 18 k) ∧ (∀ a k, 62 ≤ a → a < 94 → ¬ S a k) ∧ ∀ a k, 126 ≤ a → a < 136 → ¬ S a k) : RC M' D := by
  obtain ⟨⟨h1, h2, h3, h4, h5⟩, h6, h7, h8⟩ := h
  refine ⟨⟨hS, h2, hT, h4, ⟨RPu_fr h5.1 f (fun b k a1 a2 => hs.2.2.2.1 b k (by omega) (by omega)), fun s hs3 => RS_fr (h5.2.1 s hs3) f (fun b k a1 a2 => hs.2.2.2.1 b k (by omega) (by omega)), RJ_fr h5.2.2 f (fun b k a1 a2 => hs.2.2.2.1 b k (by omega) (by omega))⟩⟩,
    (f.i (hs.1 2)).trans h6, RTp_fi h7 f ⟨hs.2.1, fun k => hs.2.2.1 k⟩, fun i hi => ⟨(f.i (hs.2.2.2.2 _ _ (by omega) (by omega))).trans (h8 i hi).1, (f.i (hs.2.2.2.2 _ _ (by omega) (by omega))).trans (h8 i hi).2⟩⟩
/-- a sheet's cells change -/
theorem RC.row {M M' : zM} {D : yD} {h : Nat} {so : Int32} {z : Nat} (hR : RC M D) (hh : h < 4) (f : Fi (Fb (127 + 2 * h) (127 + 2 * h + 2)) M M') (h1 : zi M' (127 + 2 * h) 0 = so) (h2 : zi M' (127 + 2 * h) 1 = nI z) : RC M' (drS D (yu (dR D) h (so, z))) := by
  have hS' : SC M' := f.sc hR.1.1 (fun a k ha q => by have := q.1; omega)
  obtain ⟨⟨a1, a2, a3, a4, a5⟩, a6, a7, a8⟩ := hR
  refine ⟨⟨hS', a2, RTx_fr a3 a4.1.1 f.fr (fun b k b1 b2 q => by have := q.1; omega), a4, ⟨RPu_fr a5.1 f.fr (fun b k b1 b2 q => by have := q.1; omega), fun s hs3 => RS_fr (a5.2.1 s hs3) f.fr (fun b k b1 b2 q => by have := q.1; omega), RJ_fr a5.2.2 f.fr (fun b k b1 b2 q => by have := q.1; omega)⟩⟩,
    (f.1 _ _ (fun q => by have := q.1; omega)).trans a6, RTp_fi a7 f.fr ⟨fun q => by have := q.1; omega, fun k q => by have := q.1; omega⟩, fun i hi => ?_⟩
  show zi M' (127 + 2 * i) 0 = (yu (dR D) h (so, z) i).1 ∧ zi M' (127 + 2 * i) 1 = nI (yu (dR D) h (so, z) i).2
  by_cases e : i = h
  · subst e; rw [yu_s]; exact ⟨h1, h2⟩
  · rw [yu_n e]; exact ⟨(f.1 _ _ (fun q => by have := q.1; have := q.2; omega)).trans (a8 i hi).1, (f.1 _ _ (fun q => by have := q.1; have := q.2; omega)).trans (a8 i hi).2⟩
theorem RC.items {M M' : zM} {D : yD} {h : Nat} (hR : RC M D) (hh : h < 4) (f : Fi (fun a _ => a = 127 + 2 * h + 1) M M') : RC M' D := by
  have hS' : SC M' := f.sc hR.1.1 (fun a k ha q => by omega)
  obtain ⟨⟨a1, a2, a3, a4, a5⟩, a6, a7, a8⟩ := hR
  exact ⟨⟨hS', a2, RTx_fr a3 a4.1.1 f.fr (fun b k b1 b2 q => by omega), a4, ⟨RPu_fr a5.1 f.fr (fun b k b1 b2 q => by omega), fun s hs3 => RS_fr (a5.2.1 s hs3) f.fr (fun b k b1 b2 q => by omega), RJ_fr a5.2.2 f.fr (fun b k b1 b2 q => by omega)⟩⟩,
    (f.1 _ _ (fun q => by omega)).trans a6, RTp_fi a7 f.fr ⟨fun q => by omega, fun k q => by omega⟩, fun i hi => ⟨(f.1 _ _ (fun q => by omega)).trans (a8 i hi).1, (f.1 _ _ (fun q => by omega)).trans (a8 i hi).2⟩⟩
theorem RC.lng {M M' : zM} {D : yD} {b : Nat} (hR : RC M D) (f : Fl b M M') : RC M' D := by
  obtain ⟨i, r, l, z⟩ := M
  obtain ⟨i', r', l', z'⟩ := M'
  obtain ⟨e1, e2, e3, -⟩ := f
  have e1 : i' = i := e1
  have e2 : r' = r := e2
  have e3 : z' = z := e3
  subst e1; subst e2; subst e3
  exact hR
theorem c10v {d b : Nat} {M : zM} {Q : Option Value → zM → Prop} (hb : b < 2147483648) (k : Q (some (.int (nI 1))) M) : qC (d + 1) 10 [.int (-1), .int (-1), .int (nI b)] M Q :=
  c10 (fun _ => k) (fun q => absurd ⟨Int32.le_refl _, by rw [Int32.le_iff_toInt_le, nI_toInt hb, show (-1 : Int32).toInt = -1 from rfl]; omega⟩ q)
theorem c10w {d o : Nat} {M : zM} {Q : Option Value → zM → Prop} (ho : o < 2) (k : Q (some (.int (nI 1))) M) : qC (d + 1) 10 [.int (nI o), .int (-1), .int (nI 1)] M Q :=
  c10 (fun _ => k) (fun q => absurd ⟨by rw [Int32.le_iff_toInt_le, nI_toInt (by omega), show (-1 : Int32).toInt = -1 from rfl]; omega, nI_le (by omega) (by omega)⟩ q)
theorem c10x {d : Nat} {M : zM} {Q : Option Value → zM → Prop} {y : Int32} (h1 : ¬ y = -1) (h2 : zix y 2 = none) (k : Q (some (.int (nI 0))) M) : qC (d + 1) 10 [.int y, .int (-1), .int (nI 1)] M Q :=
  c10 (fun q => absurd q (by
    rw [Int32.le_iff_toInt_le, Int32.le_iff_toInt_le, nI_toInt (by omega), show (-1 : Int32).toInt = -1 from rfl]
    have h3 := zix_none h2
    have h4 : y.toInt ≠ -1 := fun e => h1 (Int32.toInt_inj.mp (e.trans rfl))
    omega)) (fun _ => k)
theorem d125_0 : decode (zB 125) 0 = .ok (.iload_n 1, 1) := by decide +kernel
theorem d125_1 : decode (zB 125) 1 = .ok (.invokestatic 245, 3) := by decide +kernel
theorem d125_4 : decode (zB 125) 4 = .ok (.ifCond .eq 12, 3) := by decide +kernel
theorem d125_7 : decode (zB 125) 7 = .ok (.iload_n 2, 1) := by decide +kernel
theorem d125_8 : decode (zB 125) 8 = .ok (.iconst (-1), 1) := by decide +kernel
theorem d125_9 : decode (zB 125) 9 = .ok (.iconst 1, 1) := by decide +kernel
theorem d125_10 : decode (zB 125) 10 = .ok (.invokestatic 55, 3) := by decide +kernel
theorem d125_13 : decode (zB 125) 13 = .ok (.ifCond .ne 6, 3) := by decide +kernel
theorem d125_16 : decode (zB 125) 16 = .ok (.bipush (-2), 2) := by decide +kernel
theorem d125_18 : decode (zB 125) 18 = .ok (.ireturn, 1) := by decide +kernel
theorem d125_19 : decode (zB 125) 19 = .ok (.iload_n 2, 1) := by decide +kernel
theorem d125_20 : decode (zB 125) 20 = .ok (.iconst (-1), 1) := by decide +kernel
theorem d125_21 : decode (zB 125) 21 = .ok (.if_icmp .ne 16, 3) := by decide +kernel
theorem d125_24 : decode (zB 125) 24 = .ok (.aload_n 0, 1) := by decide +kernel
theorem d125_25 : decode (zB 125) 25 = .ok (.getfield 46, 3) := by decide +kernel
theorem d125_28 : decode (zB 125) 28 = .ok (.iload_n 1, 1) := by decide +kernel
theorem d125_29 : decode (zB 125) 29 = .ok (.aaload, 1) := by decide +kernel
theorem d125_30 : decode (zB 125) 30 = .ok (.iconst (-1), 1) := by decide +kernel
theorem d125_31 : decode (zB 125) 31 = .ok (.iconst 0, 1) := by decide +kernel
theorem d125_32 : decode (zB 125) 32 = .ok (.invokevirtual 272, 3) := by decide +kernel
theorem d125_35 : decode (zB 125) 35 = .ok (.iconst 1, 1) := by decide +kernel
theorem d125_36 : decode (zB 125) 36 = .ok (.ireturn, 1) := by decide +kernel
theorem d125_37 : decode (zB 125) 37 = .ok (.iload_n 3, 1) := by decide +kernel
theorem d125_38 : decode (zB 125) 38 = .ok (.bipush 40, 2) := by decide +kernel
theorem d125_40 : decode (zB 125) 40 = .ok (.if_icmp .le 6, 3) := by decide +kernel
theorem d125_43 : decode (zB 125) 43 = .ok (.bipush (-2), 2) := by decide +kernel
theorem d125_45 : decode (zB 125) 45 = .ok (.ireturn, 1) := by decide +kernel
theorem d125_46 : decode (zB 125) 46 = .ok (.iload_n 3, 1) := by decide +kernel
theorem d125_47 : decode (zB 125) 47 = .ok (.ifCond .ge 6, 3) := by decide +kernel
theorem d125_50 : decode (zB 125) 50 = .ok (.bipush (-14), 2) := by decide +kernel
theorem d125_52 : decode (zB 125) 52 = .ok (.ireturn, 1) := by decide +kernel
theorem d125_53 : decode (zB 125) 53 = .ok (.aload_n 0, 1) := by decide +kernel
theorem d125_54 : decode (zB 125) 54 = .ok (.getfield 46, 3) := by decide +kernel
theorem d125_57 : decode (zB 125) 57 = .ok (.iload_n 1, 1) := by decide +kernel
theorem d125_58 : decode (zB 125) 58 = .ok (.aaload, 1) := by decide +kernel
theorem d125_59 : decode (zB 125) 59 = .ok (.iload_n 2, 1) := by decide +kernel
theorem d125_60 : decode (zB 125) 60 = .ok (.iload_n 3, 1) := by decide +kernel
theorem d125_61 : decode (zB 125) 61 = .ok (.invokevirtual 272, 3) := by decide +kernel
theorem d125_64 : decode (zB 125) 64 = .ok (.iconst 1, 1) := by decide +kernel
theorem d125_65 : decode (zB 125) 65 = .ok (.ireturn, 1) := by decide +kernel
theorem p125 {d : Nat} {M : zM} {Q : Option Value → zM → Prop} {D : yD} {x y z : Int32} (hR : RC M D) (hD : OKD D) (k : ∀ M', RC M' (sSheet D x y z).2 → Fc M M' → Q (some (.int (sSheet D x y z).1)) M') : qC (d + 3) 125 [.ref 16, .int x, .int y, .int z] M Q := by
  refine qC_of (by decide) (Nat.le_of_ble_eq_true rfl) ?_
  have hS := hR.1.1
  have hT := hR.1.2.2.1
  have hO := hR.1.2.2.2.1
  have hRW := hR.1.2.2.2.2
  have hJ : RL M 62 (dL D) := hRW.2.2.2
  have hc6 := hO.1.1
  have h240 := hD.2.1
  have h120 := hR.2.2.1.1
  have hwr := hS.wo (Or.inl ⟨rfl, rfl, rfl, rfl⟩)
  have hwt := hS.wo (Or.inr ⟨rfl, rfl, rfl, rfl⟩)
  have hpr := hS.pu (Or.inl ⟨rfl, rfl, rfl, rfl⟩)
  have hpt := hS.pu (Or.inr ⟨rfl, rfl, rfl, rfl⟩)
  unfold sSheet at k
  rcases zix_c x (n := 4) (by omega) with ⟨h, hh, rfl, eh⟩ | ⟨eh, nh⟩
  · rw [oz_s eh] at k
    by_cases hy : y = -1
    · subst hy
      rw [if_pos rfl] at k
      refine q_iload_n d125_0 rfl ?_
      refine q_s1 d125_1 (Or.inl rfl) rfl (Nat.le_of_ble_eq_true rfl) (c113t (by omega) ?_)
      refine n0_eq 16 d125_4 (by decide) (by decide) (fun q => absurd q (by decide)) (fun _ => ?_)
      refine q_iload_n d125_7 rfl ?_
      refine q_iconst (x := (-1)) d125_8 rfl ?_
      refine q_iconstN (z := 1) d125_9 ?_
      refine q_s3 d125_10 (Or.inl rfl) rfl (Nat.le_of_ble_eq_true rfl) (c10v (by decide) ?_)
      refine n0_ne 19 d125_13 (by decide) (by decide) (fun _ => ?_) (fun q => absurd q (by decide))
      refine q_iload_n d125_19 rfl ?_
      refine q_iconst (x := (-1)) d125_20 rfl ?_
      refine ic_ne 37 d125_21 (by decide) (fun h21 => (False.elim (h21 rfl))) (fun h21 => ?_)
      refine q_aload_n d125_24 rfl ?_
      refine q_getr (c := 7) (f := 6) d125_25 ⟨rfl, rfl⟩ (hS.1.1) (hS.1.2.2.2.2.2.2.2.2.1) ?_
      refine q_iload_n d125_28 rfl ?_
      refine n_aald d125_29 (hS.1.2.2.2.2.2.2.2.2.2.1) (by decide) (by omega) (by decide) ((hS.1.2.2.2.2.2.2.2.2.2.2.1) _ (by omega)) ?_
      refine q_iconst (x := (-1)) d125_30 rfl ?_
      refine q_iconstN (z := 0) d125_31 ?_
      refine q_v2 d125_32 rfl rfl (hS.2.2.2.2.2.2.2.2.2.2.2.1 _ (by omega)).1 (Nat.le_of_ble_eq_true rfl) (c121 (so := -1) (n := 0) (hS.2.2.2.2.2.2.2.2.2.2.2.1 h (by omega)) (by omega) (fun M1 h1 h2 f1 => ?_))
      refine q_iconstN (z := 1) d125_35 ?_
      refine q_iret d125_36 rfl ?_
      exact k _ (hR.row (by omega) f1 h1 h2) (f1.fr.c (fun a q ha e => by have := e.1; have := e.2; omega))
    · rw [if_neg hy] at k
      rcases zix_c y (n := 2) (by omega) with ⟨o, ho, rfl, eo⟩ | ⟨eo, no⟩
      · rw [oz_s eo] at k
        by_cases hz40 : nI 40 < z
        · rw [if_pos hz40] at k
          refine q_iload_n d125_0 rfl ?_
          refine q_s1 d125_1 (Or.inl rfl) rfl (Nat.le_of_ble_eq_true rfl) (c113t (by omega) ?_)
          refine n0_eq 16 d125_4 (by decide) (by decide) (fun q => absurd q (by decide)) (fun _ => ?_)
          refine q_iload_n d125_7 rfl ?_
          refine q_iconst (x := (-1)) d125_8 rfl ?_
          refine q_iconstN (z := 1) d125_9 ?_
          refine q_s3 d125_10 (Or.inl rfl) rfl (Nat.le_of_ble_eq_true rfl) (c10w (by omega) ?_)
          refine n0_ne 19 d125_13 (by decide) (by decide) (fun _ => ?_) (fun q => absurd q (by decide))
          refine q_iload_n d125_19 rfl ?_
          refine q_iconst (x := (-1)) d125_20 rfl ?_
          refine ic_ne 37 d125_21 (by decide) (fun h21 => ?_) (fun h21 => (False.elim (hy h21)))
          refine q_iload_n d125_37 rfl ?_
          refine q_bipush (x := nI 40) d125_38 rfl ?_
          refine ic_le 46 d125_40 (by decide) (fun h40 => (False.elim (Int32.not_lt.mpr h40 hz40))) (fun h40 => ?_)
          refine q_bipush (x := (-2)) d125_43 rfl ?_
          refine q_iret d125_45 rfl ?_
          exact k _ hR (Fc.refl _)
        · rw [if_neg hz40] at k
          by_cases hz0 : z < nI 0
          · rw [if_pos hz0] at k
            refine q_iload_n d125_0 rfl ?_
            refine q_s1 d125_1 (Or.inl rfl) rfl (Nat.le_of_ble_eq_true rfl) (c113t (by omega) ?_)
            refine n0_eq 16 d125_4 (by decide) (by decide) (fun q => absurd q (by decide)) (fun _ => ?_)
            refine q_iload_n d125_7 rfl ?_
            refine q_iconst (x := (-1)) d125_8 rfl ?_
            refine q_iconstN (z := 1) d125_9 ?_
            refine q_s3 d125_10 (Or.inl rfl) rfl (Nat.le_of_ble_eq_true rfl) (c10w (by omega) ?_)
            refine n0_ne 19 d125_13 (by decide) (by decide) (fun _ => ?_) (fun q => absurd q (by decide))
            refine q_iload_n d125_19 rfl ?_
            refine q_iconst (x := (-1)) d125_20 rfl ?_
            refine ic_ne 37 d125_21 (by decide) (fun h21 => ?_) (fun h21 => (False.elim (nI_m1 (by omega) h21)))
            refine q_iload_n d125_37 rfl ?_
            refine q_bipush (x := nI 40) d125_38 rfl ?_
            refine ic_le 46 d125_40 (by decide) (fun h40 => ?_) (fun h40 => (False.elim (h40 (Int32.not_lt.mp hz40))))
            refine q_iload_n d125_46 rfl ?_
            refine i0_ge 53 d125_47 (by decide) (fun h47 => (False.elim (Int32.not_lt.mpr h47 hz0))) (fun h47 => ?_)
            refine q_bipush (x := (-14)) d125_50 rfl ?_
            refine q_iret d125_52 rfl ?_
            exact k _ hR (Fc.refl _)
          · rw [if_neg hz0] at k
            obtain ⟨v, rfl, hv⟩ := nI_two (z := 40) hz0 hz40 (by decide)
            rw [nI_clamp (by omega)] at k
            refine q_iload_n d125_0 rfl ?_
            refine q_s1 d125_1 (Or.inl rfl) rfl (Nat.le_of_ble_eq_true rfl) (c113t (by omega) ?_)
            refine n0_eq 16 d125_4 (by decide) (by decide) (fun q => absurd q (by decide)) (fun _ => ?_)
            refine q_iload_n d125_7 rfl ?_
            refine q_iconst (x := (-1)) d125_8 rfl ?_
            refine q_iconstN (z := 1) d125_9 ?_
            refine q_s3 d125_10 (Or.inl rfl) rfl (Nat.le_of_ble_eq_true rfl) (c10w (by omega) ?_)
            refine n0_ne 19 d125_13 (by decide) (by decide) (fun _ => ?_) (fun q => absurd q (by decide))
            refine q_iload_n d125_19 rfl ?_
            refine q_iconst (x := (-1)) d125_20 rfl ?_
            refine ic_ne 37 d125_21 (by decide) (fun h21 => ?_) (fun h21 => (False.elim (nI_m1 (by omega) h21)))
            refine q_iload_n d125_37 rfl ?_
            refine q_bipush (x := nI 40) d125_38 rfl ?_
            refine nc_le 46 d125_40 (by decide) (by omega) (by omega) (fun h40 => ?_) (fun h40 => (False.elim (by omega)))
            refine q_iload_n d125_46 rfl ?_
            refine n0_ge 53 d125_47 (by decide) (by omega) (fun _ => ?_) (fun q => absurd q (Nat.not_lt_zero _))
            refine q_aload_n d125_53 rfl ?_
            refine q_getr (c := 7) (f := 6) d125_54 ⟨rfl, rfl⟩ (hS.1.1) (hS.1.2.2.2.2.2.2.2.2.1) ?_
            refine q_iload_n d125_57 rfl ?_
            refine n_aald d125_58 (hS.1.2.2.2.2.2.2.2.2.2.1) (by decide) (by omega) (by decide) ((hS.1.2.2.2.2.2.2.2.2.2.2.1) _ (by omega)) ?_
            refine q_iload_n d125_59 rfl ?_
            refine q_iload_n d125_60 rfl ?_
            refine q_v2 d125_61 rfl rfl (hS.2.2.2.2.2.2.2.2.2.2.2.1 _ (by omega)).1 (Nat.le_of_ble_eq_true rfl) (c121 (so := nI o) (hS.2.2.2.2.2.2.2.2.2.2.2.1 h (by omega)) (by omega) (fun M1 h1 h2 f1 => ?_))
            refine q_iconstN (z := 1) d125_64 ?_
            refine q_iret d125_65 rfl ?_
            exact k _ (hR.row (by omega) f1 h1 h2) (f1.fr.c (fun a q ha e => by have := e.1; have := e.2; omega))
      · rw [oz_n eo] at k
        refine q_iload_n d125_0 rfl ?_
        refine q_s1 d125_1 (Or.inl rfl) rfl (Nat.le_of_ble_eq_true rfl) (c113t (by omega) ?_)
        refine n0_eq 16 d125_4 (by decide) (by decide) (fun q => absurd q (by decide)) (fun _ => ?_)
        refine q_iload_n d125_7 rfl ?_
        refine q_iconst (x := (-1)) d125_8 rfl ?_
        refine q_iconstN (z := 1) d125_9 ?_
        refine q_s3 d125_10 (Or.inl rfl) rfl (Nat.le_of_ble_eq_true rfl) (c10x hy eo ?_)
        refine n0_ne 19 d125_13 (by decide) (by decide) (fun q => absurd q (by decide)) (fun _ => ?_)
        refine q_bipush (x := (-2)) d125_16 rfl ?_
        refine q_iret d125_18 rfl ?_
        exact k _ hR (Fc.refl _)
  · rw [oz_n eh] at k
    refine q_iload_n d125_0 rfl ?_
    refine q_s1 d125_1 (Or.inl rfl) rfl (Nat.le_of_ble_eq_true rfl) (c113f eh ?_)
    refine n0_eq 16 d125_4 (by decide) (by decide) (fun _ => ?_) (fun q => absurd q (by decide))
    refine q_bipush (x := (-2)) d125_16 rfl ?_
    refine q_iret d125_18 rfl ?_
    exact k _ hR (Fc.refl _)
theorem d126_0 : decode (zB 126) 0 = .ok (.iload_n 1, 1) := by decide +kernel
theorem d126_1 : decode (zB 126) 1 = .ok (.invokestatic 245, 3) := by decide +kernel
theorem d126_4 : decode (zB 126) 4 = .ok (.ifCond .ne 6, 3) := by decide +kernel
theorem d126_7 : decode (zB 126) 7 = .ok (.bipush (-2), 2) := by decide +kernel
theorem d126_9 : decode (zB 126) 9 = .ok (.ireturn, 1) := by decide +kernel
theorem d126_10 : decode (zB 126) 10 = .ok (.aload_n 0, 1) := by decide +kernel
theorem d126_11 : decode (zB 126) 11 = .ok (.getfield 46, 3) := by decide +kernel
theorem d126_14 : decode (zB 126) 14 = .ok (.iload_n 1, 1) := by decide +kernel
theorem d126_15 : decode (zB 126) 15 = .ok (.aaload, 1) := by decide +kernel
theorem d126_16 : decode (zB 126) 16 = .ok (.astore 4, 2) := by decide +kernel
theorem d126_18 : decode (zB 126) 18 = .ok (.aload 4, 2) := by decide +kernel
theorem d126_20 : decode (zB 126) 20 = .ok (.getfield 253, 3) := by decide +kernel
theorem d126_23 : decode (zB 126) 23 = .ok (.iconst (-1), 1) := by decide +kernel
theorem d126_24 : decode (zB 126) 24 = .ok (.if_icmp .ne 6, 3) := by decide +kernel
theorem d126_27 : decode (zB 126) 27 = .ok (.bipush (-11), 2) := by decide +kernel
theorem d126_29 : decode (zB 126) 29 = .ok (.ireturn, 1) := by decide +kernel
theorem d126_30 : decode (zB 126) 30 = .ok (.iload_n 2, 1) := by decide +kernel
theorem d126_31 : decode (zB 126) 31 = .ok (.iconst 0, 1) := by decide +kernel
theorem d126_32 : decode (zB 126) 32 = .ok (.aload 4, 2) := by decide +kernel
theorem d126_34 : decode (zB 126) 34 = .ok (.getfield 256, 3) := by decide +kernel
theorem d126_37 : decode (zB 126) 37 = .ok (.iconst 1, 1) := by decide +kernel
theorem d126_38 : decode (zB 126) 38 = .ok (.isub, 1) := by decide +kernel
theorem d126_39 : decode (zB 126) 39 = .ok (.invokestatic 55, 3) := by decide +kernel
theorem d126_42 : decode (zB 126) 42 = .ok (.ifCond .ne 6, 3) := by decide +kernel
theorem d126_45 : decode (zB 126) 45 = .ok (.bipush (-12), 2) := by decide +kernel
theorem d126_47 : decode (zB 126) 47 = .ok (.ireturn, 1) := by decide +kernel
theorem d126_48 : decode (zB 126) 48 = .ok (.aload 4, 2) := by decide +kernel
theorem d126_50 : decode (zB 126) 50 = .ok (.iload_n 2, 1) := by decide +kernel
theorem d126_51 : decode (zB 126) 51 = .ok (.iload_n 3, 1) := by decide +kernel
theorem d126_52 : decode (zB 126) 52 = .ok (.invokevirtual 276, 3) := by decide +kernel
theorem d126_55 : decode (zB 126) 55 = .ok (.iconst 1, 1) := by decide +kernel
theorem d126_56 : decode (zB 126) 56 = .ok (.ireturn, 1) := by decide +kernel
theorem p126 {d : Nat} {M : zM} {Q : Option Value → zM → Prop} {D : yD} {x y z : Int32} (hR : RC M D) (hD : OKD D) (k : ∀ M', RC M' D → Fc M M' → Q (some (.int (sCell D x y))) M') : qC (d + 3) 126 [.ref 16, .int x, .int y, .int z] M Q := by
  refine qC_of (by decide) (Nat.le_of_ble_eq_true rfl) ?_
  have hS := hR.1.1
  have hT := hR.1.2.2.1
  have hO := hR.1.2.2.2.1
  have hRW := hR.1.2.2.2.2
  have hJ : RL M 62 (dL D) := hRW.2.2.2
  have hc6 := hO.1.1
  have h240 := hD.2.1
  have h120 := hR.2.2.1.1
  have hwr := hS.wo (Or.inl ⟨rfl, rfl, rfl, rfl⟩)
  have hwt := hS.wo (Or.inr ⟨rfl, rfl, rfl, rfl⟩)
  have hpr := hS.pu (Or.inl ⟨rfl, rfl, rfl, rfl⟩)
  have hpt := hS.pu (Or.inr ⟨rfl, rfl, rfl, rfl⟩)
  unfold sCell at k
  rcases zix_c x (n := 4) (by omega) with ⟨h, hh, rfl, eh⟩ | ⟨eh, nh⟩
  · rw [oz_s eh] at k
    have hz40 := (hD.2.2.2.2 h hh).1
    by_cases hs : (dR D h).1 = -1
    · rw [if_pos hs] at k
      refine q_iload_n d126_0 rfl ?_
      refine q_s1 d126_1 (Or.inl rfl) rfl (Nat.le_of_ble_eq_true rfl) (c113t (by omega) ?_)
      refine n0_ne 10 d126_4 (by decide) (by decide) (fun _ => ?_) (fun q => absurd q (by decide))
      refine q_aload_n d126_10 rfl ?_
      refine q_getr (c := 7) (f := 6) d126_11 ⟨rfl, rfl⟩ (hS.1.1) (hS.1.2.2.2.2.2.2.2.2.1) ?_
      refine q_iload_n d126_14 rfl ?_
      refine n_aald d126_15 (hS.1.2.2.2.2.2.2.2.2.2.1) (by decide) (by omega) (by decide) ((hS.1.2.2.2.2.2.2.2.2.2.2.1) _ (by omega)) ?_
      refine q_astore d126_16 (by decide) rfl ?_
      refine q_aload d126_18 rfl ?_
      refine q_getv (c := 4) (f := 0) d126_20 ⟨rfl, by decide⟩ (hS.2.2.2.2.2.2.2.2.2.2.2.1 _ (by omega)).1 (hR.2.2.2 _ (by omega)).1 ?_
      refine q_iconst (x := (-1)) d126_23 rfl ?_
      refine ic_ne 30 d126_24 (by decide) (fun h24 => (False.elim (h24 hs))) (fun h24 => ?_)
      refine q_bipush (x := (-11)) d126_27 rfl ?_
      refine q_iret d126_29 rfl ?_
      exact k _ hR (Fc.refl _)
    · rw [if_neg hs] at k
      rcases zix_c y (n := (dR D h).2) (by omega) with ⟨i, hi, rfl, ei⟩ | ⟨ei, ni⟩
      · rw [oz_s ei] at k
        refine q_iload_n d126_0 rfl ?_
        refine q_s1 d126_1 (Or.inl rfl) rfl (Nat.le_of_ble_eq_true rfl) (c113t (by omega) ?_)
        refine n0_ne 10 d126_4 (by decide) (by decide) (fun _ => ?_) (fun q => absurd q (by decide))
        refine q_aload_n d126_10 rfl ?_
        refine q_getr (c := 7) (f := 6) d126_11 ⟨rfl, rfl⟩ (hS.1.1) (hS.1.2.2.2.2.2.2.2.2.1) ?_
        refine q_iload_n d126_14 rfl ?_
        refine n_aald d126_15 (hS.1.2.2.2.2.2.2.2.2.2.1) (by decide) (by omega) (by decide) ((hS.1.2.2.2.2.2.2.2.2.2.2.1) _ (by omega)) ?_
        refine q_astore d126_16 (by decide) rfl ?_
        refine q_aload d126_18 rfl ?_
        refine q_getv (c := 4) (f := 0) d126_20 ⟨rfl, by decide⟩ (hS.2.2.2.2.2.2.2.2.2.2.2.1 _ (by omega)).1 (hR.2.2.2 _ (by omega)).1 ?_
        refine q_iconst (x := (-1)) d126_23 rfl ?_
        refine ic_ne 30 d126_24 (by decide) (fun h24 => ?_) (fun h24 => (False.elim (hs h24)))
        refine q_iload_n d126_30 rfl ?_
        refine q_iconstN (z := 0) d126_31 ?_
        refine q_aload d126_32 rfl ?_
        refine q_getv (c := 4) (f := 1) d126_34 ⟨rfl, by decide⟩ (hS.2.2.2.2.2.2.2.2.2.2.2.1 _ (by omega)).1 (hR.2.2.2 _ (by omega)).2 ?_
        refine q_iconstN (z := 1) d126_37 ?_
        refine n_isub d126_38 (by omega) ?_
        refine q_s3 d126_39 (Or.inl rfl) rfl (Nat.le_of_ble_eq_true rfl) (c10t ⟨by omega, by omega⟩ (by omega) ?_)
        refine n0_ne 48 d126_42 (by decide) (by decide) (fun _ => ?_) (fun q => absurd q (by decide))
        refine q_aload d126_48 rfl ?_
        refine q_iload_n d126_50 rfl ?_
        refine q_iload_n d126_51 rfl ?_
        refine q_v2 d126_52 rfl rfl (hS.2.2.2.2.2.2.2.2.2.2.2.1 _ (by omega)).1 (Nat.le_of_ble_eq_true rfl) (c122 (hS.2.2.2.2.2.2.2.2.2.2.2.1 h (by omega)) (hR.2.2.2 h hh).2 hi hz40 (fun M1 f1 => ?_))
        refine q_iconstN (z := 1) d126_55 ?_
        refine q_iret d126_56 rfl ?_
        exact k _ (hR.items (by omega) f1) (f1.fr.c (fun a q ha e => by omega))
      · rw [oz_n ei] at k
        refine q_iload_n d126_0 rfl ?_
        refine q_s1 d126_1 (Or.inl rfl) rfl (Nat.le_of_ble_eq_true rfl) (c113t (by omega) ?_)
        refine n0_ne 10 d126_4 (by decide) (by decide) (fun _ => ?_) (fun q => absurd q (by decide))
        refine q_aload_n d126_10 rfl ?_
        refine q_getr (c := 7) (f := 6) d126_11 ⟨rfl, rfl⟩ (hS.1.1) (hS.1.2.2.2.2.2.2.2.2.1) ?_
        refine q_iload_n d126_14 rfl ?_
        refine n_aald d126_15 (hS.1.2.2.2.2.2.2.2.2.2.1) (by decide) (by omega) (by decide) ((hS.1.2.2.2.2.2.2.2.2.2.2.1) _ (by omega)) ?_
        refine q_astore d126_16 (by decide) rfl ?_
        refine q_aload d126_18 rfl ?_
        refine q_getv (c := 4) (f := 0) d126_20 ⟨rfl, by decide⟩ (hS.2.2.2.2.2.2.2.2.2.2.2.1 _ (by omega)).1 (hR.2.2.2 _ (by omega)).1 ?_
        refine q_iconst (x := (-1)) d126_23 rfl ?_
        refine ic_ne 30 d126_24 (by decide) (fun h24 => ?_) (fun h24 => (False.elim (hs h24)))
        refine q_iload_n d126_30 rfl ?_
        refine q_iconstN (z := 0) d126_31 ?_
        refine q_aload d126_32 rfl ?_
        refine q_getv (c := 4) (f := 1) d126_34 ⟨rfl, by decide⟩ (hS.2.2.2.2.2.2.2.2.2.2.2.1 _ (by omega)).1 (hR.2.2.2 _ (by omega)).2 ?_
        refine q_iconstN (z := 1) d126_37 ?_
        refine q_isub d126_38 ?_
        refine q_s3 d126_39 (Or.inl rfl) rfl (Nat.le_of_ble_eq_true rfl) (c10s (by omega) ?_)
        refine b0_ne 48 d126_42 (by decide) (fun h42 => absurd h42 (by rw [ei]; decide)) (fun h42 => ?_)
        refine q_bipush (x := (-12)) d126_45 rfl ?_
        refine q_iret d126_47 rfl ?_
        exact k _ hR (Fc.refl _)
  · rw [oz_n eh] at k
    refine q_iload_n d126_0 rfl ?_
    refine q_s1 d126_1 (Or.inl rfl) rfl (Nat.le_of_ble_eq_true rfl) (c113f eh ?_)
    refine n0_ne 10 d126_4 (by decide) (by decide) (fun q => absurd q (by decide)) (fun _ => ?_)
    refine q_bipush (x := (-2)) d126_7 rfl ?_
    refine q_iret d126_9 rfl ?_
    exact k _ hR (Fc.refl _)
theorem ycp_t {i j n : Int32} {a b : Nat} (h : ycp i j n a b = true) (ha : a < 2147483648) (hb : b < 2147483648) : ∃ x y v, i = nI x ∧ j = nI y ∧ n = nI v ∧ x + v ≤ a ∧ y + v ≤ b := by
  have h := of_decide_eq_true h
  have z : (0 : Int32).toInt = 0 := rfl
  obtain ⟨v, hv, rfl⟩ := nI_of (x := n) (by rw [Int32.lt_iff_toInt_lt]; omega)
  obtain ⟨x, hx, rfl⟩ := nI_of (x := i) (by rw [Int32.lt_iff_toInt_lt]; omega)
  obtain ⟨y, hy, rfl⟩ := nI_of (x := j) (by rw [Int32.lt_iff_toInt_lt]; omega)
  rw [nI_toInt hv, nI_toInt hx, nI_toInt hy] at h
  exact ⟨x, y, v, rfl, rfl, rfl, by omega, by omega⟩
theorem ycp_i {x v : Nat} {j : Int32} {a b : Nat} (h : x + v ≤ a) (hj : yhp j (nI v) b) (ha : a ≤ 40) (hb : b ≤ 40) : ycp (nI x) j (nI v) a b = true := by
  obtain ⟨y, w, rfl, e, h2⟩ := hj
  have e2 : v = w := nI_inj (by omega) (by omega) e
  subst e2
  refine decide_eq_true ?_
  rw [nI_toInt (by omega), nI_toInt (by omega), nI_toInt (by omega)]
  omega
theorem d127_0 : decode (zB 127) 0 = .ok (.iload_n 1, 1) := by decide +kernel
theorem d127_1 : decode (zB 127) 1 = .ok (.invokestatic 245, 3) := by decide +kernel
theorem d127_4 : decode (zB 127) 4 = .ok (.ifCond .eq 10, 3) := by decide +kernel
theorem d127_7 : decode (zB 127) 7 = .ok (.iload_n 3, 1) := by decide +kernel
theorem d127_8 : decode (zB 127) 8 = .ok (.invokestatic 245, 3) := by decide +kernel
theorem d127_11 : decode (zB 127) 11 = .ok (.ifCond .ne 6, 3) := by decide +kernel
theorem d127_14 : decode (zB 127) 14 = .ok (.bipush (-2), 2) := by decide +kernel
theorem d127_16 : decode (zB 127) 16 = .ok (.ireturn, 1) := by decide +kernel
theorem d127_17 : decode (zB 127) 17 = .ok (.aload_n 0, 1) := by decide +kernel
theorem d127_18 : decode (zB 127) 18 = .ok (.getfield 46, 3) := by decide +kernel
theorem d127_21 : decode (zB 127) 21 = .ok (.iload_n 1, 1) := by decide +kernel
theorem d127_22 : decode (zB 127) 22 = .ok (.aaload, 1) := by decide +kernel
theorem d127_23 : decode (zB 127) 23 = .ok (.astore 6, 2) := by decide +kernel
theorem d127_25 : decode (zB 127) 25 = .ok (.aload_n 0, 1) := by decide +kernel
theorem d127_26 : decode (zB 127) 26 = .ok (.getfield 46, 3) := by decide +kernel
theorem d127_29 : decode (zB 127) 29 = .ok (.iload_n 3, 1) := by decide +kernel
theorem d127_30 : decode (zB 127) 30 = .ok (.aaload, 1) := by decide +kernel
theorem d127_31 : decode (zB 127) 31 = .ok (.astore 7, 2) := by decide +kernel
theorem d127_33 : decode (zB 127) 33 = .ok (.aload 6, 2) := by decide +kernel
theorem d127_35 : decode (zB 127) 35 = .ok (.getfield 253, 3) := by decide +kernel
theorem d127_38 : decode (zB 127) 38 = .ok (.iconst (-1), 1) := by decide +kernel
theorem d127_39 : decode (zB 127) 39 = .ok (.if_icmp .eq 12, 3) := by decide +kernel
theorem d127_42 : decode (zB 127) 42 = .ok (.aload 7, 2) := by decide +kernel
theorem d127_44 : decode (zB 127) 44 = .ok (.getfield 253, 3) := by decide +kernel
theorem d127_47 : decode (zB 127) 47 = .ok (.iconst (-1), 1) := by decide +kernel
theorem d127_48 : decode (zB 127) 48 = .ok (.if_icmp .ne 6, 3) := by decide +kernel
theorem d127_51 : decode (zB 127) 51 = .ok (.bipush (-11), 2) := by decide +kernel
theorem d127_53 : decode (zB 127) 53 = .ok (.ireturn, 1) := by decide +kernel
theorem d127_54 : decode (zB 127) 54 = .ok (.aload 6, 2) := by decide +kernel
theorem d127_56 : decode (zB 127) 56 = .ok (.getfield 253, 3) := by decide +kernel
theorem d127_59 : decode (zB 127) 59 = .ok (.aload 7, 2) := by decide +kernel
theorem d127_61 : decode (zB 127) 61 = .ok (.getfield 253, 3) := by decide +kernel
theorem d127_64 : decode (zB 127) 64 = .ok (.if_icmp .eq 6, 3) := by decide +kernel
theorem d127_67 : decode (zB 127) 67 = .ok (.bipush (-13), 2) := by decide +kernel
theorem d127_69 : decode (zB 127) 69 = .ok (.ireturn, 1) := by decide +kernel
theorem d127_70 : decode (zB 127) 70 = .ok (.aload 6, 2) := by decide +kernel
theorem d127_72 : decode (zB 127) 72 = .ok (.iload_n 2, 1) := by decide +kernel
theorem d127_73 : decode (zB 127) 73 = .ok (.iload 5, 2) := by decide +kernel
theorem d127_75 : decode (zB 127) 75 = .ok (.invokevirtual 288, 3) := by decide +kernel
theorem d127_78 : decode (zB 127) 78 = .ok (.ifCond .eq 15, 3) := by decide +kernel
theorem d127_81 : decode (zB 127) 81 = .ok (.aload 7, 2) := by decide +kernel
theorem d127_83 : decode (zB 127) 83 = .ok (.iload 4, 2) := by decide +kernel
theorem d127_85 : decode (zB 127) 85 = .ok (.iload 5, 2) := by decide +kernel
theorem d127_87 : decode (zB 127) 87 = .ok (.invokevirtual 288, 3) := by decide +kernel
theorem d127_90 : decode (zB 127) 90 = .ok (.ifCond .ne 6, 3) := by decide +kernel
theorem d127_93 : decode (zB 127) 93 = .ok (.bipush (-12), 2) := by decide +kernel
theorem d127_95 : decode (zB 127) 95 = .ok (.ireturn, 1) := by decide +kernel
theorem d127_96 : decode (zB 127) 96 = .ok (.aload 6, 2) := by decide +kernel
theorem d127_98 : decode (zB 127) 98 = .ok (.getfield 291, 3) := by decide +kernel
theorem d127_101 : decode (zB 127) 101 = .ok (.iload_n 2, 1) := by decide +kernel
theorem d127_102 : decode (zB 127) 102 = .ok (.aload 7, 2) := by decide +kernel
theorem d127_104 : decode (zB 127) 104 = .ok (.getfield 291, 3) := by decide +kernel
theorem d127_107 : decode (zB 127) 107 = .ok (.iload 4, 2) := by decide +kernel
theorem d127_109 : decode (zB 127) 109 = .ok (.iload 5, 2) := by decide +kernel
theorem d127_111 : decode (zB 127) 111 = .ok (.invokestatic 294, 3) := by decide +kernel
theorem d127_114 : decode (zB 127) 114 = .ok (.iload 5, 2) := by decide +kernel
theorem d127_116 : decode (zB 127) 116 = .ok (.ireturn, 1) := by decide +kernel
theorem p127 {d : Nat} {M : zM} {Q : Option Value → zM → Prop} {D : yD} {x i y j n : Int32} (hR : RC M D) (hD : OKD D) (k : ∀ M', RC M' D → Fc M M' → Q (some (.int (sCopy D x i y j n))) M') : qC (d + 3) 127 [.ref 16, .int x, .int i, .int y, .int j, .int n] M Q := by
  refine qC_of (by decide) (Nat.le_of_ble_eq_true rfl) ?_
  have hS := hR.1.1
  have hT := hR.1.2.2.1
  have hO := hR.1.2.2.2.1
  have hRW := hR.1.2.2.2.2
  have hJ : RL M 62 (dL D) := hRW.2.2.2
  have hc6 := hO.1.1
  have h240 := hD.2.1
  have h120 := hR.2.2.1.1
  have hwr := hS.wo (Or.inl ⟨rfl, rfl, rfl, rfl⟩)
  have hwt := hS.wo (Or.inr ⟨rfl, rfl, rfl, rfl⟩)
  have hpr := hS.pu (Or.inl ⟨rfl, rfl, rfl, rfl⟩)
  have hpt := hS.pu (Or.inr ⟨rfl, rfl, rfl, rfl⟩)
  unfold sCopy at k
  rcases zix_c x (n := 4) (by omega) with ⟨h, hh, rfl, eh⟩ | ⟨eh, nh⟩
  · rw [oz_s eh] at k
    rcases zix_c y (n := 4) (by omega) with ⟨q, hq, rfl, eq⟩ | ⟨eq, nq⟩
    · rw [oz_s eq] at k
      have hzh := (hD.2.2.2.2 h hh).1
      have hzq := (hD.2.2.2.2 q hq).1
      by_cases hs : (dR D h).1 = -1
      · rw [if_pos (Or.inl hs)] at k
        refine q_iload_n d127_0 rfl ?_
        refine q_s1 d127_1 (Or.inl rfl) rfl (Nat.le_of_ble_eq_true rfl) (c113t (by omega) ?_)
        refine n0_eq 14 d127_4 (by decide) (by decide) (fun q => absurd q (by decide)) (fun _ => ?_)
        refine q_iload_n d127_7 rfl ?_
        refine q_s1 d127_8 (Or.inl rfl) rfl (Nat.le_of_ble_eq_true rfl) (c113t (by omega) ?_)
        refine n0_ne 17 d127_11 (by decide) (by decide) (fun _ => ?_) (fun q => absurd q (by decide))
        refine q_aload_n d127_17 rfl ?_
        refine q_getr (c := 7) (f := 6) d127_18 ⟨rfl, rfl⟩ (hS.1.1) (hS.1.2.2.2.2.2.2.2.2.1) ?_
        refine q_iload_n d127_21 rfl ?_
        refine n_aald d127_22 (hS.1.2.2.2.2.2.2.2.2.2.1) (by decide) (by omega) (by decide) ((hS.1.2.2.2.2.2.2.2.2.2.2.1) _ (by omega)) ?_
        refine q_astore d127_23 (by decide) rfl ?_
        refine q_aload_n d127_25 rfl ?_
        refine q_getr (c := 7) (f := 6) d127_26 ⟨rfl, rfl⟩ (hS.1.1) (hS.1.2.2.2.2.2.2.2.2.1) ?_
        refine q_iload_n d127_29 rfl ?_
        refine n_aald d127_30 (hS.1.2.2.2.2.2.2.2.2.2.1) (by decide) (by omega) (by decide) ((hS.1.2.2.2.2.2.2.2.2.2.2.1) _ (by omega)) ?_
        refine q_astore d127_31 (by decide) rfl ?_
        refine q_aload d127_33 rfl ?_
        refine q_getv (c := 4) (f := 0) d127_35 ⟨rfl, by decide⟩ (hS.2.2.2.2.2.2.2.2.2.2.2.1 _ (by omega)).1 (hR.2.2.2 _ (by omega)).1 ?_
        refine q_iconst (x := (-1)) d127_38 rfl ?_
        refine ic_eq 51 d127_39 (by decide) (fun h39 => ?_) (fun h39 => (False.elim (h39 hs)))
        refine q_bipush (x := (-11)) d127_51 rfl ?_
        refine q_iret d127_53 rfl ?_
        exact k _ hR (Fc.refl _)
      · by_cases ht : (dR D q).1 = -1
        · rw [if_pos (Or.inr ht)] at k
          refine q_iload_n d127_0 rfl ?_
          refine q_s1 d127_1 (Or.inl rfl) rfl (Nat.le_of_ble_eq_true rfl) (c113t (by omega) ?_)
          refine n0_eq 14 d127_4 (by decide) (by decide) (fun q => absurd q (by decide)) (fun _ => ?_)
          refine q_iload_n d127_7 rfl ?_
          refine q_s1 d127_8 (Or.inl rfl) rfl (Nat.le_of_ble_eq_true rfl) (c113t (by omega) ?_)
          refine n0_ne 17 d127_11 (by decide) (by decide) (fun _ => ?_) (fun q => absurd q (by decide))
          refine q_aload_n d127_17 rfl ?_
          refine q_getr (c := 7) (f := 6) d127_18 ⟨rfl, rfl⟩ (hS.1.1) (hS.1.2.2.2.2.2.2.2.2.1) ?_
          refine q_iload_n d127_21 rfl ?_
          refine n_aald d127_22 (hS.1.2.2.2.2.2.2.2.2.2.1) (by decide) (by omega) (by decide) ((hS.1.2.2.2.2.2.2.2.2.2.2.1) _ (by omega)) ?_
          refine q_astore d127_23 (by decide) rfl ?_
          refine q_aload_n d127_25 rfl ?_
          refine q_getr (c := 7) (f := 6) d127_26 ⟨rfl, rfl⟩ (hS.1.1) (hS.1.2.2.2.2.2.2.2.2.1) ?_
          refine q_iload_n d127_29 rfl ?_
          refine n_aald d127_30 (hS.1.2.2.2.2.2.2.2.2.2.1) (by decide) (by omega) (by decide) ((hS.1.2.2.2.2.2.2.2.2.2.2.1) _ (by omega)) ?_
          refine q_astore d127_31 (by decide) rfl ?_
          refine q_aload d127_33 rfl ?_
          refine q_getv (c := 4) (f := 0) d127_35 ⟨rfl, by decide⟩ (hS.2.2.2.2.2.2.2.2.2.2.2.1 _ (by omega)).1 (hR.2.2.2 _ (by omega)).1 ?_
          refine q_iconst (x := (-1)) d127_38 rfl ?_
          refine ic_eq 51 d127_39 (by decide) (fun h39 => (False.elim (hs h39))) (fun h39 => ?_)
          refine q_aload d127_42 rfl ?_
          refine q_getv (c := 4) (f := 0) d127_44 ⟨rfl, by decide⟩ (hS.2.2.2.2.2.2.2.2.2.2.2.1 _ (by omega)).1 (hR.2.2.2 _ (by omega)).1 ?_
          refine q_iconst (x := (-1)) d127_47 rfl ?_
          refine ic_ne 54 d127_48 (by decide) (fun h48 => (False.elim (h48 ht))) (fun h48 => ?_)
          refine q_bipush (x := (-11)) d127_51 rfl ?_
          refine q_iret d127_53 rfl ?_
          exact k _ hR (Fc.refl _)
        · rw [if_neg (fun e => by rcases e with e | e; exact hs e; exact ht e)] at k
          by_cases hu : (dR D h).1 = (dR D q).1
          · rw [if_neg (fun e => e hu)] at k
            by_cases hc : ycp i j n (dR D h).2 (dR D q).2 = true
            · rw [if_pos hc] at k
              obtain ⟨a, b, v, rfl, rfl, rfl, hca, hcb⟩ := ycp_t hc (by omega) (by omega)
              refine q_iload_n d127_0 rfl ?_
              refine q_s1 d127_1 (Or.inl rfl) rfl (Nat.le_of_ble_eq_true rfl) (c113t (by omega) ?_)
              refine n0_eq 14 d127_4 (by decide) (by decide) (fun q => absurd q (by decide)) (fun _ => ?_)
              refine q_iload_n d127_7 rfl ?_
              refine q_s1 d127_8 (Or.inl rfl) rfl (Nat.le_of_ble_eq_true rfl) (c113t (by omega) ?_)
              refine n0_ne 17 d127_11 (by decide) (by decide) (fun _ => ?_) (fun q => absurd q (by decide))
              refine q_aload_n d127_17 rfl ?_
              refine q_getr (c := 7) (f := 6) d127_18 ⟨rfl, rfl⟩ (hS.1.1) (hS.1.2.2.2.2.2.2.2.2.1) ?_
              refine q_iload_n d127_21 rfl ?_
              refine n_aald d127_22 (hS.1.2.2.2.2.2.2.2.2.2.1) (by decide) (by omega) (by decide) ((hS.1.2.2.2.2.2.2.2.2.2.2.1) _ (by omega)) ?_
              refine q_astore d127_23 (by decide) rfl ?_
              refine q_aload_n d127_25 rfl ?_
              refine q_getr (c := 7) (f := 6) d127_26 ⟨rfl, rfl⟩ (hS.1.1) (hS.1.2.2.2.2.2.2.2.2.1) ?_
              refine q_iload_n d127_29 rfl ?_
              refine n_aald d127_30 (hS.1.2.2.2.2.2.2.2.2.2.1) (by decide) (by omega) (by decide) ((hS.1.2.2.2.2.2.2.2.2.2.2.1) _ (by omega)) ?_
              refine q_astore d127_31 (by decide) rfl ?_
              refine q_aload d127_33 rfl ?_
              refine q_getv (c := 4) (f := 0) d127_35 ⟨rfl, by decide⟩ (hS.2.2.2.2.2.2.2.2.2.2.2.1 _ (by omega)).1 (hR.2.2.2 _ (by omega)).1 ?_
              refine q_iconst (x := (-1)) d127_38 rfl ?_
              refine ic_eq 51 d127_39 (by decide) (fun h39 => (False.elim (hs h39))) (fun h39 => ?_)
              refine q_aload d127_42 rfl ?_
              refine q_getv (c := 4) (f := 0) d127_44 ⟨rfl, by decide⟩ (hS.2.2.2.2.2.2.2.2.2.2.2.1 _ (by omega)).1 (hR.2.2.2 _ (by omega)).1 ?_
              refine q_iconst (x := (-1)) d127_47 rfl ?_
              refine ic_ne 54 d127_48 (by decide) (fun h48 => ?_) (fun h48 => (False.elim (ht h48)))
              refine q_aload d127_54 rfl ?_
              refine q_getv (c := 4) (f := 0) d127_56 ⟨rfl, by decide⟩ (hS.2.2.2.2.2.2.2.2.2.2.2.1 _ (by omega)).1 (hR.2.2.2 _ (by omega)).1 ?_
              refine q_aload d127_59 rfl ?_
              refine q_getv (c := 4) (f := 0) d127_61 ⟨rfl, by decide⟩ (hS.2.2.2.2.2.2.2.2.2.2.2.1 _ (by omega)).1 (hR.2.2.2 _ (by omega)).1 ?_
              refine ic_eq 70 d127_64 (by decide) (fun h64 => ?_) (fun h64 => (False.elim (h64 hu)))
              refine q_aload d127_70 rfl ?_
              refine q_iload_n d127_72 rfl ?_
              refine q_iload d127_73 rfl ?_
              refine q_v2 d127_75 rfl rfl (hS.2.2.2.2.2.2.2.2.2.2.2.1 _ (by omega)).1 (Nat.le_of_ble_eq_true rfl) (c128t (hS.2.2.2.2.2.2.2.2.2.2.2.1 h (by omega)) (hR.2.2.2 h (by omega)).2 hzh hca ?_)
              refine n0_eq 93 d127_78 (by decide) (by decide) (fun q => absurd q (by decide)) (fun _ => ?_)
              refine q_aload d127_81 rfl ?_
              refine q_iload d127_83 rfl ?_
              refine q_iload d127_85 rfl ?_
              refine q_v2 d127_87 rfl rfl (hS.2.2.2.2.2.2.2.2.2.2.2.1 _ (by omega)).1 (Nat.le_of_ble_eq_true rfl) (c128t (hS.2.2.2.2.2.2.2.2.2.2.2.1 q (by omega)) (hR.2.2.2 q (by omega)).2 hzq hcb ?_)
              refine n0_ne 96 d127_90 (by decide) (by decide) (fun _ => ?_) (fun q => absurd q (by decide))
              refine q_aload d127_96 rfl ?_
              refine q_getr (c := 4) (f := 2) d127_98 ⟨rfl, rfl⟩ (hS.2.2.2.2.2.2.2.2.2.2.2.1 _ (by omega)).1 (hS.2.2.2.2.2.2.2.2.2.2.2.1 _ (by omega)).2.1 ?_
              refine q_iload_n d127_101 rfl ?_
              refine q_aload d127_102 rfl ?_
              refine q_getr (c := 4) (f := 2) d127_104 ⟨rfl, rfl⟩ (hS.2.2.2.2.2.2.2.2.2.2.2.1 _ (by omega)).1 (hS.2.2.2.2.2.2.2.2.2.2.2.1 _ (by omega)).2.1 ?_
              refine q_iload d127_107 rfl ?_
              refine q_iload d127_109 rfl ?_
              refine n_copy d127_111 rfl (hS.2.2.2.2.2.2.2.2.2.2.2.1 _ (by omega)).2.2 (hS.2.2.2.2.2.2.2.2.2.2.2.1 _ (by omega)).2.2 (by decide) (by decide) (by omega) (by omega) (Nat.le_of_ble_eq_true rfl) ?_
              refine q_iload d127_114 rfl ?_
              refine q_iret d127_116 rfl ?_
              have f1 : Fi (fun a _ => a = 127 + 2 * q + 1) M (zcp M (127 + 2 * h + 1) a (127 + 2 * q + 1) b v) := (Fi.refl _ _).cp (fun _ _ _ => rfl)
              exact k _ (hR.items (by omega) f1) (f1.fr.c (fun a q ha e => by omega))
            · rw [if_neg hc] at k
              by_cases hp : yhp i n (dR D h).2
              · obtain ⟨a, v, rfl, rfl, hca⟩ := hp
                refine q_iload_n d127_0 rfl ?_
                refine q_s1 d127_1 (Or.inl rfl) rfl (Nat.le_of_ble_eq_true rfl) (c113t (by omega) ?_)
                refine n0_eq 14 d127_4 (by decide) (by decide) (fun q => absurd q (by decide)) (fun _ => ?_)
                refine q_iload_n d127_7 rfl ?_
                refine q_s1 d127_8 (Or.inl rfl) rfl (Nat.le_of_ble_eq_true rfl) (c113t (by omega) ?_)
                refine n0_ne 17 d127_11 (by decide) (by decide) (fun _ => ?_) (fun q => absurd q (by decide))
                refine q_aload_n d127_17 rfl ?_
                refine q_getr (c := 7) (f := 6) d127_18 ⟨rfl, rfl⟩ (hS.1.1) (hS.1.2.2.2.2.2.2.2.2.1) ?_
                refine q_iload_n d127_21 rfl ?_
                refine n_aald d127_22 (hS.1.2.2.2.2.2.2.2.2.2.1) (by decide) (by omega) (by decide) ((hS.1.2.2.2.2.2.2.2.2.2.2.1) _ (by omega)) ?_
                refine q_astore d127_23 (by decide) rfl ?_
                refine q_aload_n d127_25 rfl ?_
                refine q_getr (c := 7) (f := 6) d127_26 ⟨rfl, rfl⟩ (hS.1.1) (hS.1.2.2.2.2.2.2.2.2.1) ?_
                refine q_iload_n d127_29 rfl ?_
                refine n_aald d127_30 (hS.1.2.2.2.2.2.2.2.2.2.1) (by decide) (by omega) (by decide) ((hS.1.2.2.2.2.2.2.2.2.2.2.1) _ (by omega)) ?_
                refine q_astore d127_31 (by decide) rfl ?_
                refine q_aload d127_33 rfl ?_
                refine q_getv (c := 4) (f := 0) d127_35 ⟨rfl, by decide⟩ (hS.2.2.2.2.2.2.2.2.2.2.2.1 _ (by omega)).1 (hR.2.2.2 _ (by omega)).1 ?_
                refine q_iconst (x := (-1)) d127_38 rfl ?_
                refine ic_eq 51 d127_39 (by decide) (fun h39 => (False.elim (hs h39))) (fun h39 => ?_)
                refine q_aload d127_42 rfl ?_
                refine q_getv (c := 4) (f := 0) d127_44 ⟨rfl, by decide⟩ (hS.2.2.2.2.2.2.2.2.2.2.2.1 _ (by omega)).1 (hR.2.2.2 _ (by omega)).1 ?_
                refine q_iconst (x := (-1)) d127_47 rfl ?_
                refine ic_ne 54 d127_48 (by decide) (fun h48 => ?_) (fun h48 => (False.elim (ht h48)))
                refine q_aload d127_54 rfl ?_
                refine q_getv (c := 4) (f := 0) d127_56 ⟨rfl, by decide⟩ (hS.2.2.2.2.2.2.2.2.2.2.2.1 _ (by omega)).1 (hR.2.2.2 _ (by omega)).1 ?_
                refine q_aload d127_59 rfl ?_
                refine q_getv (c := 4) (f := 0) d127_61 ⟨rfl, by decide⟩ (hS.2.2.2.2.2.2.2.2.2.2.2.1 _ (by omega)).1 (hR.2.2.2 _ (by omega)).1 ?_
                refine ic_eq 70 d127_64 (by decide) (fun h64 => ?_) (fun h64 => (False.elim (h64 hu)))
                refine q_aload d127_70 rfl ?_
                refine q_iload_n d127_72 rfl ?_
                refine q_iload d127_73 rfl ?_
                refine q_v2 d127_75 rfl rfl (hS.2.2.2.2.2.2.2.2.2.2.2.1 _ (by omega)).1 (Nat.le_of_ble_eq_true rfl) (c128t (hS.2.2.2.2.2.2.2.2.2.2.2.1 h (by omega)) (hR.2.2.2 h (by omega)).2 hzh hca ?_)
                refine n0_eq 93 d127_78 (by decide) (by decide) (fun q => absurd q (by decide)) (fun _ => ?_)
                refine q_aload d127_81 rfl ?_
                refine q_iload d127_83 rfl ?_
                refine q_iload d127_85 rfl ?_
                refine q_v2 d127_87 rfl rfl (hS.2.2.2.2.2.2.2.2.2.2.2.1 _ (by omega)).1 (Nat.le_of_ble_eq_true rfl) (c128f (hS.2.2.2.2.2.2.2.2.2.2.2.1 q (by omega)) (hR.2.2.2 q (by omega)).2 hzq (fun e => hc (ycp_i hca e hzh hzq)) ?_)
                refine n0_ne 96 d127_90 (by decide) (by decide) (fun q => absurd q (by decide)) (fun _ => ?_)
                refine q_bipush (x := (-12)) d127_93 rfl ?_
                refine q_iret d127_95 rfl ?_
                exact k _ hR (Fc.refl _)
              · skip
                refine q_iload_n d127_0 rfl ?_
                refine q_s1 d127_1 (Or.inl rfl) rfl (Nat.le_of_ble_eq_true rfl) (c113t (by omega) ?_)
                refine n0_eq 14 d127_4 (by decide) (by decide) (fun q => absurd q (by decide)) (fun _ => ?_)
                refine q_iload_n d127_7 rfl ?_
                refine q_s1 d127_8 (Or.inl rfl) rfl (Nat.le_of_ble_eq_true rfl) (c113t (by omega) ?_)
                refine n0_ne 17 d127_11 (by decide) (by decide) (fun _ => ?_) (fun q => absurd q (by decide))
                refine q_aload_n d127_17 rfl ?_
                refine q_getr (c := 7) (f := 6) d127_18 ⟨rfl, rfl⟩ (hS.1.1) (hS.1.2.2.2.2.2.2.2.2.1) ?_
                refine q_iload_n d127_21 rfl ?_
                refine n_aald d127_22 (hS.1.2.2.2.2.2.2.2.2.2.1) (by decide) (by omega) (by decide) ((hS.1.2.2.2.2.2.2.2.2.2.2.1) _ (by omega)) ?_
                refine q_astore d127_23 (by decide) rfl ?_
                refine q_aload_n d127_25 rfl ?_
                refine q_getr (c := 7) (f := 6) d127_26 ⟨rfl, rfl⟩ (hS.1.1) (hS.1.2.2.2.2.2.2.2.2.1) ?_
                refine q_iload_n d127_29 rfl ?_
                refine n_aald d127_30 (hS.1.2.2.2.2.2.2.2.2.2.1) (by decide) (by omega) (by decide) ((hS.1.2.2.2.2.2.2.2.2.2.2.1) _ (by omega)) ?_
                refine q_astore d127_31 (by decide) rfl ?_
                refine q_aload d127_33 rfl ?_
                refine q_getv (c := 4) (f := 0) d127_35 ⟨rfl, by decide⟩ (hS.2.2.2.2.2.2.2.2.2.2.2.1 _ (by omega)).1 (hR.2.2.2 _ (by omega)).1 ?_
                refine q_iconst (x := (-1)) d127_38 rfl ?_
                refine ic_eq 51 d127_39 (by decide) (fun h39 => (False.elim (hs h39))) (fun h39 => ?_)
                refine q_aload d127_42 rfl ?_
                refine q_getv (c := 4) (f := 0) d127_44 ⟨rfl, by decide⟩ (hS.2.2.2.2.2.2.2.2.2.2.2.1 _ (by omega)).1 (hR.2.2.2 _ (by omega)).1 ?_
                refine q_iconst (x := (-1)) d127_47 rfl ?_
                refine ic_ne 54 d127_48 (by decide) (fun h48 => ?_) (fun h48 => (False.elim (ht h48)))
                refine q_aload d127_54 rfl ?_
                refine q_getv (c := 4) (f := 0) d127_56 ⟨rfl, by decide⟩ (hS.2.2.2.2.2.2.2.2.2.2.2.1 _ (by omega)).1 (hR.2.2.2 _ (by omega)).1 ?_
                refine q_aload d127_59 rfl ?_
                refine q_getv (c := 4) (f := 0) d127_61 ⟨rfl, by decide⟩ (hS.2.2.2.2.2.2.2.2.2.2.2.1 _ (by omega)).1 (hR.2.2.2 _ (by omega)).1 ?_
                refine ic_eq 70 d127_64 (by decide) (fun h64 => ?_) (fun h64 => (False.elim (h64 hu)))
                refine q_aload d127_70 rfl ?_
                refine q_iload_n d127_72 rfl ?_
                refine q_iload d127_73 rfl ?_
                refine q_v2 d127_75 rfl rfl (hS.2.2.2.2.2.2.2.2.2.2.2.1 _ (by omega)).1 (Nat.le_of_ble_eq_true rfl) (c128f (hS.2.2.2.2.2.2.2.2.2.2.2.1 h (by omega)) (hR.2.2.2 h (by omega)).2 hzh hp ?_)
                refine n0_eq 93 d127_78 (by decide) (by decide) (fun _ => ?_) (fun q => absurd q (by decide))
                refine q_bipush (x := (-12)) d127_93 rfl ?_
                refine q_iret d127_95 rfl ?_
                exact k _ hR (Fc.refl _)
          · rw [if_pos hu] at k
            refine q_iload_n d127_0 rfl ?_
            refine q_s1 d127_1 (Or.inl rfl) rfl (Nat.le_of_ble_eq_true rfl) (c113t (by omega) ?_)
            refine n0_eq 14 d127_4 (by decide) (by decide) (fun q => absurd q (by decide)) (fun _ => ?_)
            refine q_iload_n d127_7 rfl ?_
            refine q_s1 d127_8 (Or.inl rfl) rfl (Nat.le_of_ble_eq_true rfl) (c113t (by omega) ?_)
            refine n0_ne 17 d127_11 (by decide) (by decide) (fun _ => ?_) (fun q => absurd q (by decide))
            refine q_aload_n d127_17 rfl ?_
            refine q_getr (c := 7) (f := 6) d127_18 ⟨rfl, rfl⟩ (hS.1.1) (hS.1.2.2.2.2.2.2.2.2.1) ?_
            refine q_iload_n d127_21 rfl ?_
            refine n_aald d127_22 (hS.1.2.2.2.2.2.2.2.2.2.1) (by decide) (by omega) (by decide) ((hS.1.2.2.2.2.2.2.2.2.2.2.1) _ (by omega)) ?_
            refine q_astore d127_23 (by decide) rfl ?_
            refine q_aload_n d127_25 rfl ?_
            refine q_getr (c := 7) (f := 6) d127_26 ⟨rfl, rfl⟩ (hS.1.1) (hS.1.2.2.2.2.2.2.2.2.1) ?_
            refine q_iload_n d127_29 rfl ?_
            refine n_aald d127_30 (hS.1.2.2.2.2.2.2.2.2.2.1) (by decide) (by omega) (by decide) ((hS.1.2.2.2.2.2.2.2.2.2.2.1) _ (by omega)) ?_
            refine q_astore d127_31 (by decide) rfl ?_
            refine q_aload d127_33 rfl ?_
            refine q_getv (c := 4) (f := 0) d127_35 ⟨rfl, by decide⟩ (hS.2.2.2.2.2.2.2.2.2.2.2.1 _ (by omega)).1 (hR.2.2.2 _ (by omega)).1 ?_
            refine q_iconst (x := (-1)) d127_38 rfl ?_
            refine ic_eq 51 d127_39 (by decide) (fun h39 => (False.elim (hs h39))) (fun h39 => ?_)
            refine q_aload d127_42 rfl ?_
            refine q_getv (c := 4) (f := 0) d127_44 ⟨rfl, by decide⟩ (hS.2.2.2.2.2.2.2.2.2.2.2.1 _ (by omega)).1 (hR.2.2.2 _ (by omega)).1 ?_
            refine q_iconst (x := (-1)) d127_47 rfl ?_
            refine ic_ne 54 d127_48 (by decide) (fun h48 => ?_) (fun h48 => (False.elim (ht h48)))
            refine q_aload d127_54 rfl ?_
            refine q_getv (c := 4) (f := 0) d127_56 ⟨rfl, by decide⟩ (hS.2.2.2.2.2.2.2.2.2.2.2.1 _ (by omega)).1 (hR.2.2.2 _ (by omega)).1 ?_
            refine q_aload d127_59 rfl ?_
            refine q_getv (c := 4) (f := 0) d127_61 ⟨rfl, by decide⟩ (hS.2.2.2.2.2.2.2.2.2.2.2.1 _ (by omega)).1 (hR.2.2.2 _ (by omega)).1 ?_
            refine ic_eq 70 d127_64 (by decide) (fun h64 => (False.elim (hu h64))) (fun h64 => ?_)
            refine q_bipush (x := (-13)) d127_67 rfl ?_
            refine q_iret d127_69 rfl ?_
            exact k _ hR (Fc.refl _)
    · rw [oz_n eq] at k
      refine q_iload_n d127_0 rfl ?_
      refine q_s1 d127_1 (Or.inl rfl) rfl (Nat.le_of_ble_eq_true rfl) (c113t (by omega) ?_)
      refine n0_eq 14 d127_4 (by decide) (by decide) (fun q => absurd q (by decide)) (fun _ => ?_)
      refine q_iload_n d127_7 rfl ?_
      refine q_s1 d127_8 (Or.inl rfl) rfl (Nat.le_of_ble_eq_true rfl) (c113f eq ?_)
      refine n0_ne 17 d127_11 (by decide) (by decide) (fun q => absurd q (by decide)) (fun _ => ?_)
      refine q_bipush (x := (-2)) d127_14 rfl ?_
      refine q_iret d127_16 rfl ?_
      exact k _ hR (Fc.refl _)
  · rw [oz_n eh] at k
    refine q_iload_n d127_0 rfl ?_
    refine q_s1 d127_1 (Or.inl rfl) rfl (Nat.le_of_ble_eq_true rfl) (c113f eh ?_)
    refine n0_eq 14 d127_4 (by decide) (by decide) (fun _ => ?_) (fun q => absurd q (by decide))
    refine q_bipush (x := (-2)) d127_14 rfl ?_
    refine q_iret d127_16 rfl ?_
    exact k _ hR (Fc.refl _)
theorem d54_0 : decode (zB 54) 0 = .ok (.aload_n 0, 1) := by decide +kernel
theorem d54_1 : decode (zB 54) 1 = .ok (.iload_n 1, 1) := by decide +kernel
theorem d54_2 : decode (zB 54) 2 = .ok (.invokevirtual 77, 3) := by decide +kernel
theorem d54_5 : decode (zB 54) 5 = .ok (.ifCond .eq 19, 3) := by decide +kernel
theorem d54_8 : decode (zB 54) 8 = .ok (.aload_n 0, 1) := by decide +kernel
theorem d54_9 : decode (zB 54) 9 = .ok (.getfield 18, 3) := by decide +kernel
theorem d54_12 : decode (zB 54) 12 = .ok (.iload_n 1, 1) := by decide +kernel
theorem d54_13 : decode (zB 54) 13 = .ok (.aaload, 1) := by decide +kernel
theorem d54_14 : decode (zB 54) 14 = .ok (.aload_n 0, 1) := by decide +kernel
theorem d54_15 : decode (zB 54) 15 = .ok (.getfield 51, 3) := by decide +kernel
theorem d54_18 : decode (zB 54) 18 = .ok (.invokevirtual 108, 3) := by decide +kernel
theorem d54_21 : decode (zB 54) 21 = .ok (.goto 6, 3) := by decide +kernel
theorem d54_24 : decode (zB 54) 24 = .ok (.ldc2_w 112, 3) := by decide +kernel
theorem d54_27 : decode (zB 54) 27 = .ok (.lreturn, 1) := by decide +kernel
theorem p54 {d : Nat} {M : zM} {Q : Option Value → zM → Prop} {D : yD} {x : Int32} (hR : RC M D) (hD : OKD D) (k : ∀ M', RC M' D → Fc M M' → Q (some (.long (sOrders D x))) M') : qC (d + 4) 54 [.ref 16, .int x] M Q := by
  refine qC_of (by decide) (Nat.le_of_ble_eq_true rfl) ?_
  have hS := hR.1.1
  have hT := hR.1.2.2.1
  have hO := hR.1.2.2.2.1
  have hRW := hR.1.2.2.2.2
  have hJ : RL M 62 (dL D) := hRW.2.2.2
  have hc6 := hO.1.1
  have h240 := hD.2.1
  have h120 := hR.2.2.1.1
  have hwr := hS.wo (Or.inl ⟨rfl, rfl, rfl, rfl⟩)
  have hwt := hS.wo (Or.inr ⟨rfl, rfl, rfl, rfl⟩)
  have hpr := hS.pu (Or.inl ⟨rfl, rfl, rfl, rfl⟩)
  have hpt := hS.pu (Or.inr ⟨rfl, rfl, rfl, rfl⟩)
  unfold sOrders at k
  rcases zix_c x (n := dc D) (by omega) with ⟨t, ht, rfl, et⟩ | ⟨et, nt⟩
  · rw [oz_s et] at k
    have ho := hO.1.2 _ ht
    have hn := ho.n
    refine q_aload_n d54_0 rfl ?_
    refine q_iload_n d54_1 rfl ?_
    refine q_v1 d54_2 rfl rfl (hS.1.1) (Nat.le_of_ble_eq_true rfl) (c33t hR (by omega) ?_)
    refine n0_eq 24 d54_5 (by decide) (by decide) (fun q => absurd q (by decide)) (fun _ => ?_)
    refine q_aload_n d54_8 rfl ?_
    refine q_getr (c := 7) (f := 1) d54_9 ⟨rfl, rfl⟩ (hS.1.1) (hS.1.2.2.1) ?_
    refine q_iload_n d54_12 rfl ?_
    refine n_aald d54_13 (hS.1.2.2.2.1) (by decide) (by omega) (by decide) ((hS.1.2.2.2.2.1) _ (by omega)) ?_
    refine q_aload_n d54_14 rfl ?_
    refine q_getr (c := 7) (f := 7) d54_15 ⟨rfl, rfl⟩ (hS.1.1) (hS.1.2.2.2.2.2.2.2.2.2.2.2.1) ?_
    refine q_v1 d54_18 rfl rfl (hS.pr (by omega)).1 (Nat.le_of_ble_eq_true rfl) (c55 (hS.pr (by omega)) (hT _ (by omega)) ho (hS.1.2.2.2.2.2.2.2.2.2.2.2.2) (fun M1 f1 => ?_))
    refine q_goto 27 d54_21 (by decide) ?_
    refine q_lret d54_27 rfl ?_
    exact k _ (hR.lng f1) f1.c
  · rw [oz_n et] at k
    refine q_aload_n d54_0 rfl ?_
    refine q_iload_n d54_1 rfl ?_
    refine q_v1 d54_2 rfl rfl (hS.1.1) (Nat.le_of_ble_eq_true rfl) (c33f hR et ?_)
    refine n0_eq 24 d54_5 (by decide) (by decide) (fun _ => ?_) (fun q => absurd q (by decide))
    refine q_ldc2_w d54_24 rfl ?_
    refine q_lret d54_27 rfl ?_
    exact k _ hR (Fc.refl _)
theorem d32_0 : decode (zB 32) 0 = .ok (.aload_n 0, 1) := by decide +kernel
theorem d32_1 : decode (zB 32) 1 = .ok (.iload_n 1, 1) := by decide +kernel
theorem d32_2 : decode (zB 32) 2 = .ok (.invokevirtual 77, 3) := by decide +kernel
theorem d32_5 : decode (zB 32) 5 = .ok (.ifCond .ne 6, 3) := by decide +kernel
theorem d32_8 : decode (zB 32) 8 = .ok (.bipush (-2), 2) := by decide +kernel
theorem d32_10 : decode (zB 32) 10 = .ok (.ireturn, 1) := by decide +kernel
theorem d32_11 : decode (zB 32) 11 = .ok (.aload_n 0, 1) := by decide +kernel
theorem d32_12 : decode (zB 32) 12 = .ok (.getfield 18, 3) := by decide +kernel
theorem d32_15 : decode (zB 32) 15 = .ok (.iload_n 1, 1) := by decide +kernel
theorem d32_16 : decode (zB 32) 16 = .ok (.aaload, 1) := by decide +kernel
theorem d32_17 : decode (zB 32) 17 = .ok (.astore_n 3, 1) := by decide +kernel
theorem d32_18 : decode (zB 32) 18 = .ok (.iload_n 2, 1) := by decide +kernel
theorem d32_19 : decode (zB 32) 19 = .ok (.tableswitch 93 0 5 #[37, 42, 47, 52, 57, 62], 37) := by decide +kernel
theorem d32_56 : decode (zB 32) 56 = .ok (.aload_n 3, 1) := by decide +kernel
theorem d32_57 : decode (zB 32) 57 = .ok (.getfield 80, 3) := by decide +kernel
theorem d32_60 : decode (zB 32) 60 = .ok (.ireturn, 1) := by decide +kernel
theorem d32_61 : decode (zB 32) 61 = .ok (.aload_n 3, 1) := by decide +kernel
theorem d32_62 : decode (zB 32) 62 = .ok (.invokevirtual 81, 3) := by decide +kernel
theorem d32_65 : decode (zB 32) 65 = .ok (.ireturn, 1) := by decide +kernel
theorem d32_66 : decode (zB 32) 66 = .ok (.aload_n 3, 1) := by decide +kernel
theorem d32_67 : decode (zB 32) 67 = .ok (.invokevirtual 85, 3) := by decide +kernel
theorem d32_70 : decode (zB 32) 70 = .ok (.ireturn, 1) := by decide +kernel
theorem d32_71 : decode (zB 32) 71 = .ok (.aload_n 3, 1) := by decide +kernel
theorem d32_72 : decode (zB 32) 72 = .ok (.invokevirtual 88, 3) := by decide +kernel
theorem d32_75 : decode (zB 32) 75 = .ok (.ireturn, 1) := by decide +kernel
theorem d32_76 : decode (zB 32) 76 = .ok (.aload_n 3, 1) := by decide +kernel
theorem d32_77 : decode (zB 32) 77 = .ok (.getfield 91, 3) := by decide +kernel
theorem d32_80 : decode (zB 32) 80 = .ok (.ireturn, 1) := by decide +kernel
theorem d32_81 : decode (zB 32) 81 = .ok (.aload_n 0, 1) := by decide +kernel
theorem d32_82 : decode (zB 32) 82 = .ok (.getfield 41, 3) := by decide +kernel
theorem d32_85 : decode (zB 32) 85 = .ok (.getfield 94, 3) := by decide +kernel
theorem d32_88 : decode (zB 32) 88 = .ok (.aload_n 0, 1) := by decide +kernel
theorem d32_89 : decode (zB 32) 89 = .ok (.getfield 37, 3) := by decide +kernel
theorem d32_92 : decode (zB 32) 92 = .ok (.getfield 94, 3) := by decide +kernel
theorem d32_95 : decode (zB 32) 95 = .ok (.invokevirtual 98, 3) := by decide +kernel
theorem d32_98 : decode (zB 32) 98 = .ok (.aload_n 3, 1) := by decide +kernel
theorem d32_99 : decode (zB 32) 99 = .ok (.aload_n 0, 1) := by decide +kernel
theorem d32_100 : decode (zB 32) 100 = .ok (.getfield 41, 3) := by decide +kernel
theorem d32_103 : decode (zB 32) 103 = .ok (.getfield 94, 3) := by decide +kernel
theorem d32_106 : decode (zB 32) 106 = .ok (.iconst 0, 1) := by decide +kernel
theorem d32_107 : decode (zB 32) 107 = .ok (.iconst 0, 1) := by decide +kernel
theorem d32_108 : decode (zB 32) 108 = .ok (.invokestatic 104, 3) := by decide +kernel
theorem d32_111 : decode (zB 32) 111 = .ok (.ireturn, 1) := by decide +kernel
theorem d32_112 : decode (zB 32) 112 = .ok (.bipush (-2), 2) := by decide +kernel
theorem d32_114 : decode (zB 32) 114 = .ok (.ireturn, 1) := by decide +kernel
theorem p32 {d : Nat} {M : zM} {Q : Option Value → zM → Prop} {D : yD} {x z : Int32} (hR : RC M D) (hD : OKD D) (k : ∀ M', RC M' D → Fc M M' → Q (some (.int (sShape D x z))) M') : qC (d + 17) 32 [.ref 16, .int x, .int z] M Q := by
  refine qC_of (by decide) (Nat.le_of_ble_eq_true rfl) ?_
  have hS := hR.1.1
  have hT := hR.1.2.2.1
  have hO := hR.1.2.2.2.1
  have hRW := hR.1.2.2.2.2
  have hJ : RL M 62 (dL D) := hRW.2.2.2
  have hc6 := hO.1.1
  have h240 := hD.2.1
  have h120 := hR.2.2.1.1
  have hwr := hS.wo (Or.inl ⟨rfl, rfl, rfl, rfl⟩)
  have hwt := hS.wo (Or.inr ⟨rfl, rfl, rfl, rfl⟩)
  have hpr := hS.pu (Or.inl ⟨rfl, rfl, rfl, rfl⟩)
  have hpt := hS.pu (Or.inr ⟨rfl, rfl, rfl, rfl⟩)
  unfold sShape at k
  rcases zix_c x (n := dc D) (by omega) with ⟨t, ht, rfl, et⟩ | ⟨et, nt⟩
  · rw [oz_s et] at k
    have ho := hO.1.2 _ ht
    have hn := ho.n
    rcases zix_c z (n := 6) (by omega) with ⟨w, hw, rfl, ew⟩ | ⟨ew, nw⟩
    · rw [oz_s ew] at k
      rcases (show w = 0 ∨ w = 1 ∨ w = 2 ∨ w = 3 ∨ w = 4 ∨ w = 5 by omega) with rfl | rfl | rfl | rfl | rfl | rfl
      · refine q_aload_n d32_0 rfl ?_
        refine q_iload_n d32_1 rfl ?_
        refine q_v1 d32_2 rfl rfl (hS.1.1) (Nat.le_of_ble_eq_true rfl) (c33t hR (by omega) ?_)
        refine n0_ne 11 d32_5 (by decide) (by decide) (fun _ => ?_) (fun q => absurd q (by decide))
        refine q_aload_n d32_11 rfl ?_
        refine q_getr (c := 7) (f := 1) d32_12 ⟨rfl, rfl⟩ (hS.1.1) (hS.1.2.2.1) ?_
        refine q_iload_n d32_15 rfl ?_
        refine n_aald d32_16 (hS.1.2.2.2.1) (by decide) (by omega) (by decide) ((hS.1.2.2.2.2.1) _ (by omega)) ?_
        refine q_astore_n d32_17 (by decide) rfl ?_
        refine q_iload_n d32_18 rfl ?_
        refine n_tsI (37) 56 d32_19 (by decide) (by decide) rfl (by decide) ?_
        refine q_aload_n d32_56 rfl ?_
        refine q_getv (c := 1) (f := 6) d32_57 ⟨rfl, by decide⟩ (hS.pr (by omega)).1 (hT _ (by omega)).1 ?_
        refine q_iret d32_60 rfl ?_
        exact k _ hR (Fc.refl _)
      · refine q_aload_n d32_0 rfl ?_
        refine q_iload_n d32_1 rfl ?_
        refine q_v1 d32_2 rfl rfl (hS.1.1) (Nat.le_of_ble_eq_true rfl) (c33t hR (by omega) ?_)
        refine n0_ne 11 d32_5 (by decide) (by decide) (fun _ => ?_) (fun q => absurd q (by decide))
        refine q_aload_n d32_11 rfl ?_
        refine q_getr (c := 7) (f := 1) d32_12 ⟨rfl, rfl⟩ (hS.1.1) (hS.1.2.2.1) ?_
        refine q_iload_n d32_15 rfl ?_
        refine n_aald d32_16 (hS.1.2.2.2.1) (by decide) (by omega) (by decide) ((hS.1.2.2.2.2.1) _ (by omega)) ?_
        refine q_astore_n d32_17 (by decide) rfl ?_
        refine q_iload_n d32_18 rfl ?_
        refine n_tsI (42) 61 d32_19 (by decide) (by decide) rfl (by decide) ?_
        refine q_aload_n d32_61 rfl ?_
        refine q_v0 d32_62 rfl rfl (hS.pr (by omega)).1 (Nat.le_of_ble_eq_true rfl) (c34 (hS.pr (show t < 6 by omega)) (hT t ht) ho (fun M1 f1 => ?_))
        refine q_iret d32_65 rfl ?_
        exact k _ (hR.fr2 (f1.sc hS (fun a q ha e => by omega)) (fun i hi => RP_fr (hT i hi) f1.fr (fun b q a1 a2 e => by omega)) f1.fr ⟨fun q e => by omega, fun e => by omega, fun q e => by omega, fun a q a1 a2 e => by omega, fun a q a1 a2 e => by omega⟩) (f1.fr.c (fun a q ha e => by omega))
      · refine q_aload_n d32_0 rfl ?_
        refine q_iload_n d32_1 rfl ?_
        refine q_v1 d32_2 rfl rfl (hS.1.1) (Nat.le_of_ble_eq_true rfl) (c33t hR (by omega) ?_)
        refine n0_ne 11 d32_5 (by decide) (by decide) (fun _ => ?_) (fun q => absurd q (by decide))
        refine q_aload_n d32_11 rfl ?_
        refine q_getr (c := 7) (f := 1) d32_12 ⟨rfl, rfl⟩ (hS.1.1) (hS.1.2.2.1) ?_
        refine q_iload_n d32_15 rfl ?_
        refine n_aald d32_16 (hS.1.2.2.2.1) (by decide) (by omega) (by decide) ((hS.1.2.2.2.2.1) _ (by omega)) ?_
        refine q_astore_n d32_17 (by decide) rfl ?_
        refine q_iload_n d32_18 rfl ?_
        refine n_tsI (47) 66 d32_19 (by decide) (by decide) rfl (by decide) ?_
        refine q_aload_n d32_66 rfl ?_
        refine q_v0 d32_67 rfl rfl (hS.pr (by omega)).1 (Nat.le_of_ble_eq_true rfl) (c36 (hS.pr (show t < 6 by omega)) (hT t ht) ho ?_)
        refine q_iret d32_70 rfl ?_
        exact k _ hR (Fc.refl _)
      · refine q_aload_n d32_0 rfl ?_
        refine q_iload_n d32_1 rfl ?_
        refine q_v1 d32_2 rfl rfl (hS.1.1) (Nat.le_of_ble_eq_true rfl) (c33t hR (by omega) ?_)
        refine n0_ne 11 d32_5 (by decide) (by decide) (fun _ => ?_) (fun q => absurd q (by decide))
        refine q_aload_n d32_11 rfl ?_
        refine q_getr (c := 7) (f := 1) d32_12 ⟨rfl, rfl⟩ (hS.1.1) (hS.1.2.2.1) ?_
        refine q_iload_n d32_15 rfl ?_
        refine n_aald d32_16 (hS.1.2.2.2.1) (by decide) (by omega) (by decide) ((hS.1.2.2.2.2.1) _ (by omega)) ?_
        refine q_astore_n d32_17 (by decide) rfl ?_
        refine q_iload_n d32_18 rfl ?_
        refine n_tsI (52) 71 d32_19 (by decide) (by decide) rfl (by decide) ?_
        refine q_aload_n d32_71 rfl ?_
        refine q_v0 d32_72 rfl rfl (hS.pr (by omega)).1 (Nat.le_of_ble_eq_true rfl) (c40 (hS.pr (show t < 6 by omega)) (hT t ht) ho ?_)
        refine q_iret d32_75 rfl ?_
        exact k _ hR (Fc.refl _)
      · refine q_aload_n d32_0 rfl ?_
        refine q_iload_n d32_1 rfl ?_
        refine q_v1 d32_2 rfl rfl (hS.1.1) (Nat.le_of_ble_eq_true rfl) (c33t hR (by omega) ?_)
        refine n0_ne 11 d32_5 (by decide) (by decide) (fun _ => ?_) (fun q => absurd q (by decide))
        refine q_aload_n d32_11 rfl ?_
        refine q_getr (c := 7) (f := 1) d32_12 ⟨rfl, rfl⟩ (hS.1.1) (hS.1.2.2.1) ?_
        refine q_iload_n d32_15 rfl ?_
        refine n_aald d32_16 (hS.1.2.2.2.1) (by decide) (by omega) (by decide) ((hS.1.2.2.2.2.1) _ (by omega)) ?_
        refine q_astore_n d32_17 (by decide) rfl ?_
        refine q_iload_n d32_18 rfl ?_
        refine n_tsI (57) 76 d32_19 (by decide) (by decide) rfl (by decide) ?_
        refine q_aload_n d32_76 rfl ?_
        refine q_getv (c := 1) (f := 7) d32_77 ⟨rfl, by decide⟩ (hS.pr (by omega)).1 (hT _ (by omega)).2.1 ?_
        refine q_iret d32_80 rfl ?_
        exact k _ hR (Fc.refl _)
      · refine q_aload_n d32_0 rfl ?_
        refine q_iload_n d32_1 rfl ?_
        refine q_v1 d32_2 rfl rfl (hS.1.1) (Nat.le_of_ble_eq_true rfl) (c33t hR (by omega) ?_)
        refine n0_ne 11 d32_5 (by decide) (by decide) (fun _ => ?_) (fun q => absurd q (by decide))
        refine q_aload_n d32_11 rfl ?_
        refine q_getr (c := 7) (f := 1) d32_12 ⟨rfl, rfl⟩ (hS.1.1) (hS.1.2.2.1) ?_
        refine q_iload_n d32_15 rfl ?_
        refine n_aald d32_16 (hS.1.2.2.2.1) (by decide) (by omega) (by decide) ((hS.1.2.2.2.2.1) _ (by omega)) ?_
        refine q_astore_n d32_17 (by decide) rfl ?_
        refine q_iload_n d32_18 rfl ?_
        refine n_tsI (62) 81 d32_19 (by decide) (by decide) rfl (by decide) ?_
        refine q_aload_n d32_81 rfl ?_
        refine q_getr (c := 7) (f := 5) d32_82 ⟨rfl, rfl⟩ (hS.1.1) (hS.1.2.2.2.2.2.2.2.1) ?_
        refine q_getr (c := 6) (f := 2) d32_85 ⟨rfl, rfl⟩ hwt.1 hwt.2.2.2.1 ?_
        refine q_aload_n d32_88 rfl ?_
        refine q_getr (c := 7) (f := 4) d32_89 ⟨rfl, rfl⟩ (hS.1.1) (hS.1.2.2.2.2.2.2.1) ?_
        refine q_getr (c := 6) (f := 2) d32_92 ⟨rfl, rfl⟩ hwr.1 hwr.2.2.2.1 ?_
        refine q_v1 d32_95 rfl rfl hpt.1 (Nat.le_of_ble_eq_true rfl) (c42 hpt hpr hRW.1 (by omega) (fun M1 hP1 f1 => ?_))
        have hS1 := f1.sc hS (fun a q ha e => by have := e.1; omega)
        have hwt1 := hS1.wo (Or.inr ⟨rfl, rfl, rfl, rfl⟩)
        refine q_aload_n d32_98 rfl ?_
        refine q_aload_n d32_99 rfl ?_
        refine q_getr (c := 7) (f := 5) d32_100 ⟨rfl, rfl⟩ hS1.1.1 hS1.1.2.2.2.2.2.2.2.1 ?_
        refine q_getr (c := 6) (f := 2) d32_103 ⟨rfl, rfl⟩ hwt1.1 hwt1.2.2.2.1 ?_
        refine q_iconstN (z := 0) d32_106 ?_
        refine q_iconstN (z := 0) d32_107 ?_
        refine q_s4 d32_108 (Or.inl rfl) rfl (Nat.le_of_ble_eq_true rfl) (qC_up (c43 (d := d) ho (by omega) (tn (dT D t)) 0 0 _ _ (by omega) (by omega) (SPu_fi hpt f1) hP1 (SPr_fi (hS.pr (show t < 6 by omega)) f1) (RP_fr (hT t ht) f1.fr (fun b q a1 a2 e => by have := e.1; omega)) (fun M2 P2 e2 hP2 f2 => ?_)) (by omega))
        refine q_iret d32_111 rfl ?_
        have f12 := f1.trans f2
        exact k _ (hR.fr (f12.sc hS (fun a q ha e => by have := e.1; omega)) f12.fr ⟨fun q e => by have := e.1; omega, fun e => by have := e.1; omega, fun a q a1 a2 e => by have := e.1; omega, fun a q a1 a2 e => by have := e.1; have := e.2; omega⟩) (f12.fr.c (fun a q ha e => by have := e.1; have := e.2; omega))
    · rw [oz_n ew] at k
      refine q_aload_n d32_0 rfl ?_
      refine q_iload_n d32_1 rfl ?_
      refine q_v1 d32_2 rfl rfl (hS.1.1) (Nat.le_of_ble_eq_true rfl) (c33t hR (by omega) ?_)
      refine n0_ne 11 d32_5 (by decide) (by decide) (fun _ => ?_) (fun q => absurd q (by decide))
      refine q_aload_n d32_11 rfl ?_
      refine q_getr (c := 7) (f := 1) d32_12 ⟨rfl, rfl⟩ (hS.1.1) (hS.1.2.2.1) ?_
      refine q_iload_n d32_15 rfl ?_
      refine n_aald d32_16 (hS.1.2.2.2.1) (by decide) (by omega) (by decide) ((hS.1.2.2.2.2.1) _ (by omega)) ?_
      refine q_astore_n d32_17 (by decide) rfl ?_
      refine q_iload_n d32_18 rfl ?_
      refine q_tsO 112 d32_19 (zix_sw ew) (by decide) ?_
      refine q_bipush (x := (-2)) d32_112 rfl ?_
      refine q_iret d32_114 rfl ?_
      exact k _ hR (Fc.refl _)
  · rw [oz_n et] at k
    refine q_aload_n d32_0 rfl ?_
    refine q_iload_n d32_1 rfl ?_
    refine q_v1 d32_2 rfl rfl (hS.1.1) (Nat.le_of_ble_eq_true rfl) (c33f hR et ?_)
    refine n0_ne 11 d32_5 (by decide) (by decide) (fun q => absurd q (by decide)) (fun _ => ?_)
    refine q_bipush (x := (-2)) d32_8 rfl ?_
    refine q_iret d32_10 rfl ?_
    exact k _ hR (Fc.refl _)
