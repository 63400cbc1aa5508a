/-! ===== the reference: copies ===== -/
theorem nI_sub_le {a v x : Nat} (ha : a ≤ 40) (hv : v < 2147483648) (hx : x < 2147483648) (h : ¬ nI a - nI v < nI x) : x + v ≤ a := by
  have e : (nI a - nI v).toInt = (a : Int) - v := by
    rw [Int32.toInt_sub, nI_toInt (by omega), nI_toInt hv, Int.bmod_eq_of_le (by omega) (by omega)]
  rw [Int32.lt_iff_toInt_lt, e, nI_toInt hx] at h
  omega
theorem d215_0 : decode (zB 215) 0 = .ok (.iload_n 1, 1) := by decide +kernel
theorem d215_1 : decode (zB 215) 1 = .ok (.invokestatic 392, 3) := by decide +kernel
theorem d215_4 : decode (zB 215) 4 = .ok (.ifCond .eq 10, 3) := by decide +kernel
theorem d215_7 : decode (zB 215) 7 = .ok (.iload_n 3, 1) := by decide +kernel
theorem d215_8 : decode (zB 215) 8 = .ok (.invokestatic 392, 3) := by decide +kernel
theorem d215_11 : decode (zB 215) 11 = .ok (.ifCond .ne 6, 3) := by decide +kernel
theorem d215_14 : decode (zB 215) 14 = .ok (.bipush (-2), 2) := by decide +kernel
theorem d215_16 : decode (zB 215) 16 = .ok (.ireturn, 1) := by decide +kernel
theorem d215_17 : decode (zB 215) 17 = .ok (.aload_n 0, 1) := by decide +kernel
theorem d215_18 : decode (zB 215) 18 = .ok (.getfield 100, 3) := by decide +kernel
theorem d215_21 : decode (zB 215) 21 = .ok (.iload_n 1, 1) := by decide +kernel
theorem d215_22 : decode (zB 215) 22 = .ok (.iaload, 1) := by decide +kernel
theorem d215_23 : decode (zB 215) 23 = .ok (.ifCond .lt 12, 3) := by decide +kernel
theorem d215_26 : decode (zB 215) 26 = .ok (.aload_n 0, 1) := by decide +kernel
theorem d215_27 : decode (zB 215) 27 = .ok (.getfield 100, 3) := by decide +kernel
theorem d215_30 : decode (zB 215) 30 = .ok (.iload_n 3, 1) := by decide +kernel
theorem d215_31 : decode (zB 215) 31 = .ok (.iaload, 1) := by decide +kernel
theorem d215_32 : decode (zB 215) 32 = .ok (.ifCond .ge 6, 3) := by decide +kernel
theorem d215_35 : decode (zB 215) 35 = .ok (.bipush (-11), 2) := by decide +kernel
theorem d215_37 : decode (zB 215) 37 = .ok (.ireturn, 1) := by decide +kernel
theorem d215_38 : decode (zB 215) 38 = .ok (.aload_n 0, 1) := by decide +kernel
theorem d215_39 : decode (zB 215) 39 = .ok (.getfield 100, 3) := by decide +kernel
theorem d215_42 : decode (zB 215) 42 = .ok (.iload_n 1, 1) := by decide +kernel
theorem d215_43 : decode (zB 215) 43 = .ok (.iaload, 1) := by decide +kernel
theorem d215_44 : decode (zB 215) 44 = .ok (.aload_n 0, 1) := by decide +kernel
theorem d215_45 : decode (zB 215) 45 = .ok (.getfield 100, 3) := by decide +kernel
theorem d215_48 : decode (zB 215) 48 = .ok (.iload_n 3, 1) := by decide +kernel
theorem d215_49 : decode (zB 215) 49 = .ok (.iaload, 1) := by decide +kernel
theorem d215_50 : decode (zB 215) 50 = .ok (.if_icmp .eq 6, 3) := by decide +kernel
theorem d215_53 : decode (zB 215) 53 = .ok (.bipush (-13), 2) := by decide +kernel
theorem d215_55 : decode (zB 215) 55 = .ok (.ireturn, 1) := by decide +kernel
theorem d215_56 : decode (zB 215) 56 = .ok (.iload 5, 2) := by decide +kernel
theorem d215_58 : decode (zB 215) 58 = .ok (.ifCond .lt 39, 3) := by decide +kernel
theorem d215_61 : decode (zB 215) 61 = .ok (.iload_n 2, 1) := by decide +kernel
theorem d215_62 : decode (zB 215) 62 = .ok (.ifCond .lt 35, 3) := by decide +kernel
theorem d215_65 : decode (zB 215) 65 = .ok (.iload 4, 2) := by decide +kernel
theorem d215_67 : decode (zB 215) 67 = .ok (.ifCond .lt 30, 3) := by decide +kernel
theorem d215_70 : decode (zB 215) 70 = .ok (.iload_n 2, 1) := by decide +kernel
theorem d215_71 : decode (zB 215) 71 = .ok (.aload_n 0, 1) := by decide +kernel
theorem d215_72 : decode (zB 215) 72 = .ok (.getfield 103, 3) := by decide +kernel
theorem d215_75 : decode (zB 215) 75 = .ok (.iload_n 1, 1) := by decide +kernel
theorem d215_76 : decode (zB 215) 76 = .ok (.iaload, 1) := by decide +kernel
theorem d215_77 : decode (zB 215) 77 = .ok (.iload 5, 2) := by decide +kernel
theorem d215_79 : decode (zB 215) 79 = .ok (.isub, 1) := by decide +kernel
theorem d215_80 : decode (zB 215) 80 = .ok (.if_icmp .gt 17, 3) := by decide +kernel
theorem d215_83 : decode (zB 215) 83 = .ok (.iload 4, 2) := by decide +kernel
theorem d215_85 : decode (zB 215) 85 = .ok (.aload_n 0, 1) := by decide +kernel
theorem d215_86 : decode (zB 215) 86 = .ok (.getfield 103, 3) := by decide +kernel
theorem d215_89 : decode (zB 215) 89 = .ok (.iload_n 3, 1) := by decide +kernel
theorem d215_90 : decode (zB 215) 90 = .ok (.iaload, 1) := by decide +kernel
theorem d215_91 : decode (zB 215) 91 = .ok (.iload 5, 2) := by decide +kernel
theorem d215_93 : decode (zB 215) 93 = .ok (.isub, 1) := by decide +kernel
theorem d215_94 : decode (zB 215) 94 = .ok (.if_icmp .le 6, 3) := by decide +kernel
theorem d215_97 : decode (zB 215) 97 = .ok (.bipush (-12), 2) := by decide +kernel
theorem d215_99 : decode (zB 215) 99 = .ok (.ireturn, 1) := by decide +kernel
theorem d215_100 : decode (zB 215) 100 = .ok (.aload_n 0, 1) := by decide +kernel
theorem d215_101 : decode (zB 215) 101 = .ok (.getfield 106, 3) := by decide +kernel
theorem d215_104 : decode (zB 215) 104 = .ok (.iload_n 1, 1) := by decide +kernel
theorem d215_105 : decode (zB 215) 105 = .ok (.aaload, 1) := by decide +kernel
theorem d215_106 : decode (zB 215) 106 = .ok (.iload_n 2, 1) := by decide +kernel
theorem d215_107 : decode (zB 215) 107 = .ok (.aload_n 0, 1) := by decide +kernel
theorem d215_108 : decode (zB 215) 108 = .ok (.getfield 109, 3) := by decide +kernel
theorem d215_111 : decode (zB 215) 111 = .ok (.iconst 0, 1) := by decide +kernel
theorem d215_112 : decode (zB 215) 112 = .ok (.iload 5, 2) := by decide +kernel
theorem d215_114 : decode (zB 215) 114 = .ok (.invokestatic 285, 3) := by decide +kernel
theorem d215_117 : decode (zB 215) 117 = .ok (.aload_n 0, 1) := by decide +kernel
theorem d215_118 : decode (zB 215) 118 = .ok (.getfield 109, 3) := by decide +kernel
theorem d215_121 : decode (zB 215) 121 = .ok (.iconst 0, 1) := by decide +kernel
theorem d215_122 : decode (zB 215) 122 = .ok (.aload_n 0, 1) := by decide +kernel
theorem d215_123 : decode (zB 215) 123 = .ok (.getfield 106, 3) := by decide +kernel
theorem d215_126 : decode (zB 215) 126 = .ok (.iload_n 3, 1) := by decide +kernel
theorem d215_127 : decode (zB 215) 127 = .ok (.aaload, 1) := by decide +kernel
theorem d215_128 : decode (zB 215) 128 = .ok (.iload 4, 2) := by decide +kernel
theorem d215_130 : decode (zB 215) 130 = .ok (.iload 5, 2) := by decide +kernel
theorem d215_132 : decode (zB 215) 132 = .ok (.invokestatic 285, 3) := by decide +kernel
theorem d215_135 : decode (zB 215) 135 = .ok (.iload 5, 2) := by decide +kernel
theorem d215_137 : decode (zB 215) 137 = .ok (.ireturn, 1) := by decide +kernel
theorem x215 {d : Nat} {M : zM} {Q : Option Value → zM → Prop} {D : yD} {κ : Nat} {x i y j n : Int32} (hR : RX M D κ) (hD : OKD D) (hκ : κ + 4000 < 2147483648) (k : ∀ M', RX M' D κ → Fi FY M M' → Q (some (.int (sCopy D x i y j n))) M') : qC (d + 3) 215 [.ref 136, .int x, .int i, .int y, .int j, .int n] M Q := by
  refine qC_of (by decide) (Nat.le_of_ble_eq_true rfl) ?_
  have hC := hR.1
  have hX := hC.1
  have hO : OKW (dT D) (dc D) (dW D) := hC.2.2.1
  have hc6 := hO.1.1
  have hL : XLo [] M (some (dL D)) := hC.2.2.2.2.2.2.1
  have hSa : ∀ s, s < 3 → XSa M s (dS D s) κ := hC.2.2.2.2.1
  have hTk := hC.k
  have hck := hC.2.2.2.2.2.1
  have h240 := hD.2.1
  unfold sCopy at k
  rcases zix_c x (n := 4) (by omega) with ⟨h, hh, rfl, eh⟩ | ⟨eh, nh⟩
  · rw [oz_s eh] at k
    rcases zix_c y (n := 4) (by omega) with ⟨q, hq, rfl, eq⟩ | ⟨eq, nq⟩
    · rw [oz_s eq] at k
      have hzh := (hD.2.2.2.2 h hh).1
      have hzq := (hD.2.2.2.2 q hq).1
      by_cases hs : (dR D h).1 = -1
      · rw [if_pos (Or.inl hs)] at k
        refine q_iload_n d215_0 rfl ?_
        refine q_s1 d215_1 (Or.inl rfl) rfl (Nat.le_of_ble_eq_true rfl) (c207t (by omega) ?_)
        refine n0_eq 14 d215_4 (by decide) (by decide) (fun q => absurd q (by decide)) (fun _ => ?_)
        refine q_iload_n d215_7 rfl ?_
        refine q_s1 d215_8 (Or.inl rfl) rfl (Nat.le_of_ble_eq_true rfl) (c207t (by omega) ?_)
        refine n0_ne 17 d215_11 (by decide) (by decide) (fun _ => ?_) (fun q => absurd q (by decide))
        refine q_aload_n d215_17 rfl ?_
        refine q_getr (c := 8) (f := 45) d215_18 ⟨rfl, rfl⟩ (xk_136 hX) (xf_sorts hX) ?_
        refine q_iload_n d215_21 rfl ?_
        refine n_iald d215_22 (xk_sorts hX) (by omega) (by decide) (hR.2.2.2.2 _ (by omega)).1 ?_
        refine i0_lt 35 d215_23 (by decide) (fun h23 => ?_) (fun h23 => (False.elim (h23 (by rw [hs]; decide))))
        refine q_bipush (x := (-11)) d215_35 rfl ?_
        refine q_iret d215_37 rfl ?_
        exact k _ hR (Fi.refl _ _)
      · have hso : (dR D h).1 = nI 0 ∨ (dR D h).1 = nI 1 := ((hD.2.2.2.2 h hh).2).resolve_left hs
        by_cases ht : (dR D q).1 = -1
        · rw [if_pos (Or.inr ht)] at k
          refine q_iload_n d215_0 rfl ?_
          refine q_s1 d215_1 (Or.inl rfl) rfl (Nat.le_of_ble_eq_true rfl) (c207t (by omega) ?_)
          refine n0_eq 14 d215_4 (by decide) (by decide) (fun q => absurd q (by decide)) (fun _ => ?_)
          refine q_iload_n d215_7 rfl ?_
          refine q_s1 d215_8 (Or.inl rfl) rfl (Nat.le_of_ble_eq_true rfl) (c207t (by omega) ?_)
          refine n0_ne 17 d215_11 (by decide) (by decide) (fun _ => ?_) (fun q => absurd q (by decide))
          refine q_aload_n d215_17 rfl ?_
          refine q_getr (c := 8) (f := 45) d215_18 ⟨rfl, rfl⟩ (xk_136 hX) (xf_sorts hX) ?_
          refine q_iload_n d215_21 rfl ?_
          refine n_iald d215_22 (xk_sorts hX) (by omega) (by decide) (hR.2.2.2.2 _ (by omega)).1 ?_
          refine i0_lt 35 d215_23 (by decide) (fun h23 => (False.elim (by rcases hso with e | e <;> rw [e] at h23 <;> exact absurd h23 (by decide)))) (fun h23 => ?_)
          refine q_aload_n d215_26 rfl ?_
          refine q_getr (c := 8) (f := 45) d215_27 ⟨rfl, rfl⟩ (xk_136 hX) (xf_sorts hX) ?_
          refine q_iload_n d215_30 rfl ?_
          refine n_iald d215_31 (xk_sorts hX) (by omega) (by decide) (hR.2.2.2.2 _ (by omega)).1 ?_
          refine i0_ge 38 d215_32 (by decide) (fun h32 => (False.elim (absurd h32 (by rw [ht]; decide)))) (fun h32 => ?_)
          refine q_bipush (x := (-11)) d215_35 rfl ?_
          refine q_iret d215_37 rfl ?_
          exact k _ hR (Fi.refl _ _)
        · have hto : (dR D q).1 = nI 0 ∨ (dR D q).1 = nI 1 := ((hD.2.2.2.2 q hq).2).resolve_left ht
          rw [if_neg (fun e => by rcases e with e | e; exact hs e; exact ht e)] at k
          by_cases hu : (dR D h).1 = (dR D q).1
          · rw [if_neg (fun e => e hu)] at k
            by_cases hc : ycp i j n (dR D h).2 (dR D q).2 = true
            · rw [if_pos hc] at k
              obtain ⟨a, b, v, rfl, rfl, rfl, hca, hcb⟩ := ycp_t hc (by omega) (by omega)
              refine q_iload_n d215_0 rfl ?_
              refine q_s1 d215_1 (Or.inl rfl) rfl (Nat.le_of_ble_eq_true rfl) (c207t (by omega) ?_)
              refine n0_eq 14 d215_4 (by decide) (by decide) (fun q => absurd q (by decide)) (fun _ => ?_)
              refine q_iload_n d215_7 rfl ?_
              refine q_s1 d215_8 (Or.inl rfl) rfl (Nat.le_of_ble_eq_true rfl) (c207t (by omega) ?_)
              refine n0_ne 17 d215_11 (by decide) (by decide) (fun _ => ?_) (fun q => absurd q (by decide))
              refine q_aload_n d215_17 rfl ?_
              refine q_getr (c := 8) (f := 45) d215_18 ⟨rfl, rfl⟩ (xk_136 hX) (xf_sorts hX) ?_
              refine q_iload_n d215_21 rfl ?_
              refine n_iald d215_22 (xk_sorts hX) (by omega) (by decide) (hR.2.2.2.2 _ (by omega)).1 ?_
              refine i0_lt 35 d215_23 (by decide) (fun h23 => (False.elim (by rcases hso with e | e <;> rw [e] at h23 <;> exact absurd h23 (by decide)))) (fun h23 => ?_)
              refine q_aload_n d215_26 rfl ?_
              refine q_getr (c := 8) (f := 45) d215_27 ⟨rfl, rfl⟩ (xk_136 hX) (xf_sorts hX) ?_
              refine q_iload_n d215_30 rfl ?_
              refine n_iald d215_31 (xk_sorts hX) (by omega) (by decide) (hR.2.2.2.2 _ (by omega)).1 ?_
              refine i0_ge 38 d215_32 (by decide) (fun h32 => ?_) (fun h32 => (False.elim (by rcases hto with e | e <;> rw [e] at h32 <;> exact absurd h32 (by decide))))
              refine q_aload_n d215_38 rfl ?_
              refine q_getr (c := 8) (f := 45) d215_39 ⟨rfl, rfl⟩ (xk_136 hX) (xf_sorts hX) ?_
              refine q_iload_n d215_42 rfl ?_
              refine n_iald d215_43 (xk_sorts hX) (by omega) (by decide) (hR.2.2.2.2 _ (by omega)).1 ?_
              refine q_aload_n d215_44 rfl ?_
              refine q_getr (c := 8) (f := 45) d215_45 ⟨rfl, rfl⟩ (xk_136 hX) (xf_sorts hX) ?_
              refine q_iload_n d215_48 rfl ?_
              refine n_iald d215_49 (xk_sorts hX) (by omega) (by decide) (hR.2.2.2.2 _ (by omega)).1 ?_
              refine ic_eq 56 d215_50 (by decide) (fun h50 => ?_) (fun h50 => (False.elim (h50 hu)))
              refine q_iload d215_56 rfl ?_
              refine n0_lt 97 d215_58 (by decide) (by omega) (fun q => absurd q (Nat.not_lt_zero _)) (fun _ => ?_)
              refine q_iload_n d215_61 rfl ?_
              refine n0_lt 97 d215_62 (by decide) (by omega) (fun q => absurd q (Nat.not_lt_zero _)) (fun _ => ?_)
              refine q_iload d215_65 rfl ?_
              refine n0_lt 97 d215_67 (by decide) (by omega) (fun q => absurd q (Nat.not_lt_zero _)) (fun _ => ?_)
              refine q_iload_n d215_70 rfl ?_
              refine q_aload_n d215_71 rfl ?_
              refine q_getr (c := 8) (f := 46) d215_72 ⟨rfl, rfl⟩ (xk_136 hX) (xf_lengths hX) ?_
              refine q_iload_n d215_75 rfl ?_
              refine n_iald d215_76 (xk_lengths hX) (by omega) (by decide) (hR.2.2.2.2 _ (by omega)).2 ?_
              refine q_iload d215_77 rfl ?_
              refine n_isub d215_79 (by omega) ?_
              refine nc_gt 97 d215_80 (by decide) (by omega) (by omega) (fun h80 => (False.elim (by omega))) (fun h80 => ?_)
              refine q_iload d215_83 rfl ?_
              refine q_aload_n d215_85 rfl ?_
              refine q_getr (c := 8) (f := 46) d215_86 ⟨rfl, rfl⟩ (xk_136 hX) (xf_lengths hX) ?_
              refine q_iload_n d215_89 rfl ?_
              refine n_iald d215_90 (xk_lengths hX) (by omega) (by decide) (hR.2.2.2.2 _ (by omega)).2 ?_
              refine q_iload d215_91 rfl ?_
              refine n_isub d215_93 (by omega) ?_
              refine nc_le 100 d215_94 (by decide) (by omega) (by omega) (fun h94 => ?_) (fun h94 => (False.elim (by omega)))
              refine q_aload_n d215_100 rfl ?_
              refine q_getr (c := 8) (f := 47) d215_101 ⟨rfl, rfl⟩ (xk_136 hX) (xf_items hX) ?_
              refine q_iload_n d215_104 rfl ?_
              refine n_aald d215_105 (xk_items hX) (by decide) (by omega) (by decide) (xr_items hX (by omega)) ?_
              refine q_iload_n d215_106 rfl ?_
              refine q_aload_n d215_107 rfl ?_
              refine q_getr (c := 8) (f := 48) d215_108 ⟨rfl, rfl⟩ (xk_136 hX) (xf_passed hX) ?_
              refine q_iconstN (z := 0) d215_111 ?_
              refine q_iload d215_112 rfl ?_
              refine n_copy d215_114 rfl (xa_items hX (by omega)) (xk_passed hX) (by decide) (by decide) (by omega) (by omega) (Nat.le_of_ble_eq_true rfl) ?_
              refine q_aload_n d215_117 rfl ?_
              refine q_getr (c := 8) (f := 48) d215_118 ⟨rfl, rfl⟩ (xk_136 hX) (xf_passed hX) ?_
              refine q_iconstN (z := 0) d215_121 ?_
              refine q_aload_n d215_122 rfl ?_
              refine q_getr (c := 8) (f := 47) d215_123 ⟨rfl, rfl⟩ (xk_136 hX) (xf_items hX) ?_
              refine q_iload_n d215_126 rfl ?_
              refine n_aald d215_127 (xk_items hX) (by decide) (by omega) (by decide) (xr_items hX (by omega)) ?_
              refine q_iload d215_128 rfl ?_
              refine q_iload d215_130 rfl ?_
              refine n_copy d215_132 rfl (xk_passed hX) (xa_items hX (by omega)) (by decide) (by decide) (by omega) (by omega) (Nat.le_of_ble_eq_true rfl) ?_
              refine q_iload d215_135 rfl ?_
              refine q_iret d215_137 rfl ?_
              have f1 : Fi (fun a _ => 320 < a) M (zcp (zcp M (322 + h) a 326 0 v) 326 0 (322 + q) b v) := ((Fi.refl _ _).cp (fun _ _ _ => by omega)).cp (fun _ _ _ => by omega)
              exact k _ (hR.items f1) (f1.mono (fun b k q => by unfold FY; omega))
            · rw [if_neg hc] at k
              refine q_iload_n d215_0 rfl ?_
              refine q_s1 d215_1 (Or.inl rfl) rfl (Nat.le_of_ble_eq_true rfl) (c207t (by omega) ?_)
              refine n0_eq 14 d215_4 (by decide) (by decide) (fun q => absurd q (by decide)) (fun _ => ?_)
              refine q_iload_n d215_7 rfl ?_
              refine q_s1 d215_8 (Or.inl rfl) rfl (Nat.le_of_ble_eq_true rfl) (c207t (by omega) ?_)
              refine n0_ne 17 d215_11 (by decide) (by decide) (fun _ => ?_) (fun q => absurd q (by decide))
              refine q_aload_n d215_17 rfl ?_
              refine q_getr (c := 8) (f := 45) d215_18 ⟨rfl, rfl⟩ (xk_136 hX) (xf_sorts hX) ?_
              refine q_iload_n d215_21 rfl ?_
              refine n_iald d215_22 (xk_sorts hX) (by omega) (by decide) (hR.2.2.2.2 _ (by omega)).1 ?_
              refine i0_lt 35 d215_23 (by decide) (fun h23 => (False.elim (by rcases hso with e | e <;> rw [e] at h23 <;> exact absurd h23 (by decide)))) (fun h23 => ?_)
              refine q_aload_n d215_26 rfl ?_
              refine q_getr (c := 8) (f := 45) d215_27 ⟨rfl, rfl⟩ (xk_136 hX) (xf_sorts hX) ?_
              refine q_iload_n d215_30 rfl ?_
              refine n_iald d215_31 (xk_sorts hX) (by omega) (by decide) (hR.2.2.2.2 _ (by omega)).1 ?_
              refine i0_ge 38 d215_32 (by decide) (fun h32 => ?_) (fun h32 => (False.elim (by rcases hto with e | e <;> rw [e] at h32 <;> exact absurd h32 (by decide))))
              refine q_aload_n d215_38 rfl ?_
              refine q_getr (c := 8) (f := 45) d215_39 ⟨rfl, rfl⟩ (xk_136 hX) (xf_sorts hX) ?_
              refine q_iload_n d215_42 rfl ?_
              refine n_iald d215_43 (xk_sorts hX) (by omega) (by decide) (hR.2.2.2.2 _ (by omega)).1 ?_
              refine q_aload_n d215_44 rfl ?_
              refine q_getr (c := 8) (f := 45) d215_45 ⟨rfl, rfl⟩ (xk_136 hX) (xf_sorts hX) ?_
              refine q_iload_n d215_48 rfl ?_
              refine n_iald d215_49 (xk_sorts hX) (by omega) (by decide) (hR.2.2.2.2 _ (by omega)).1 ?_
              refine ic_eq 56 d215_50 (by decide) (fun h50 => ?_) (fun h50 => (False.elim (h50 hu)))
              refine q_iload d215_56 rfl ?_
              refine i0_lt 97 d215_58 (by decide) (fun h58 => ?_) (fun h58 => ?_)
              · refine q_bipush (x := (-12)) d215_97 rfl ?_
                refine q_iret d215_99 rfl ?_
                exact k _ hR (Fi.refl _ _)
              · refine q_iload_n d215_61 rfl ?_
                refine i0_lt 97 d215_62 (by decide) (fun h62 => ?_) (fun h62 => ?_)
                · refine q_bipush (x := (-12)) d215_97 rfl ?_
                  refine q_iret d215_99 rfl ?_
                  exact k _ hR (Fi.refl _ _)
                · refine q_iload d215_65 rfl ?_
                  refine i0_lt 97 d215_67 (by decide) (fun h67 => ?_) (fun h67 => ?_)
                  · refine q_bipush (x := (-12)) d215_97 rfl ?_
                    refine q_iret d215_99 rfl ?_
                    exact k _ hR (Fi.refl _ _)
                  · refine q_iload_n d215_70 rfl ?_
                    refine q_aload_n d215_71 rfl ?_
                    refine q_getr (c := 8) (f := 46) d215_72 ⟨rfl, rfl⟩ (xk_136 hX) (xf_lengths hX) ?_
                    refine q_iload_n d215_75 rfl ?_
                    refine n_iald d215_76 (xk_lengths hX) (by omega) (by decide) (hR.2.2.2.2 _ (by omega)).2 ?_
                    refine q_iload d215_77 rfl ?_
                    refine q_isub d215_79 ?_
                    refine ic_gt 97 d215_80 (by decide) (fun h80 => ?_) (fun h80 => ?_)
                    · refine q_bipush (x := (-12)) d215_97 rfl ?_
                      refine q_iret d215_99 rfl ?_
                      exact k _ hR (Fi.refl _ _)
                    · refine q_iload d215_83 rfl ?_
                      refine q_aload_n d215_85 rfl ?_
                      refine q_getr (c := 8) (f := 46) d215_86 ⟨rfl, rfl⟩ (xk_136 hX) (xf_lengths hX) ?_
                      refine q_iload_n d215_89 rfl ?_
                      refine n_iald d215_90 (xk_lengths hX) (by omega) (by decide) (hR.2.2.2.2 _ (by omega)).2 ?_
                      refine q_iload d215_91 rfl ?_
                      refine q_isub d215_93 ?_
                      refine ic_le 100 d215_94 (by decide) (fun h94 => ?_) (fun h94 => ?_)
                      · obtain ⟨v, hv, rfl⟩ := nI_of (x := n) (by first | exact h58 | exact Int32.not_lt.mpr h58)
                        obtain ⟨a, ha, rfl⟩ := nI_of (x := i) (by first | exact h62 | exact Int32.not_lt.mpr h62)
                        obtain ⟨b, hb, rfl⟩ := nI_of (x := j) (by first | exact h67 | exact Int32.not_lt.mpr h67)
                        have c1 := nI_sub_le hzh hv ha (by first | exact h80 | exact Int32.not_lt.mpr h80)
                        have c2 := nI_sub_le hzq hv hb (by first | exact h94 | exact Int32.not_lt.mpr h94)
                        exact (hc (decide_eq_true ⟨by rw [nI_toInt hv]; omega, by rw [nI_toInt ha]; omega, by rw [nI_toInt hb]; omega, by rw [nI_toInt ha, nI_toInt hv]; omega, by rw [nI_toInt hb, nI_toInt hv]; omega⟩)).elim
                      · refine q_bipush (x := (-12)) d215_97 rfl ?_
                        refine q_iret d215_99 rfl ?_
                        exact k _ hR (Fi.refl _ _)
          · rw [if_pos hu] at k
            refine q_iload_n d215_0 rfl ?_
            refine q_s1 d215_1 (Or.inl rfl) rfl (Nat.le_of_ble_eq_true rfl) (c207t (by omega) ?_)
            refine n0_eq 14 d215_4 (by decide) (by decide) (fun q => absurd q (by decide)) (fun _ => ?_)
            refine q_iload_n d215_7 rfl ?_
            refine q_s1 d215_8 (Or.inl rfl) rfl (Nat.le_of_ble_eq_true rfl) (c207t (by omega) ?_)
            refine n0_ne 17 d215_11 (by decide) (by decide) (fun _ => ?_) (fun q => absurd q (by decide))
            refine q_aload_n d215_17 rfl ?_
            refine q_getr (c := 8) (f := 45) d215_18 ⟨rfl, rfl⟩ (xk_136 hX) (xf_sorts hX) ?_
            refine q_iload_n d215_21 rfl ?_
            refine n_iald d215_22 (xk_sorts hX) (by omega) (by decide) (hR.2.2.2.2 _ (by omega)).1 ?_
            refine i0_lt 35 d215_23 (by decide) (fun h23 => (False.elim (by rcases hso with e | e <;> rw [e] at h23 <;> exact absurd h23 (by decide)))) (fun h23 => ?_)
            refine q_aload_n d215_26 rfl ?_
            refine q_getr (c := 8) (f := 45) d215_27 ⟨rfl, rfl⟩ (xk_136 hX) (xf_sorts hX) ?_
            refine q_iload_n d215_30 rfl ?_
            refine n_iald d215_31 (xk_sorts hX) (by omega) (by decide) (hR.2.2.2.2 _ (by omega)).1 ?_
            refine i0_ge 38 d215_32 (by decide) (fun h32 => ?_) (fun h32 => (False.elim (by rcases hto with e | e <;> rw [e] at h32 <;> exact absurd h32 (by decide))))
            refine q_aload_n d215_38 rfl ?_
            refine q_getr (c := 8) (f := 45) d215_39 ⟨rfl, rfl⟩ (xk_136 hX) (xf_sorts hX) ?_
            refine q_iload_n d215_42 rfl ?_
            refine n_iald d215_43 (xk_sorts hX) (by omega) (by decide) (hR.2.2.2.2 _ (by omega)).1 ?_
            refine q_aload_n d215_44 rfl ?_
            refine q_getr (c := 8) (f := 45) d215_45 ⟨rfl, rfl⟩ (xk_136 hX) (xf_sorts hX) ?_
            refine q_iload_n d215_48 rfl ?_
            refine n_iald d215_49 (xk_sorts hX) (by omega) (by decide) (hR.2.2.2.2 _ (by omega)).1 ?_
            refine ic_eq 56 d215_50 (by decide) (fun h50 => (False.elim (hu h50))) (fun h50 => ?_)
            refine q_bipush (x := (-13)) d215_53 rfl ?_
            refine q_iret d215_55 rfl ?_
            exact k _ hR (Fi.refl _ _)
    · rw [oz_n eq] at k
      refine q_iload_n d215_0 rfl ?_
      refine q_s1 d215_1 (Or.inl rfl) rfl (Nat.le_of_ble_eq_true rfl) (c207t (by omega) ?_)
      refine n0_eq 14 d215_4 (by decide) (by decide) (fun q => absurd q (by decide)) (fun _ => ?_)
      refine q_iload_n d215_7 rfl ?_
      refine q_s1 d215_8 (Or.inl rfl) rfl (Nat.le_of_ble_eq_true rfl) (c207f eq ?_)
      refine n0_ne 17 d215_11 (by decide) (by decide) (fun q => absurd q (by decide)) (fun _ => ?_)
      refine q_bipush (x := (-2)) d215_14 rfl ?_
      refine q_iret d215_16 rfl ?_
      exact k _ hR (Fi.refl _ _)
  · rw [oz_n eh] at k
    refine q_iload_n d215_0 rfl ?_
    refine q_s1 d215_1 (Or.inl rfl) rfl (Nat.le_of_ble_eq_true rfl) (c207f eh ?_)
    refine n0_eq 14 d215_4 (by decide) (by decide) (fun _ => ?_) (fun q => absurd q (by decide))
    refine q_bipush (x := (-2)) d215_14 rfl ?_
    refine q_iret d215_16 rfl ?_
    exact k _ hR (Fi.refl _ _)
