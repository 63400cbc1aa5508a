/-! ===== the reference: copies ===== -/
theorem nI_sub_le {a v x : Nat} (ha : a ≤ 40) (hv : v < 2147483648) (hx : x < 2147483648) (h : ¬ nI a - nI v < nI x) : x + v ≤ a := by
  have e : (nI a - nI v).toInt = (a : Int) - v := by
    rw [Int32.toInt_sub, nI_toInt (by omega), nI_toInt hv, Int.bmod_eq_of_le (by omega) (by omega)]
  rw [Int32.lt_iff_toInt_lt, e, nI_toInt hx] at h
  omega
theorem d215_0 : decode (zB 215) 0 = .ok (.iload_n 1, 1) := (congrArg (fun c => decode c 0) zeq215).trans (by decide +kernel)
theorem d215_1 : decode (zB 215) 1 = .ok (.invokestatic 392, 3) := (congrArg (fun c => decode c 1) zeq215).trans (by decide +kernel)
theorem d215_4 : decode (zB 215) 4 = .ok (.ifCond .eq 10, 3) := (congrArg (fun c => decode c 4) zeq215).trans (by decide +kernel)
theorem d215_7 : decode (zB 215) 7 = .ok (.iload_n 3, 1) := (congrArg (fun c => decode c 7) zeq215).trans (by decide +kernel)
theorem d215_8 : decode (zB 215) 8 = .ok (.invokestatic 392, 3) := (congrArg (fun c => decode c 8) zeq215).trans (by decide +kernel)
theorem d215_11 : decode (zB 215) 11 = .ok (.ifCond .ne 6, 3) := (congrArg (fun c => decode c 11) zeq215).trans (by decide +kernel)
theorem d215_14 : decode (zB 215) 14 = .ok (.bipush (-2), 2) := (congrArg (fun c => decode c 14) zeq215).trans (by decide +kernel)
theorem d215_16 : decode (zB 215) 16 = .ok (.ireturn, 1) := (congrArg (fun c => decode c 16) zeq215).trans (by decide +kernel)
theorem d215_17 : decode (zB 215) 17 = .ok (.aload_n 0, 1) := (congrArg (fun c => decode c 17) zeq215).trans (by decide +kernel)
theorem d215_18 : decode (zB 215) 18 = .ok (.getfield 100, 3) := (congrArg (fun c => decode c 18) zeq215).trans (by decide +kernel)
theorem d215_21 : decode (zB 215) 21 = .ok (.iload_n 1, 1) := (congrArg (fun c => decode c 21) zeq215).trans (by decide +kernel)
theorem d215_22 : decode (zB 215) 22 = .ok (.iaload, 1) := (congrArg (fun c => decode c 22) zeq215).trans (by decide +kernel)
theorem d215_23 : decode (zB 215) 23 = .ok (.ifCond .lt 12, 3) := (congrArg (fun c => decode c 23) zeq215).trans (by decide +kernel)
theorem d215_26 : decode (zB 215) 26 = .ok (.aload_n 0, 1) := (congrArg (fun c => decode c 26) zeq215).trans (by decide +kernel)
theorem d215_27 : decode (zB 215) 27 = .ok (.getfield 100, 3) := (congrArg (fun c => decode c 27) zeq215).trans (by decide +kernel)
theorem d215_30 : decode (zB 215) 30 = .ok (.iload_n 3, 1) := (congrArg (fun c => decode c 30) zeq215).trans (by decide +kernel)
theorem d215_31 : decode (zB 215) 31 = .ok (.iaload, 1) := (congrArg (fun c => decode c 31) zeq215).trans (by decide +kernel)
theorem d215_32 : decode (zB 215) 32 = .ok (.ifCond .ge 6, 3) := (congrArg (fun c => decode c 32) zeq215).trans (by decide +kernel)
theorem d215_35 : decode (zB 215) 35 = .ok (.bipush (-11), 2) := (congrArg (fun c => decode c 35) zeq215).trans (by decide +kernel)
theorem d215_37 : decode (zB 215) 37 = .ok (.ireturn, 1) := (congrArg (fun c => decode c 37) zeq215).trans (by decide +kernel)
theorem d215_38 : decode (zB 215) 38 = .ok (.aload_n 0, 1) := (congrArg (fun c => decode c 38) zeq215).trans (by decide +kernel)
theorem d215_39 : decode (zB 215) 39 = .ok (.getfield 100, 3) := (congrArg (fun c => decode c 39) zeq215).trans (by decide +kernel)
theorem d215_42 : decode (zB 215) 42 = .ok (.iload_n 1, 1) := (congrArg (fun c => decode c 42) zeq215).trans (by decide +kernel)
theorem d215_43 : decode (zB 215) 43 = .ok (.iaload, 1) := (congrArg (fun c => decode c 43) zeq215).trans (by decide +kernel)
theorem d215_44 : decode (zB 215) 44 = .ok (.aload_n 0, 1) := (congrArg (fun c => decode c 44) zeq215).trans (by decide +kernel)
theorem d215_45 : decode (zB 215) 45 = .ok (.getfield 100, 3) := (congrArg (fun c => decode c 45) zeq215).trans (by decide +kernel)
theorem d215_48 : decode (zB 215) 48 = .ok (.iload_n 3, 1) := (congrArg (fun c => decode c 48) zeq215).trans (by decide +kernel)
theorem d215_49 : decode (zB 215) 49 = .ok (.iaload, 1) := (congrArg (fun c => decode c 49) zeq215).trans (by decide +kernel)
theorem d215_50 : decode (zB 215) 50 = .ok (.if_icmp .eq 6, 3) := (congrArg (fun c => decode c 50) zeq215).trans (by decide +kernel)
theorem d215_53 : decode (zB 215) 53 = .ok (.bipush (-13), 2) := (congrArg (fun c => decode c 53) zeq215).trans (by decide +kernel)
theorem d215_55 : decode (zB 215) 55 = .ok (.ireturn, 1) := (congrArg (fun c => decode c 55) zeq215).trans (by decide +kernel)
theorem d215_56 : decode (zB 215) 56 = .ok (.iload 5, 2) := (congrArg (fun c => decode c 56) zeq215).trans (by decide +kernel)
theorem d215_58 : decode (zB 215) 58 = .ok (.ifCond .lt 39, 3) := (congrArg (fun c => decode c 58) zeq215).trans (by decide +kernel)
theorem d215_61 : decode (zB 215) 61 = .ok (.iload_n 2, 1) := (congrArg (fun c => decode c 61) zeq215).trans (by decide +kernel)
theorem d215_62 : decode (zB 215) 62 = .ok (.ifCond .lt 35, 3) := (congrArg (fun c => decode c 62) zeq215).trans (by decide +kernel)
theorem d215_65 : decode (zB 215) 65 = .ok (.iload 4, 2) := (congrArg (fun c => decode c 65) zeq215).trans (by decide +kernel)
theorem d215_67 : decode (zB 215) 67 = .ok (.ifCond .lt 30, 3) := (congrArg (fun c => decode c 67) zeq215).trans (by decide +kernel)
theorem d215_70 : decode (zB 215) 70 = .ok (.iload_n 2, 1) := (congrArg (fun c => decode c 70) zeq215).trans (by decide +kernel)
theorem d215_71 : decode (zB 215) 71 = .ok (.aload_n 0, 1) := (congrArg (fun c => decode c 71) zeq215).trans (by decide +kernel)
theorem d215_72 : decode (zB 215) 72 = .ok (.getfield 103, 3) := (congrArg (fun c => decode c 72) zeq215).trans (by decide +kernel)
theorem d215_75 : decode (zB 215) 75 = .ok (.iload_n 1, 1) := (congrArg (fun c => decode c 75) zeq215).trans (by decide +kernel)
theorem d215_76 : decode (zB 215) 76 = .ok (.iaload, 1) := (congrArg (fun c => decode c 76) zeq215).trans (by decide +kernel)
theorem d215_77 : decode (zB 215) 77 = .ok (.iload 5, 2) := (congrArg (fun c => decode c 77) zeq215).trans (by decide +kernel)
theorem d215_79 : decode (zB 215) 79 = .ok (.isub, 1) := (congrArg (fun c => decode c 79) zeq215).trans (by decide +kernel)
theorem d215_80 : decode (zB 215) 80 = .ok (.if_icmp .gt 17, 3) := (congrArg (fun c => decode c 80) zeq215).trans (by decide +kernel)
theorem d215_83 : decode (zB 215) 83 = .ok (.iload 4, 2) := (congrArg (fun c => decode c 83) zeq215).trans (by decide +kernel)
theorem d215_85 : decode (zB 215) 85 = .ok (.aload_n 0, 1) := (congrArg (fun c => decode c 85) zeq215).trans (by decide +kernel)
theorem d215_86 : decode (zB 215) 86 = .ok (.getfield 103, 3) := (congrArg (fun c => decode c 86) zeq215).trans (by decide +kernel)
theorem d215_89 : decode (zB 215) 89 = .ok (.iload_n 3, 1) := (congrArg (fun c => decode c 89) zeq215).trans (by decide +kernel)
theorem d215_90 : decode (zB 215) 90 = .ok (.iaload, 1) := (congrArg (fun c => decode c 90) zeq215).trans (by decide +kernel)
theorem d215_91 : decode (zB 215) 91 = .ok (.iload 5, 2) := (congrArg (fun c => decode c 91) zeq215).trans (by decide +kernel)
theorem d215_93 : decode (zB 215) 93 = .ok (.isub, 1) := (congrArg (fun c => decode c 93) zeq215).trans (by decide +kernel)
theorem d215_94 : decode (zB 215) 94 = .ok (.if_icmp .le 6, 3) := (congrArg (fun c => decode c 94) zeq215).trans (by decide +kernel)
theorem d215_97 : decode (zB 215) 97 = .ok (.bipush (-12), 2) := (congrArg (fun c => decode c 97) zeq215).trans (by decide +kernel)
theorem d215_99 : decode (zB 215) 99 = .ok (.ireturn, 1) := (congrArg (fun c => decode c 99) zeq215).trans (by decide +kernel)
theorem d215_100 : decode (zB 215) 100 = .ok (.aload_n 0, 1) := (congrArg (fun c => decode c 100) zeq215).trans (by decide +kernel)
theorem d215_101 : decode (zB 215) 101 = .ok (.getfield 106, 3) := (congrArg (fun c => decode c 101) zeq215).trans (by decide +kernel)
theorem d215_104 : decode (zB 215) 104 = .ok (.iload_n 1, 1) := (congrArg (fun c => decode c 104) zeq215).trans (by decide +kernel)
theorem d215_105 : decode (zB 215) 105 = .ok (.aaload, 1) := (congrArg (fun c => decode c 105) zeq215).trans (by decide +kernel)
theorem d215_106 : decode (zB 215) 106 = .ok (.iload_n 2, 1) := (congrArg (fun c => decode c 106) zeq215).trans (by decide +kernel)
theorem d215_107 : decode (zB 215) 107 = .ok (.aload_n 0, 1) := (congrArg (fun c => decode c 107) zeq215).trans (by decide +kernel)
theorem d215_108 : decode (zB 215) 108 = .ok (.getfield 109, 3) := (congrArg (fun c => decode c 108) zeq215).trans (by decide +kernel)
theorem d215_111 : decode (zB 215) 111 = .ok (.iconst 0, 1) := (congrArg (fun c => decode c 111) zeq215).trans (by decide +kernel)
theorem d215_112 : decode (zB 215) 112 = .ok (.iload 5, 2) := (congrArg (fun c => decode c 112) zeq215).trans (by decide +kernel)
theorem d215_114 : decode (zB 215) 114 = .ok (.invokestatic 285, 3) := (congrArg (fun c => decode c 114) zeq215).trans (by decide +kernel)
theorem d215_117 : decode (zB 215) 117 = .ok (.aload_n 0, 1) := (congrArg (fun c => decode c 117) zeq215).trans (by decide +kernel)
theorem d215_118 : decode (zB 215) 118 = .ok (.getfield 109, 3) := (congrArg (fun c => decode c 118) zeq215).trans (by decide +kernel)
theorem d215_121 : decode (zB 215) 121 = .ok (.iconst 0, 1) := (congrArg (fun c => decode c 121) zeq215).trans (by decide +kernel)
theorem d215_122 : decode (zB 215) 122 = .ok (.aload_n 0, 1) := (congrArg (fun c => decode c 122) zeq215).trans (by decide +kernel)
theorem d215_123 : decode (zB 215) 123 = .ok (.getfield 106, 3) := (congrArg (fun c => decode c 123) zeq215).trans (by decide +kernel)
theorem d215_126 : decode (zB 215) 126 = .ok (.iload_n 3, 1) := (congrArg (fun c => decode c 126) zeq215).trans (by decide +kernel)
theorem d215_127 : decode (zB 215) 127 = .ok (.aaload, 1) := (congrArg (fun c => decode c 127) zeq215).trans (by decide +kernel)
theorem d215_128 : decode (zB 215) 128 = .ok (.iload 4, 2) := (congrArg (fun c => decode c 128) zeq215).trans (by decide +kernel)
theorem d215_130 : decode (zB 215) 130 = .ok (.iload 5, 2) := (congrArg (fun c => decode c 130) zeq215).trans (by decide +kernel)
theorem d215_132 : decode (zB 215) 132 = .ok (.invokestatic 285, 3) := (congrArg (fun c => decode c 132) zeq215).trans (by decide +kernel)
theorem d215_135 : decode (zB 215) 135 = .ok (.iload 5, 2) := (congrArg (fun c => decode c 135) zeq215).trans (by decide +kernel)
theorem d215_137 : decode (zB 215) 137 = .ok (.ireturn, 1) := (congrArg (fun c => decode c 137) zeq215).trans (by decide +kernel)
theorem x215 {d : Nat} {M : zM} {Q : Option Value → zM → Prop} {D : yD} {κ : Nat} {x i y j n : Int32} (hR : RX M D κ) (hD : OKD D) (hκ : κ + 4000 < 2147483648) (k : ∀ M', RX M' D κ → Fi FY M M' → Q (some (.int (sCopy D x i y j n))) M') : qC (d + 3) 215 [.ref 136, .int x, .int i, .int y, .int j, .int n] M Q := by
  refine qC_of (by decide) (Nat.le_of_ble_eq_true rfl) ?_
  have hC := hR.1
  have hX := hC.1
  have hO : OKW (dT D) (dc D) (dW D) := hC.2.2.1
  have hc6 := hO.1.1
  have hL : XLo [] M (some (dL D)) := hC.2.2.2.2.2.2.1
  have hSa : ∀ s, s < 3 → XSa M s (dS D s) κ := hC.2.2.2.2.1
  have hTk := hC.k
  have hck := hC.2.2.2.2.2.1
  have h240 := hD.2.1
  unfold sCopy at k
  rcases zix_c x (n := 4) (by omega) with ⟨h, hh, rfl, eh⟩ | ⟨eh, nh⟩
  · rw [oz_s eh] at k
    rcases zix_c y (n := 4) (by omega) with ⟨q, hq, rfl, eq⟩ | ⟨eq, nq⟩
    · rw [oz_s eq] at k
      have hzh := (hD.2.2.2.2 h hh).1
      have hzq := (hD.2.2.2.2 q hq).1
      by_cases hs : (dR D h).1 = -1
      · rw [if_pos (Or.inl hs)] at k
        refine q_iload_n d215_0 rfl ?_
        refine q_s1 d215_1 (Or.inl rfl) rfl (Nat.le_of_ble_eq_true rfl) (c207t (by omega) ?_)
        refine n0_eq 14 d215_4 (by decide) (by decide) (fun q => absurd q (by decide)) (fun _ => ?_)
        refine q_iload_n d215_7 rfl ?_
        refine q_s1 d215_8 (Or.inl rfl) rfl (Nat.le_of_ble_eq_true rfl) (c207t (by omega) ?_)
        refine n0_ne 17 d215_11 (by decide) (by decide) (fun _ => ?_) (fun q => absurd q (by decide))
        refine q_aload_n d215_17 rfl ?_
        refine q_getr (c := 8) (f := 45) d215_18 ⟨rfl, rfl⟩ (xk_136 hX) (xf_sorts hX) ?_
        refine q_iload_n d215_21 rfl ?_
        refine n_iald d215_22 (xk_sorts hX) (by omega) (by decide) (hR.2.2.2.2 _ (by omega)).1 ?_
        refine i0_lt 35 d215_23 (by decide) (fun h23 => ?_) (fun h23 => (False.elim (h23 (by rw [hs]; decide))))
        refine q_bipush (x := (-11)) d215_35 rfl ?_
        refine q_iret d215_37 rfl ?_
        exact k _ hR (Fi.refl _ _)
      · have hso : (dR D h).1 = nI 0 ∨ (dR D h).1 = nI 1 := ((hD.2.2.2.2 h hh).2).resolve_left hs
        by_cases ht : (dR D q).1 = -1
        · rw [if_pos (Or.inr ht)] at k
          refine q_iload_n d215_0 rfl ?_
          refine q_s1 d215_1 (Or.inl rfl) rfl (Nat.le_of_ble_eq_true rfl) (c207t (by omega) ?_)
          refine n0_eq 14 d215_4 (by decide) (by decide) (fun q => absurd q (by decide)) (fun _ => ?_)
          refine q_iload_n d215_7 rfl ?_
          refine q_s1 d215_8 (Or.inl rfl) rfl (Nat.le_of_ble_eq_true rfl) (c207t (by omega) ?_)
          refine n0_ne 17 d215_11 (by decide) (by decide) (fun _ => ?_) (fun q => absurd q (by decide))
          refine q_aload_n d215_17 rfl ?_
          refine q_getr (c := 8) (f := 45) d215_18 ⟨rfl, rfl⟩ (xk_136 hX) (xf_sorts hX) ?_
          refine q_iload_n d215_21 rfl ?_
          refine n_iald d215_22 (xk_sorts hX) (by omega) (by decide) (hR.2.2.2.2 _ (by omega)).1 ?_
          refine i0_lt 35 d215_23 (by decide) (fun h23 => (False.elim (by rcases hso with e | e <;> rw [e] at h23 <;> exact absurd h23 (by decide)))) (fun h23 => ?_)
          refine q_aload_n d215_26 rfl ?_
          refine q_getr (c := 8) (f := 45) d215_27 ⟨rfl, rfl⟩ (xk_136 hX) (xf_sorts hX) ?_
          refine q_iload_n d215_30 rfl ?_
          refine n_iald d215_31 (xk_sorts hX) (by omega) (by decide) (hR.2.2.2.2 _ (by omega)).1 ?_
          refine i0_ge 38 d215_32 (by decide) (fun h32 => (False.elim (absurd h32 (by rw [ht]; decide)))) (fun h32 => ?_)
          refine q_bipush (x := (-11)) d215_35 rfl ?_
          refine q_iret d215_37 rfl ?_
          exact k _ hR (Fi.refl _ _)
        · have hto : (dR D q).1 = nI 0 ∨ (dR D q).1 = nI 1 := ((hD.2.2.2.2 q hq).2).resolve_left ht
          rw [if_neg (fun e => by rcases e with e | e; exact hs e; exact ht e)] at k
          by_cases hu : (dR D h).1 = (dR D q).1
          · rw [if_neg (fun e => e hu)] at k
            by_cases hc : ycp i j n (dR D h).2 (dR D q).2 = true
            · rw [if_pos hc] at k
              obtain ⟨a, b, v, rfl, rfl, rfl, hca, hcb⟩ := ycp_t hc (by omega) (by omega)
              refine q_iload_n d215_0 rfl ?_
              refine q_s1 d215_1 (Or.inl rfl) rfl (Nat.le_of_ble_eq_true rfl) (c207t (by omega) ?_)
              refine n0_eq 14 d215_4 (by decide) (by decide) (fun q => absurd q (by decide)) (fun _ => ?_)
              refine q_iload_n d215_7 rfl ?_
              refine q_s1 d215_8 (Or.inl rfl) rfl (Nat.le_of_ble_eq_true rfl) (c207t (by omega) ?_)
              refine n0_ne 17 d215_11 (by decide) (by decide) (fun _ => ?_) (fun q => absurd q (by decide))
              refine q_aload_n d215_17 rfl ?_
              refine q_getr (c := 8) (f := 45) d215_18 ⟨rfl, rfl⟩ (xk_136 hX) (xf_sorts hX) ?_
              refine q_iload_n d215_21 rfl ?_
              refine n_iald d215_22 (xk_sorts hX) (by omega) (by decide) (hR.2.2.2.2 _ (by omega)).1 ?_
              refine i0_lt 35 d215_23 (by decide) (fun h23 => (False.elim (by rcases hso with e | e <;> rw [e] at h23 <;> exact absurd h23 (by decide)))) (fun h23 => ?_)
              refine q_aload_n d215_26 rfl ?_
              refine q_getr (c := 8) (f := 45) d215_27 ⟨rfl, rfl⟩ (xk_136 hX) (xf_sorts hX) ?_
              refine q_iload_n d215_30 rfl ?_
              refine n_iald d215_31 (xk_sorts hX) (by omega) (by decide) (hR.2.2.2.2 _ (by omega)).1 ?_
              refine i0_ge 38 d215_32 (by decide) (fun h32 => ?_) (fun h32 => (False.elim (by rcases hto with e | e <;> rw [e] at h32 <;> exact absurd h32 (by decide))))
              refine q_aload_n d215_38 rfl ?_
              refine q_getr (c := 8) (f := 45) d215_39 ⟨rfl, rfl⟩ (xk_136 hX) (xf_sorts hX) ?_
              refine q_iload_n d215_42 rfl ?_
              refine n_iald d215_43 (xk_sorts hX) (by omega) (by decide) (hR.2.2.2.2 _ (by omega)).1 ?_
              refine q_aload_n d215_44 rfl ?_
              refine q_getr (c := 8) (f := 45) d215_45 ⟨rfl, rfl⟩ (xk_136 hX) (xf_sorts hX) ?_
              refine q_iload_n d215_48 rfl ?_
              refine n_iald d215_49 (xk_sorts hX) (by omega) (by decide) (hR.2.2.2.2 _ (by omega)).1 ?_
              refine ic_eq 56 d215_50 (by decide) (fun h50 => ?_) (fun h50 => (False.elim (h50 hu)))
              refine q_iload d215_56 rfl ?_
              refine n0_lt 97 d215_58 (by decide) (by omega) (fun q => absurd q (Nat.not_lt_zero _)) (fun _ => ?_)
              refine q_iload_n d215_61 rfl ?_
              refine n0_lt 97 d215_62 (by decide) (by omega) (fun q => absurd q (Nat.not_lt_zero _)) (fun _ => ?_)
              refine q_iload d215_65 rfl ?_
              refine n0_lt 97 d215_67 (by decide) (by omega) (fun q => absurd q (Nat.not_lt_zero _)) (fun _ => ?_)
              refine q_iload_n d215_70 rfl ?_
              refine q_aload_n d215_71 rfl ?_
              refine q_getr (c := 8) (f := 46) d215_72 ⟨rfl, rfl⟩ (xk_136 hX) (xf_lengths hX) ?_
              refine q_iload_n d215_75 rfl ?_
              refine n_iald d215_76 (xk_lengths hX) (by omega) (by decide) (hR.2.2.2.2 _ (by omega)).2 ?_
              refine q_iload d215_77 rfl ?_
              refine n_isub d215_79 (by omega) ?_
              refine nc_gt 97 d215_80 (by decide) (by omega) (by omega) (fun h80 => (False.elim (by omega))) (fun h80 => ?_)
              refine q_iload d215_83 rfl ?_
              refine q_aload_n d215_85 rfl ?_
              refine q_getr (c := 8) (f := 46) d215_86 ⟨rfl, rfl⟩ (xk_136 hX) (xf_lengths hX) ?_
              refine q_iload_n d215_89 rfl ?_
              refine n_iald d215_90 (xk_lengths hX) (by omega) (by decide) (hR.2.2.2.2 _ (by omega)).2 ?_
              refine q_iload d215_91 rfl ?_
              refine n_isub d215_93 (by omega) ?_
              refine nc_le 100 d215_94 (by decide) (by omega) (by omega) (fun h94 => ?_) (fun h94 => (False.elim (by omega)))
              refine q_aload_n d215_100 rfl ?_
              refine q_getr (c := 8) (f := 47) d215_101 ⟨rfl, rfl⟩ (xk_136 hX) (xf_items hX) ?_
              refine q_iload_n d215_104 rfl ?_
              refine n_aald d215_105 (xk_items hX) (by decide) (by omega) (by decide) (xr_items hX (by omega)) ?_
              refine q_iload_n d215_106 rfl ?_
              refine q_aload_n d215_107 rfl ?_
              refine q_getr (c := 8) (f := 48) d215_108 ⟨rfl, rfl⟩ (xk_136 hX) (xf_passed hX) ?_
              refine q_iconstN (z := 0) d215_111 ?_
              refine q_iload d215_112 rfl ?_
              refine n_copy d215_114 rfl (xa_items hX (by omega)) (xk_passed hX) (by decide) (by decide) (by omega) (by omega) (Nat.le_of_ble_eq_true rfl) ?_
              refine q_aload_n d215_117 rfl ?_
              refine q_getr (c := 8) (f := 48) d215_118 ⟨rfl, rfl⟩ (xk_136 hX) (xf_passed hX) ?_
              refine q_iconstN (z := 0) d215_121 ?_
              refine q_aload_n d215_122 rfl ?_
              refine q_getr (c := 8) (f := 47) d215_123 ⟨rfl, rfl⟩ (xk_136 hX) (xf_items hX) ?_
              refine q_iload_n d215_126 rfl ?_
              refine n_aald d215_127 (xk_items hX) (by decide) (by omega) (by decide) (xr_items hX (by omega)) ?_
              refine q_iload d215_128 rfl ?_
              refine q_iload d215_130 rfl ?_
              refine n_copy d215_132 rfl (xk_passed hX) (xa_items hX (by omega)) (by decide) (by decide) (by omega) (by omega) (Nat.le_of_ble_eq_true rfl) ?_
              refine q_iload d215_135 rfl ?_
              refine q_iret d215_137 rfl ?_
              have f1 : Fi (fun a _ => 320 < a) M (zcp (zcp M (322 + h) a 326 0 v) 326 0 (322 + q) b v) := ((Fi.refl _ _).cp (fun _ _ _ => by omega)).cp (fun _ _ _ => by omega)
              exact k _ (hR.items f1) (f1.mono (fun b k q => by unfold FY; omega))
            · rw [if_neg hc] at k
              refine q_iload_n d215_0 rfl ?_
              refine q_s1 d215_1 (Or.inl rfl) rfl (Nat.le_of_ble_eq_true rfl) (c207t (by omega) ?_)
              refine n0_eq 14 d215_4 (by decide) (by decide) (fun q => absurd q (by decide)) (fun _ => ?_)
              refine q_iload_n d215_7 rfl ?_
              refine q_s1 d215_8 (Or.inl rfl) rfl (Nat.le_of_ble_eq_true rfl) (c207t (by omega) ?_)
              refine n0_ne 17 d215_11 (by decide) (by decide) (fun _ => ?_) (fun q => absurd q (by decide))
              refine q_aload_n d215_17 rfl ?_
              refine q_getr (c := 8) (f := 45) d215_18 ⟨rfl, rfl⟩ (xk_136 hX) (xf_sorts hX) ?_
              refine q_iload_n d215_21 rfl ?_
              refine n_iald d215_22 (xk_sorts hX) (by omega) (by decide) (hR.2.2.2.2 _ (by omega)).1 ?_
              refine i0_lt 35 d215_23 (by decide) (fun h23 => (False.elim (by rcases hso with e | e <;> rw [e] at h23 <;> exact absurd h23 (by decide)))) (fun h23 => ?_)
              refine q_aload_n d215_26 rfl ?_
              refine q_getr (c := 8) (f := 45) d215_27 ⟨rfl, rfl⟩ (xk_136 hX) (xf_sorts hX) ?_
              refine q_iload_n d215_30 rfl ?_
              refine n_iald d215_31 (xk_sorts hX) (by omega) (by decide) (hR.2.2.2.2 _ (by omega)).1 ?_
              refine i0_ge 38 d215_32 (by decide) (fun h32 => ?_) (fun h32 => (False.elim (by rcases hto with e | e <;> rw [e] at h32 <;> exact absurd h32 (by decide))))
              refine q_aload_n d215_38 rfl ?_
              refine q_getr (c := 8) (f := 45) d215_39 ⟨rfl, rfl⟩ (xk_136 hX) (xf_sorts hX) ?_
              refine q_iload_n d215_42 rfl ?_
              refine n_iald d215_43 (xk_sorts hX) (by omega) (by decide) (hR.2.2.2.2 _ (by omega)).1 ?_
              refine q_aload_n d215_44 rfl ?_
              refine q_getr (c := 8) (f := 45) d215_45 ⟨rfl, rfl⟩ (xk_136 hX) (xf_sorts hX) ?_
              refine q_iload_n d215_48 rfl ?_
              refine n_iald d215_49 (xk_sorts hX) (by omega) (by decide) (hR.2.2.2.2 _ (by omega)).1 ?_
              refine ic_eq 56 d215_50 (by decide) (fun h50 => ?_) (fun h50 => (False.elim (h50 hu)))
              refine q_iload d215_56 rfl ?_
              refine i0_lt 97 d215_58 (by decide) (fun h58 => ?_) (fun h58 => ?_)
              · refine q_bipush (x := (-12)) d215_97 rfl ?_
                refine q_iret d215_99 rfl ?_
                exact k _ hR (Fi.refl _ _)
              · refine q_iload_n d215_61 rfl ?_
                refine i0_lt 97 d215_62 (by decide) (fun h62 => ?_) (fun h62 => ?_)
                · refine q_bipush (x := (-12)) d215_97 rfl ?_
                  refine q_iret d215_99 rfl ?_
                  exact k _ hR (Fi.refl _ _)
                · refine q_iload d215_65 rfl ?_
                  refine i0_lt 97 d215_67 (by decide) (fun h67 => ?_) (fun h67 => ?_)
                  · refine q_bipush (x := (-12)) d215_97 rfl ?_
                    refine q_iret d215_99 rfl ?_
                    exact k _ hR (Fi.refl _ _)
                  · refine q_iload_n d215_70 rfl ?_
                    refine q_aload_n d215_71 rfl ?_
                    refine q_getr (c := 8) (f := 46) d215_72 ⟨rfl, rfl⟩ (xk_136 hX) (xf_lengths hX) ?_
                    refine q_iload_n d215_75 rfl ?_
                    refine n_iald d215_76 (xk_lengths hX) (by omega) (by decide) (hR.2.2.2.2 _ (by omega)).2 ?_
                    refine q_iload d215_77 rfl ?_
                    refine q_isub d215_79 ?_
                    refine ic_gt 97 d215_80 (by decide) (fun h80 => ?_) (fun h80 => ?_)
                    · refine q_bipush (x := (-12)) d215_97 rfl ?_
                      refine q_iret d215_99 rfl ?_
                      exact k _ hR (Fi.refl _ _)
                    · refine q_iload d215_83 rfl ?_
                      refine q_aload_n d215_85 rfl ?_
                      refine q_getr (c := 8) (f := 46) d215_86 ⟨rfl, rfl⟩ (xk_136 hX) (xf_lengths hX) ?_
                      refine q_iload_n d215_89 rfl ?_
                      refine n_iald d215_90 (xk_lengths hX) (by omega) (by decide) (hR.2.2.2.2 _ (by omega)).2 ?_
                      refine q_iload d215_91 rfl ?_
                      refine q_isub d215_93 ?_
                      refine ic_le 100 d215_94 (by decide) (fun h94 => ?_) (fun h94 => ?_)
                      · obtain ⟨v, hv, rfl⟩ := nI_of (x := n) (by first | exact h58 | exact Int32.not_lt.mpr h58)
                        obtain ⟨a, ha, rfl⟩ := nI_of (x := i) (by first | exact h62 | exact Int32.not_lt.mpr h62)
                        obtain ⟨b, hb, rfl⟩ := nI_of (x := j) (by first | exact h67 | exact Int32.not_lt.mpr h67)
                        have c1 := nI_sub_le hzh hv ha (by first | exact h80 | exact Int32.not_lt.mpr h80)
                        have c2 := nI_sub_le hzq hv hb (by first | exact h94 | exact Int32.not_lt.mpr h94)
                        exact (hc (decide_eq_true ⟨by rw [nI_toInt hv]; omega, by rw [nI_toInt ha]; omega, by rw [nI_toInt hb]; omega, by rw [nI_toInt ha, nI_toInt hv]; omega, by rw [nI_toInt hb, nI_toInt hv]; omega⟩)).elim
                      · refine q_bipush (x := (-12)) d215_97 rfl ?_
                        refine q_iret d215_99 rfl ?_
                        exact k _ hR (Fi.refl _ _)
          · rw [if_pos hu] at k
            refine q_iload_n d215_0 rfl ?_
            refine q_s1 d215_1 (Or.inl rfl) rfl (Nat.le_of_ble_eq_true rfl) (c207t (by omega) ?_)
            refine n0_eq 14 d215_4 (by decide) (by decide) (fun q => absurd q (by decide)) (fun _ => ?_)
            refine q_iload_n d215_7 rfl ?_
            refine q_s1 d215_8 (Or.inl rfl) rfl (Nat.le_of_ble_eq_true rfl) (c207t (by omega) ?_)
            refine n0_ne 17 d215_11 (by decide) (by decide) (fun _ => ?_) (fun q => absurd q (by decide))
            refine q_aload_n d215_17 rfl ?_
            refine q_getr (c := 8) (f := 45) d215_18 ⟨rfl, rfl⟩ (xk_136 hX) (xf_sorts hX) ?_
            refine q_iload_n d215_21 rfl ?_
            refine n_iald d215_22 (xk_sorts hX) (by omega) (by decide) (hR.2.2.2.2 _ (by omega)).1 ?_
            refine i0_lt 35 d215_23 (by decide) (fun h23 => (False.elim (by rcases hso with e | e <;> rw [e] at h23 <;> exact absurd h23 (by decide)))) (fun h23 => ?_)
            refine q_aload_n d215_26 rfl ?_
            refine q_getr (c := 8) (f := 45) d215_27 ⟨rfl, rfl⟩ (xk_136 hX) (xf_sorts hX) ?_
            refine q_iload_n d215_30 rfl ?_
            refine n_iald d215_31 (xk_sorts hX) (by omega) (by decide) (hR.2.2.2.2 _ (by omega)).1 ?_
            refine i0_ge 38 d215_32 (by decide) (fun h32 => ?_) (fun h32 => (False.elim (by rcases hto with e | e <;> rw [e] at h32 <;> exact absurd h32 (by decide))))
            refine q_aload_n d215_38 rfl ?_
            refine q_getr (c := 8) (f := 45) d215_39 ⟨rfl, rfl⟩ (xk_136 hX) (xf_sorts hX) ?_
            refine q_iload_n d215_42 rfl ?_
            refine n_iald d215_43 (xk_sorts hX) (by omega) (by decide) (hR.2.2.2.2 _ (by omega)).1 ?_
            refine q_aload_n d215_44 rfl ?_
            refine q_getr (c := 8) (f := 45) d215_45 ⟨rfl, rfl⟩ (xk_136 hX) (xf_sorts hX) ?_
            refine q_iload_n d215_48 rfl ?_
            refine n_iald d215_49 (xk_sorts hX) (by omega) (by decide) (hR.2.2.2.2 _ (by omega)).1 ?_
            refine ic_eq 56 d215_50 (by decide) (fun h50 => (False.elim (hu h50))) (fun h50 => ?_)
            refine q_bipush (x := (-13)) d215_53 rfl ?_
            refine q_iret d215_55 rfl ?_
            exact k _ hR (Fi.refl _ _)
    · rw [oz_n eq] at k
      refine q_iload_n d215_0 rfl ?_
      refine q_s1 d215_1 (Or.inl rfl) rfl (Nat.le_of_ble_eq_true rfl) (c207t (by omega) ?_)
      refine n0_eq 14 d215_4 (by decide) (by decide) (fun q => absurd q (by decide)) (fun _ => ?_)
      refine q_iload_n d215_7 rfl ?_
      refine q_s1 d215_8 (Or.inl rfl) rfl (Nat.le_of_ble_eq_true rfl) (c207f eq ?_)
      refine n0_ne 17 d215_11 (by decide) (by decide) (fun q => absurd q (by decide)) (fun _ => ?_)
      refine q_bipush (x := (-2)) d215_14 rfl ?_
      refine q_iret d215_16 rfl ?_
      exact k _ hR (Fi.refl _ _)
  · rw [oz_n eh] at k
    refine q_iload_n d215_0 rfl ?_
    refine q_s1 d215_1 (Or.inl rfl) rfl (Nat.le_of_ble_eq_true rfl) (c207f eh ?_)
    refine n0_eq 14 d215_4 (by decide) (by decide) (fun _ => ?_) (fun q => absurd q (by decide))
    refine q_bipush (x := (-2)) d215_14 rfl ?_
    refine q_iret d215_16 rfl ?_
    exact k _ hR (Fi.refl _ _)
/-! ===== the reference: drawn ===== -/
theorem d203_0 : decode (zB 203) 0 = .ok (.iconst 0, 1) := (congrArg (fun c => decode c 0) zeq203).trans (by decide +kernel)
theorem d203_1 : decode (zB 203) 1 = .ok (.istore_n 3, 1) := (congrArg (fun c => decode c 1) zeq203).trans (by decide +kernel)
theorem d203_2 : decode (zB 203) 2 = .ok (.iload_n 3, 1) := (congrArg (fun c => decode c 2) zeq203).trans (by decide +kernel)
theorem d203_3 : decode (zB 203) 3 = .ok (.bipush 12, 2) := (congrArg (fun c => decode c 3) zeq203).trans (by decide +kernel)
theorem d203_5 : decode (zB 203) 5 = .ok (.if_icmp .ge 15, 3) := (congrArg (fun c => decode c 5) zeq203).trans (by decide +kernel)
theorem d203_8 : decode (zB 203) 8 = .ok (.aload_n 2, 1) := (congrArg (fun c => decode c 8) zeq203).trans (by decide +kernel)
theorem d203_9 : decode (zB 203) 9 = .ok (.iload_n 1, 1) := (congrArg (fun c => decode c 9) zeq203).trans (by decide +kernel)
theorem d203_10 : decode (zB 203) 10 = .ok (.aaload, 1) := (congrArg (fun c => decode c 10) zeq203).trans (by decide +kernel)
theorem d203_11 : decode (zB 203) 11 = .ok (.iload_n 3, 1) := (congrArg (fun c => decode c 11) zeq203).trans (by decide +kernel)
theorem d203_12 : decode (zB 203) 12 = .ok (.iconst 0, 1) := (congrArg (fun c => decode c 12) zeq203).trans (by decide +kernel)
theorem d203_13 : decode (zB 203) 13 = .ok (.iastore, 1) := (congrArg (fun c => decode c 13) zeq203).trans (by decide +kernel)
theorem d203_14 : decode (zB 203) 14 = .ok (.iinc 3 1, 3) := (congrArg (fun c => decode c 14) zeq203).trans (by decide +kernel)
theorem d203_17 : decode (zB 203) 17 = .ok (.goto (-15), 3) := (congrArg (fun c => decode c 17) zeq203).trans (by decide +kernel)
theorem d203_20 : decode (zB 203) 20 = .ok (.return_, 1) := (congrArg (fun c => decode c 20) zeq203).trans (by decide +kernel)
theorem l203 {d : Nat} {Q : Option Value → zM → Prop} {M0 : zM} {s b : Nat} (hX0 : SX M0) (hs : s < 3) (hb : b = 197 ∨ b = 201) (k : ∀ M', (∀ j, j < 12 → zi M' (b + 1 + s) j = nI 0) → Fi (fun x _ => x = b + 1 + s) M0 M' → Q none M') : ∀ (r i : Nat) (M1 : zM), i ≤ 12 → 12 < i + r →  Fi (fun x _ => x = b + 1 + s) M0 M1 → (∀ j, j < i → zi M1 (b + 1 + s) j = nI 0) → qW (zEv (d + 0)) 203 Q 2 [(3, .int (nI i)), (0, .ref 136), (1, .int (nI s)), (2, .ref b)] [] M1 := by
  intro r
  induction r with
  | zero => intros; omega
  | succ r ih =>
    intro i M1 h1 h2 hF hz
    have hX := SX_fi hX0 hF
    have hbk : zk M1 b = (25, 3) := by rcases hb with rfl | rfl; exact xk_plans hX; exact xk_undoPlans hX
    have hbr : zr M1 b s = some (b + 1 + s) := by rcases hb with rfl | rfl; exact xr_plans hX hs; exact xr_undoPlans hX hs
    have hba : zk M1 (b + 1 + s) = (20, 12) := by rcases hb with rfl | rfl; exact xa_plans hX hs; exact xa_undoPlans hX hs
    refine q_iload_n d203_2 rfl ?_
    refine q_bipush (x := nI 12) d203_3 rfl ?_
    refine nc_ge 20 d203_5 (by decide) (by omega) (by omega) (fun h5 => ?_) (fun h5 => ?_)
    · refine q_ret d203_20 rfl ?_
      exact k _ (fun j hj => hz j (by omega)) hF
    · refine q_aload_n d203_8 rfl ?_
      refine q_iload_n d203_9 rfl ?_
      refine n_aald d203_10 hbk (by decide) (by omega) (by decide) hbr ?_
      refine q_iload_n d203_11 rfl ?_
      refine q_iconstN (z := 0) d203_12 ?_
      refine n_iast d203_13 hba (by omega) (by decide) ?_
      refine n_iinc 1 d203_14 (by decide) rfl rfl ?_
      refine q_goto 2 d203_17 (by decide) ?_
      exact ih (i + 1) _ (by omega) (by omega) (hF.wi rfl) (fun j hj => by by_cases e : j = i; (subst e; exact wi_s _ _ _ _); (rw [wi_n (by omega)]; exact hz j (by omega)))
theorem c203 {d : Nat} {M : zM} {Q : Option Value → zM → Prop} {s b : Nat} (hX : SX M) (hs : s < 3) (hb : b = 197 ∨ b = 201) (k : ∀ M', (∀ j, j < 12 → zi M' (b + 1 + s) j = nI 0) → Fi (fun x _ => x = b + 1 + s) M M' → Q none M') : qC (d + 1) 203 [.ref 136, .int (nI s), .ref b] M Q := by
  refine qC_of (by decide) (Nat.le_of_ble_eq_true rfl) ?_
  refine q_iconstN (z := 0) d203_0 ?_
  refine q_istore_n d203_1 (by decide) rfl ?_
  exact l203 hX hs hb k 13 0 M (by omega) (by omega) (Fi.refl _ _) (fun j hj => by omega)
/-- a saga's plans are others -/
theorem CX.pl {G : List yL} {M M' : zM} {T : Nat → yT} {c s κ : Nat} {nm : Nat → Nat → Int32} {X : yX} {p q : Nat → Int32} (h : CX G M T c nm X κ) (hs : s < 3) (f : Fi (fun b _ => b = 198 + s ∨ b = 202 + s) M M') (hp : ∀ j, j < 12 → zi M' (198 + s) j = p j) (hq : ∀ j, j < 12 → zi M' (202 + s) j = q j) : CX G M' T c nm (yss X s (gqS (gpS (yxs X s) p) q)) κ := by
  obtain ⟨h1, h2, h3, h4, h5, h6, h7, h8⟩ := h
  refine ⟨SX_fi h1 f, XTx_fi h2 h3.1.1 f (fun b k b1 b2 q => by omega), OKW_ss h3 (S := gqS (gpS (yxs X s) p) q) (h3.2.2 s hs), XPu_fi h4 f (fun b k q1 q2 => by unfold GP at q1; omega), fun r hr => ?_, (f.1 _ _ (by omega)).trans h6, h7.fi f (fun b k q => by unfold GL at q; omega), h8.fi (fun k hk => f.1 _ _ (by omega)) (fun r hr hg => ?_)⟩
  · show XSa M' r (yu X.1.2 s (gqS (gpS (yxs X s) p) q) r) κ
    by_cases e : r = s
    · subst e
      rw [yu_s]
      obtain ⟨⟨a1, a2⟩, a3, a4, w, a5, a6⟩ := h5 r hr
      exact ⟨⟨(f.1 _ _ (by omega)).trans a1, (f.1 _ _ (by omega)).trans a2⟩, fun k hk => ⟨(f.1 _ _ (by omega)).trans (a3 k hk).1, (f.1 _ _ (by omega)).trans (a3 k hk).2.1, (f.1 _ _ (by omega)).trans (a3 k hk).2.2.1, hp k hk, hq k hk⟩, fun k hk q => (f.1 _ _ (by omega)).trans (a4 k hk q), w, fun i hi => ⟨(f.1 _ _ (by omega)).trans (a5 i hi).1, (a5 i hi).2⟩, a6⟩
    · rw [yu_n e]
      exact (h5 r hr).fi f (fun b k q1 q2 => by unfold GS at q1; omega)
  · have hg : gt (yu X.1.2 s (gqS (gpS (yxs X s) p) q) r) ≠ 0 := hg
    show gt (X.1.2 r) ≠ 0 ∧ gx (yu X.1.2 s (gqS (gpS (yxs X s) p) q) r) = gx (X.1.2 r)
    by_cases e : r = s
    · subst e; rw [yu_s] at hg ⊢; exact ⟨hg, rfl⟩
    · rw [yu_n e] at hg ⊢; exact ⟨hg, rfl⟩
theorem CX.dr {G : List yL} {M M' : zM} {T : Nat → yT} {c i κ : Nat} {nm : Nat → Nat → Int32} {X : yX} (h : CX G M T c nm (ydp i X) κ) (hi : i < 3) (f : Fi (fun b _ => b = 198 + i ∨ b = 202 + i) M M') (hp : ∀ j, j < 12 → zi M' (198 + i) j = nI 0) (hq : ∀ j, j < 12 → zi M' (202 + i) j = nI 0) : CX G M' T c nm (ydp (i + 1) X) κ := by
  have e : yxs (ydp i X) i = X.1.2 i := if_neg (Nat.lt_irrefl i)
  have h1 := h.pl (p := fun _ => 0) (q := fun _ => 0) hi f hp hq
  rw [e] at h1
  rw [← ydp_S]
  exact h1
theorem CX.zs {G : List yL} {M : zM} {T : Nat → yT} {c s i κ : Nat} {z : Int32} {nm : Nat → Nat → Int32} {X : yX} (h : CX G M T c nm (yzX X s z i) κ) (hs : s < 3) (hi : i < 12) : CX G (zwi M (198 + s) i (yzp (yzs z (i + 1)))) T c nm (yzX X s z (i + 1)) κ := by
  have hsa := h.2.2.2.2.1 s hs
  have e : (yzX X s z i).1.2 s = gpS (yxs X s) (yzq z i) := yu_s _ _ _
  have h1 := h.pl (M' := zwi M (198 + s) i (yzp (yzs z (i + 1)))) (p := yzq z (i + 1)) (q := gq (yxs (yzX X s z i) s)) hs ((Fi.refl _ _).wi (Or.inl rfl)) (fun j hj => by
    rw [← yzq_s]
    have h2 := (hsa.2.1 j hj).2.2.2.1
    rw [e] at h2
    exact wi_or rfl h2) (fun j hj => (wi_n (by omega)).trans (hsa.2.1 j hj).2.2.2.2)
  unfold yzX at h1
  rw [yxs_s, yss_yss] at h1
  exact h1
theorem d202_0 : decode (zB 202) 0 = .ok (.aload_n 0, 1) := (congrArg (fun c => decode c 0) zeq202).trans (by decide +kernel)
theorem d202_1 : decode (zB 202) 1 = .ok (.invokevirtual 372, 3) := (congrArg (fun c => decode c 1) zeq202).trans (by decide +kernel)
theorem d202_4 : decode (zB 202) 4 = .ok (.iconst 0, 1) := (congrArg (fun c => decode c 4) zeq202).trans (by decide +kernel)
theorem d202_5 : decode (zB 202) 5 = .ok (.istore_n 3, 1) := (congrArg (fun c => decode c 5) zeq202).trans (by decide +kernel)
theorem d202_6 : decode (zB 202) 6 = .ok (.iload_n 3, 1) := (congrArg (fun c => decode c 6) zeq202).trans (by decide +kernel)
theorem d202_7 : decode (zB 202) 7 = .ok (.iconst 3, 1) := (congrArg (fun c => decode c 7) zeq202).trans (by decide +kernel)
theorem d202_8 : decode (zB 202) 8 = .ok (.if_icmp .ge 27, 3) := (congrArg (fun c => decode c 8) zeq202).trans (by decide +kernel)
theorem d202_11 : decode (zB 202) 11 = .ok (.aload_n 0, 1) := (congrArg (fun c => decode c 11) zeq202).trans (by decide +kernel)
theorem d202_12 : decode (zB 202) 12 = .ok (.iload_n 3, 1) := (congrArg (fun c => decode c 12) zeq202).trans (by decide +kernel)
theorem d202_13 : decode (zB 202) 13 = .ok (.aload_n 0, 1) := (congrArg (fun c => decode c 13) zeq202).trans (by decide +kernel)
theorem d202_14 : decode (zB 202) 14 = .ok (.getfield 57, 3) := (congrArg (fun c => decode c 14) zeq202).trans (by decide +kernel)
theorem d202_17 : decode (zB 202) 17 = .ok (.invokevirtual 378, 3) := (congrArg (fun c => decode c 17) zeq202).trans (by decide +kernel)
theorem d202_20 : decode (zB 202) 20 = .ok (.aload_n 0, 1) := (congrArg (fun c => decode c 20) zeq202).trans (by decide +kernel)
theorem d202_21 : decode (zB 202) 21 = .ok (.iload_n 3, 1) := (congrArg (fun c => decode c 21) zeq202).trans (by decide +kernel)
theorem d202_22 : decode (zB 202) 22 = .ok (.aload_n 0, 1) := (congrArg (fun c => decode c 22) zeq202).trans (by decide +kernel)
theorem d202_23 : decode (zB 202) 23 = .ok (.getfield 60, 3) := (congrArg (fun c => decode c 23) zeq202).trans (by decide +kernel)
theorem d202_26 : decode (zB 202) 26 = .ok (.invokevirtual 378, 3) := (congrArg (fun c => decode c 26) zeq202).trans (by decide +kernel)
theorem d202_29 : decode (zB 202) 29 = .ok (.iinc 3 1, 3) := (congrArg (fun c => decode c 29) zeq202).trans (by decide +kernel)
theorem d202_32 : decode (zB 202) 32 = .ok (.goto (-26), 3) := (congrArg (fun c => decode c 32) zeq202).trans (by decide +kernel)
theorem d202_35 : decode (zB 202) 35 = .ok (.iload_n 2, 1) := (congrArg (fun c => decode c 35) zeq202).trans (by decide +kernel)
theorem d202_36 : decode (zB 202) 36 = .ok (.istore_n 3, 1) := (congrArg (fun c => decode c 36) zeq202).trans (by decide +kernel)
theorem d202_37 : decode (zB 202) 37 = .ok (.iconst 0, 1) := (congrArg (fun c => decode c 37) zeq202).trans (by decide +kernel)
theorem d202_38 : decode (zB 202) 38 = .ok (.istore 4, 2) := (congrArg (fun c => decode c 38) zeq202).trans (by decide +kernel)
theorem d202_40 : decode (zB 202) 40 = .ok (.iload 4, 2) := (congrArg (fun c => decode c 40) zeq202).trans (by decide +kernel)
theorem d202_42 : decode (zB 202) 42 = .ok (.aload_n 0, 1) := (congrArg (fun c => decode c 42) zeq202).trans (by decide +kernel)
theorem d202_43 : decode (zB 202) 43 = .ok (.getfield 9, 3) := (congrArg (fun c => decode c 43) zeq202).trans (by decide +kernel)
theorem d202_46 : decode (zB 202) 46 = .ok (.aload_n 0, 1) := (congrArg (fun c => decode c 46) zeq202).trans (by decide +kernel)
theorem d202_47 : decode (zB 202) 47 = .ok (.getfield 39, 3) := (congrArg (fun c => decode c 47) zeq202).trans (by decide +kernel)
theorem d202_50 : decode (zB 202) 50 = .ok (.iload_n 1, 1) := (congrArg (fun c => decode c 50) zeq202).trans (by decide +kernel)
theorem d202_51 : decode (zB 202) 51 = .ok (.iaload, 1) := (congrArg (fun c => decode c 51) zeq202).trans (by decide +kernel)
theorem d202_52 : decode (zB 202) 52 = .ok (.iaload, 1) := (congrArg (fun c => decode c 52) zeq202).trans (by decide +kernel)
theorem d202_53 : decode (zB 202) 53 = .ok (.if_icmp .ge 42, 3) := (congrArg (fun c => decode c 53) zeq202).trans (by decide +kernel)
theorem d202_56 : decode (zB 202) 56 = .ok (.iload_n 3, 1) := (congrArg (fun c => decode c 56) zeq202).trans (by decide +kernel)
theorem d202_57 : decode (zB 202) 57 = .ok (.ldc_w 382, 3) := (congrArg (fun c => decode c 57) zeq202).trans (by decide +kernel)
theorem d202_60 : decode (zB 202) 60 = .ok (.imul, 1) := (congrArg (fun c => decode c 60) zeq202).trans (by decide +kernel)
theorem d202_61 : decode (zB 202) 61 = .ok (.sipush 12345, 3) := (congrArg (fun c => decode c 61) zeq202).trans (by decide +kernel)
theorem d202_64 : decode (zB 202) 64 = .ok (.iadd, 1) := (congrArg (fun c => decode c 64) zeq202).trans (by decide +kernel)
theorem d202_65 : decode (zB 202) 65 = .ok (.istore_n 3, 1) := (congrArg (fun c => decode c 65) zeq202).trans (by decide +kernel)
theorem d202_66 : decode (zB 202) 66 = .ok (.aload_n 0, 1) := (congrArg (fun c => decode c 66) zeq202).trans (by decide +kernel)
theorem d202_67 : decode (zB 202) 67 = .ok (.getfield 57, 3) := (congrArg (fun c => decode c 67) zeq202).trans (by decide +kernel)
theorem d202_70 : decode (zB 202) 70 = .ok (.iload_n 1, 1) := (congrArg (fun c => decode c 70) zeq202).trans (by decide +kernel)
theorem d202_71 : decode (zB 202) 71 = .ok (.aaload, 1) := (congrArg (fun c => decode c 71) zeq202).trans (by decide +kernel)
theorem d202_72 : decode (zB 202) 72 = .ok (.iload 4, 2) := (congrArg (fun c => decode c 72) zeq202).trans (by decide +kernel)
theorem d202_74 : decode (zB 202) 74 = .ok (.iload_n 3, 1) := (congrArg (fun c => decode c 74) zeq202).trans (by decide +kernel)
theorem d202_75 : decode (zB 202) 75 = .ok (.bipush 9, 2) := (congrArg (fun c => decode c 75) zeq202).trans (by decide +kernel)
theorem d202_77 : decode (zB 202) 77 = .ok (.iushr, 1) := (congrArg (fun c => decode c 77) zeq202).trans (by decide +kernel)
theorem d202_78 : decode (zB 202) 78 = .ok (.iconst 4, 1) := (congrArg (fun c => decode c 78) zeq202).trans (by decide +kernel)
theorem d202_79 : decode (zB 202) 79 = .ok (.irem, 1) := (congrArg (fun c => decode c 79) zeq202).trans (by decide +kernel)
theorem d202_80 : decode (zB 202) 80 = .ok (.ifCond .ne 7, 3) := (congrArg (fun c => decode c 80) zeq202).trans (by decide +kernel)
theorem d202_83 : decode (zB 202) 83 = .ok (.iconst 1, 1) := (congrArg (fun c => decode c 83) zeq202).trans (by decide +kernel)
theorem d202_84 : decode (zB 202) 84 = .ok (.goto 4, 3) := (congrArg (fun c => decode c 84) zeq202).trans (by decide +kernel)
theorem d202_87 : decode (zB 202) 87 = .ok (.iconst 0, 1) := (congrArg (fun c => decode c 87) zeq202).trans (by decide +kernel)
theorem d202_88 : decode (zB 202) 88 = .ok (.iastore, 1) := (congrArg (fun c => decode c 88) zeq202).trans (by decide +kernel)
theorem d202_89 : decode (zB 202) 89 = .ok (.iinc 4 1, 3) := (congrArg (fun c => decode c 89) zeq202).trans (by decide +kernel)
theorem d202_92 : decode (zB 202) 92 = .ok (.goto (-52), 3) := (congrArg (fun c => decode c 92) zeq202).trans (by decide +kernel)
theorem d202_95 : decode (zB 202) 95 = .ok (.iconst 0, 1) := (congrArg (fun c => decode c 95) zeq202).trans (by decide +kernel)
theorem d202_96 : decode (zB 202) 96 = .ok (.istore 4, 2) := (congrArg (fun c => decode c 96) zeq202).trans (by decide +kernel)
theorem d202_98 : decode (zB 202) 98 = .ok (.iload 4, 2) := (congrArg (fun c => decode c 98) zeq202).trans (by decide +kernel)
theorem d202_100 : decode (zB 202) 100 = .ok (.bipush 40, 2) := (congrArg (fun c => decode c 100) zeq202).trans (by decide +kernel)
theorem d202_102 : decode (zB 202) 102 = .ok (.if_icmp .ge 13, 3) := (congrArg (fun c => decode c 102) zeq202).trans (by decide +kernel)
theorem d202_105 : decode (zB 202) 105 = .ok (.aload_n 0, 1) := (congrArg (fun c => decode c 105) zeq202).trans (by decide +kernel)
theorem d202_106 : decode (zB 202) 106 = .ok (.invokevirtual 354, 3) := (congrArg (fun c => decode c 106) zeq202).trans (by decide +kernel)
theorem d202_109 : decode (zB 202) 109 = .ok (.iinc 4 1, 3) := (congrArg (fun c => decode c 109) zeq202).trans (by decide +kernel)
theorem d202_112 : decode (zB 202) 112 = .ok (.goto (-14), 3) := (congrArg (fun c => decode c 112) zeq202).trans (by decide +kernel)
theorem d202_115 : decode (zB 202) 115 = .ok (.aload_n 0, 1) := (congrArg (fun c => decode c 115) zeq202).trans (by decide +kernel)
theorem d202_116 : decode (zB 202) 116 = .ok (.getfield 36, 3) := (congrArg (fun c => decode c 116) zeq202).trans (by decide +kernel)
theorem d202_119 : decode (zB 202) 119 = .ok (.iload_n 1, 1) := (congrArg (fun c => decode c 119) zeq202).trans (by decide +kernel)
theorem d202_120 : decode (zB 202) 120 = .ok (.iaload, 1) := (congrArg (fun c => decode c 120) zeq202).trans (by decide +kernel)
theorem d202_121 : decode (zB 202) 121 = .ok (.istore 4, 2) := (congrArg (fun c => decode c 121) zeq202).trans (by decide +kernel)
theorem d202_123 : decode (zB 202) 123 = .ok (.aload_n 0, 1) := (congrArg (fun c => decode c 123) zeq202).trans (by decide +kernel)
theorem d202_124 : decode (zB 202) 124 = .ok (.invokevirtual 375, 3) := (congrArg (fun c => decode c 124) zeq202).trans (by decide +kernel)
theorem d202_127 : decode (zB 202) 127 = .ok (.iload 4, 2) := (congrArg (fun c => decode c 127) zeq202).trans (by decide +kernel)
theorem d202_129 : decode (zB 202) 129 = .ok (.ireturn, 1) := (congrArg (fun c => decode c 129) zeq202).trans (by decide +kernel)
theorem l202c {d : Nat} {Q : Option Value → zM → Prop} {D : yD} {M0 : zM} {s κ : Nat} {z v : Int32} {XF : yX} (hR : RX M0 D κ) (hκ : κ + 4000 < 2147483648) (hs : s < 3) (k : gt (yxs XF s) ≤ 5 → ∀ M', RX M' D κ → Fi FY M0 M' → Q (some (.int (nI (gt (yxs XF s))))) M') : ∀ (r i : Nat) (κ1 : Nat) (M1 : zM) (X1 : yX), i ≤ 40 → 40 < i + r →  CX (dL D) M1 (dT D) (dc D) (dnm D) X1 κ1 → zi M1 136 25 = nI 1 → zi M1 136 21 = -1 → KA M0 M1 0 → Fi FZ M0 M1 → κ1 ≤ κ + 36 * i → ytn (dT D) (dnm D) (40 - i) X1 = XF → qW (zEv (d + 6)) 202 Q 98 [(4, .int (nI i)), (3, .int v), (0, .ref 136), (1, .int (nI s)), (2, .int z)] [] M1 := by
  intro r
  induction r with
  | zero => intros; omega
  | succ r ih =>
    intro i κ1 M1 X1 h1 h2 hC1 h25 h21 hK hF hk1 hy
    refine q_iload d202_98 rfl ?_
    refine q_bipush (x := nI 40) d202_100 rfl ?_
    refine nc_ge 115 d202_102 (by decide) (by omega) (by omega) (fun h102 => ?_) (fun h102 => ?_)
    · refine q_aload_n d202_115 rfl ?_
      refine q_getr (c := 8) (f := 11) d202_116 ⟨rfl, rfl⟩ (xk_136 hC1.1) (xf_states hC1.1) ?_
      refine q_iload_n d202_119 rfl ?_
      refine n_iald d202_120 (xk_states hC1.1) (by omega) (by decide) (hC1.2.2.2.2.1 _ (by omega)).1.1 ?_
      refine q_istore d202_121 (by decide) rfl ?_
      refine q_aload_n d202_123 rfl ?_
      refine q_v0 d202_124 rfl rfl (xk_136 hC1.1) (Nat.le_of_ble_eq_true rfl) (c199 hC1.1 hK (fun M2 hK2 q25 f2 => ?_))
      refine q_iload d202_127 rfl ?_
      refine q_iret d202_129 rfl ?_
      have e : X1 = XF := by rw [show 40 - i = 0 by omega] at hy; exact hy
      subst e
      have hLo : XLo (dL D) M1 X1.2 := hC1.2.2.2.2.2.2.1
      rw [hC1.l0 h25] at hLo
      have hw := hR.wake hF h21 hLo.2 hK2 q25 f2
      exact k (hC1.2.2.1.2.2 s hs).1 _ hw.1 hw.2
    · refine q_aload_n d202_105 rfl ?_
      refine q_v0 d202_106 rfl rfl (xk_136 hC1.1) (Nat.le_of_ble_eq_true rfl) (c175 hC1 (by rw [hC1.l0 h25]; show 0 + 39 ≤ 240; omega) (by omega) (fun M2 κ2 hk2 hC2 f2 => ?_))
      refine n_iinc 1 d202_109 (by decide) rfl rfl ?_
      refine q_goto 98 d202_112 (by decide) ?_
      exact ih (i + 1) κ2 _ _ (by omega) (by omega) hC2 ((f2.1 _ _ (by unfold FX; omega)).trans h25) ((f2.1 _ _ (by unfold FX; omega)).trans h21) (hK.fi f2 (fun b k q1 q2 => by unfold FA at q1; unfold FX at q2; omega)) (hF.trans (f2.mono (fun b k q => FX_Z q))) (by omega) (by rw [show 40 - i = (40 - (i + 1)) + 1 by omega, ytn] at hy; exact hy)
theorem l202b {d : Nat} {Q : Option Value → zM → Prop} {D : yD} {M0 : zM} {s κ : Nat} {z : Int32} (hR : RX M0 D κ) (hκ : κ + 4000 < 2147483648) (hs : s < 3) (h0 : gt (dS D s) ≠ 0) (k : gt (yxs (ytn (dT D) (dnm D) 40 (yzX (ydp 3 (dW D, none)) s z (tn (dT D (gx (dS D s)))))) s) ≤ 5 → ∀ M', RX M' D κ → Fi FY M0 M' → Q (some (.int (nI (gt (yxs (ytn (dT D) (dnm D) 40 (yzX (ydp 3 (dW D, none)) s z (tn (dT D (gx (dS D s)))))) s))))) M') : ∀ (r i : Nat) (κ1 : Nat) (M1 : zM), i ≤ tn (dT D (gx (dS D s))) → tn (dT D (gx (dS D s))) < i + r →  CX (dL D) M1 (dT D) (dc D) (dnm D) (yzX (ydp 3 (dW D, none)) s z i) κ1 → zi M1 136 25 = nI 1 → zi M1 136 21 = -1 → KA M0 M1 0 → Fi FZ M0 M1 → κ1 ≤ κ → qW (zEv (d + 6)) 202 Q 40 [(4, .int (nI i)), (3, .int (yzs z i)), (0, .ref 136), (1, .int (nI s)), (2, .int z)] [] M1 := by
  intro r
  induction r with
  | zero => intros; omega
  | succ r ih =>
    intro i κ1 M1 h1 h2 hC1 h25 h21 hK hF hk1
    have hO : OKW (dT D) (dc D) (dW D) := hR.1.2.2.1
    have hgx : gx (dS D s) < dc D := (hO.2.2 s hs).2.1 h0
    have hn := (hO.1.2 _ hgx).n
    have hc6 := hO.1.1
    have e1 : (yzX (ydp 3 (dW D, none)) s z i).1.2 s = gpS (ydr (dS D s)) (yzq z i) := by
      have q : (yzX (ydp 3 (dW D, none)) s z i).1.2 s = gpS (yxs (ydp 3 (dW D, none)) s) (yzq z i) := yu_s _ _ _
      rw [q]
      show gpS (if s < 3 then ydr ((dW D).2 s) else (dW D).2 s) (yzq z i) = _
      rw [if_pos hs]; rfl
    have hx1 : zi M1 176 s = nI (gx (dS D s)) := by
      have q := (hC1.2.2.2.2.1 s hs).1.2
      rw [e1] at q
      exact q.trans (if_neg h0)
    refine q_iload d202_40 rfl ?_
    refine q_aload_n d202_42 rfl ?_
    refine q_getr (c := 8) (f := 1) d202_43 ⟨rfl, rfl⟩ (xk_136 hC1.1) (xf_stepMany hC1.1) ?_
    refine q_aload_n d202_46 rfl ?_
    refine q_getr (c := 8) (f := 12) d202_47 ⟨rfl, rfl⟩ (xk_136 hC1.1) (xf_textOf hC1.1) ?_
    refine q_iload_n d202_50 rfl ?_
    refine n_iald d202_51 (xk_textOf hC1.1) (by omega) (by decide) hx1 ?_
    refine n_iald d202_52 (xk_stepMany hC1.1) (by omega) (by decide) (hC1.2.1 _ hgx).1 ?_
    refine nc_ge 95 d202_53 (by decide) (by omega) (by omega) (fun h53 => ?_) (fun h53 => ?_)
    · refine q_iconstN (z := 0) d202_95 ?_
      refine q_istore d202_96 (by decide) rfl ?_
      have ei : i = tn (dT D (gx (dS D s))) := by omega
      subst ei
      exact l202c hR hκ hs k 41 0 κ1 M1 _ (by omega) (by omega) hC1 h25 h21 hK hF (by omega) rfl
    · refine q_iload_n d202_56 rfl ?_
      refine q_ldc_w d202_57 rfl ?_
      refine q_imul d202_60 ?_
      refine q_sipush (x := nI 12345) d202_61 rfl ?_
      refine q_iadd d202_64 ?_
      refine q_istore_n d202_65 (by decide) rfl ?_
      refine q_aload_n d202_66 rfl ?_
      refine q_getr (c := 8) (f := 18) d202_67 ⟨rfl, rfl⟩ (xk_136 hC1.1) (xf_plans hC1.1) ?_
      refine q_iload_n d202_70 rfl ?_
      refine n_aald d202_71 (xk_plans hC1.1) (by decide) (by omega) (by decide) (xr_plans hC1.1 (by omega)) ?_
      refine q_iload d202_72 rfl ?_
      refine q_iload_n d202_74 rfl ?_
      refine q_bipush (x := nI 9) d202_75 rfl ?_
      refine q_iushr d202_77 ?_
      refine q_iconst (x := (4)) d202_78 rfl ?_
      refine q_irem d202_79 (by decide) ?_
      refine i0_ne 87 d202_80 (by decide) (fun h80 => ?_) (fun h80 => ?_)
      · refine q_iconstN (z := 0) d202_87 ?_
        refine n_iast d202_88 (xa_plans hC1.1 (by omega)) (by omega) (by decide) ?_
        refine n_iinc 1 d202_89 (by decide) rfl rfl ?_
        refine q_goto 40 d202_92 (by decide) ?_
        have h := CX.zs (z := z) hC1 hs (by omega)
        rw [show yzp (yzs z (i + 1)) = nI 0 from if_neg h80] at h
        have f2 : Fi (fun b _ => b = 198 + s) M1 (zwi M1 (198 + s) i (nI 0)) := (Fi.refl _ _).wi rfl
        exact ih (i + 1) κ1 _ (by omega) (by omega) h ((f2.1 _ _ (by omega)).trans h25) ((f2.1 _ _ (by omega)).trans h21) (hK.fi f2 (fun b k q1 q2 => by unfold FA at q1; omega)) (hF.trans (f2.mono (fun b k q => by unfold FZ; omega))) hk1
      · refine q_iconstN (z := 1) d202_83 ?_
        refine q_goto 88 d202_84 (by decide) ?_
        refine n_iast d202_88 (xa_plans hC1.1 (by omega)) (by omega) (by decide) ?_
        refine n_iinc 1 d202_89 (by decide) rfl rfl ?_
        refine q_goto 40 d202_92 (by decide) ?_
        have h := CX.zs (z := z) hC1 hs (by omega)
        rw [show yzp (yzs z (i + 1)) = nI 1 from if_pos h80] at h
        have f2 : Fi (fun b _ => b = 198 + s) M1 (zwi M1 (198 + s) i (nI 1)) := (Fi.refl _ _).wi rfl
        exact ih (i + 1) κ1 _ (by omega) (by omega) h ((f2.1 _ _ (by omega)).trans h25) ((f2.1 _ _ (by omega)).trans h21) (hK.fi f2 (fun b k q1 q2 => by unfold FA at q1; omega)) (hF.trans (f2.mono (fun b k q => by unfold FZ; omega))) hk1
theorem l202a {d : Nat} {Q : Option Value → zM → Prop} {D : yD} {M0 : zM} {s κ : Nat} {z : Int32} (hR : RX M0 D κ) (hκ : κ + 4000 < 2147483648) (hs : s < 3) (h0 : gt (dS D s) ≠ 0) (k : gt (yxs (ytn (dT D) (dnm D) 40 (yzX (ydp 3 (dW D, none)) s z (tn (dT D (gx (dS D s)))))) s) ≤ 5 → ∀ M', RX M' D κ → Fi FY M0 M' → Q (some (.int (nI (gt (yxs (ytn (dT D) (dnm D) 40 (yzX (ydp 3 (dW D, none)) s z (tn (dT D (gx (dS D s)))))) s))))) M') : ∀ (r i : Nat) (κ1 : Nat) (M1 : zM), i ≤ 3 → 3 < i + r →  CX (dL D) M1 (dT D) (dc D) (dnm D) (ydp i (dW D, none)) κ1 → zi M1 136 25 = nI 1 → zi M1 136 21 = -1 → KA M0 M1 0 → Fi FZ M0 M1 → κ1 ≤ κ → qW (zEv (d + 6)) 202 Q 6 [(3, .int (nI i)), (0, .ref 136), (1, .int (nI s)), (2, .int z)] [] M1 := by
  intro r
  induction r with
  | zero => intros; omega
  | succ r ih =>
    intro i κ1 M1 h1 h2 hC1 h25 h21 hK hF hk1
    refine q_iload_n d202_6 rfl ?_
    refine q_iconstN (z := 3) d202_7 ?_
    refine nc_ge 35 d202_8 (by decide) (by omega) (by omega) (fun h8 => ?_) (fun h8 => ?_)
    · refine q_iload_n d202_35 rfl ?_
      refine q_istore_n d202_36 (by decide) rfl ?_
      refine q_iconstN (z := 0) d202_37 ?_
      refine q_istore d202_38 (by decide) rfl ?_
      have ei : i = 3 := by omega
      subst ei
      have e0 : yzX (ydp 3 (dW D, none)) s z 0 = ydp 3 (dW D, none) := by
        have e1 : gpS (yxs (ydp 3 (dW D, none)) s) (yzq z 0) = yxs (ydp 3 (dW D, none)) s := by
          show gpS (if s < 3 then ydr ((dW D).2 s) else (dW D).2 s) (fun _ => 0) = (if s < 3 then ydr ((dW D).2 s) else (dW D).2 s)
          rw [if_pos hs]; rfl
        unfold yzX
        rw [e1, yss_id]
      rw [← e0] at hC1
      exact l202b hR hκ hs h0 k (tn (dT D (gx (dS D s))) + 1) 0 κ1 M1 (Nat.zero_le _) (by omega) hC1 h25 h21 hK hF hk1
    · refine q_aload_n d202_11 rfl ?_
      refine q_iload_n d202_12 rfl ?_
      refine q_aload_n d202_13 rfl ?_
      refine q_getr (c := 8) (f := 18) d202_14 ⟨rfl, rfl⟩ (xk_136 hC1.1) (xf_plans hC1.1) ?_
      refine q_v2 d202_17 rfl rfl (xk_136 hC1.1) (Nat.le_of_ble_eq_true rfl) (c203 (b := 197) hC1.1 (by omega) (Or.inl rfl) (fun M2 z2 f2 => ?_))
      have hX2 := SX_fi hC1.1 f2
      refine q_aload_n d202_20 rfl ?_
      refine q_iload_n d202_21 rfl ?_
      refine q_aload_n d202_22 rfl ?_
      refine q_getr (c := 8) (f := 19) d202_23 ⟨rfl, rfl⟩ (xk_136 hX2) (xf_undoPlans hX2) ?_
      refine q_v2 d202_26 rfl rfl (xk_136 hX2) (Nat.le_of_ble_eq_true rfl) (c203 (b := 201) hX2 (by omega) (Or.inr rfl) (fun M3 z3 f3 => ?_))
      refine n_iinc 1 d202_29 (by decide) rfl rfl ?_
      refine q_goto 6 d202_32 (by decide) ?_
      have f : Fi (fun b _ => b = 198 + i ∨ b = 202 + i) M1 M3 := (f2.mono (fun b k q => by omega)).trans (f3.mono (fun b k q => by omega))
      exact ih (i + 1) κ1 _ (by omega) (by omega) (hC1.dr (by omega) f (fun j hj => (f3.1 _ _ (by omega)).trans (z2 j hj)) z3) ((f.1 _ _ (by omega)).trans h25) ((f.1 _ _ (by omega)).trans h21) (hK.fi f (fun b k q1 q2 => by unfold FA at q1; omega)) (hF.trans (f.mono (fun b k q => by unfold FZ; omega))) hk1
/-- a saga by a seed's lot -/
theorem c202 {d : Nat} {M : zM} {Q : Option Value → zM → Prop} {D : yD} {s κ : Nat} {z : Int32} (hR : RX M D κ) (hκ : κ + 4000 < 2147483648) (hs : s < 3) (h0 : gt (dS D s) ≠ 0) (k : ydn D s z ≤ 5 → ∀ M', RX M' D κ → Fi FY M M' → Q (some (.int (nI (ydn D s z)))) M') : qC (d + 7) 202 [.ref 136, .int (nI s), .int z] M Q := by
  refine qC_of (by decide) (Nat.le_of_ble_eq_true rfl) ?_
  refine q_aload_n d202_0 rfl ?_
  refine q_v0 d202_1 rfl rfl (xk_136 hR.1.1) (Nat.le_of_ble_eq_true rfl) (c198 hR (fun M1 hC1 q25 q21 hK f1 => ?_))
  refine q_iconstN (z := 0) d202_4 ?_
  refine q_istore_n d202_5 (by decide) rfl ?_
  exact l202a (z := z) hR hκ hs h0 k 4 0 κ M1 (by omega) (by omega) hC1 q25 q21 hK f1 (Nat.le_refl _)
theorem d201_0 : decode (zB 201) 0 = .ok (.iload_n 1, 1) := (congrArg (fun c => decode c 0) zeq201).trans (by decide +kernel)
theorem d201_1 : decode (zB 201) 1 = .ok (.invokestatic 345, 3) := (congrArg (fun c => decode c 1) zeq201).trans (by decide +kernel)
theorem d201_4 : decode (zB 201) 4 = .ok (.ifCond .ne 6, 3) := (congrArg (fun c => decode c 4) zeq201).trans (by decide +kernel)
theorem d201_7 : decode (zB 201) 7 = .ok (.bipush (-2), 2) := (congrArg (fun c => decode c 7) zeq201).trans (by decide +kernel)
theorem d201_9 : decode (zB 201) 9 = .ok (.ireturn, 1) := (congrArg (fun c => decode c 9) zeq201).trans (by decide +kernel)
theorem d201_10 : decode (zB 201) 10 = .ok (.aload_n 0, 1) := (congrArg (fun c => decode c 10) zeq201).trans (by decide +kernel)
theorem d201_11 : decode (zB 201) 11 = .ok (.getfield 36, 3) := (congrArg (fun c => decode c 11) zeq201).trans (by decide +kernel)
theorem d201_14 : decode (zB 201) 14 = .ok (.iload_n 1, 1) := (congrArg (fun c => decode c 14) zeq201).trans (by decide +kernel)
theorem d201_15 : decode (zB 201) 15 = .ok (.iaload, 1) := (congrArg (fun c => decode c 15) zeq201).trans (by decide +kernel)
theorem d201_16 : decode (zB 201) 16 = .ok (.ifCond .ne 8, 3) := (congrArg (fun c => decode c 16) zeq201).trans (by decide +kernel)
theorem d201_19 : decode (zB 201) 19 = .ok (.bipush (-3), 2) := (congrArg (fun c => decode c 19) zeq201).trans (by decide +kernel)
theorem d201_21 : decode (zB 201) 21 = .ok (.goto 9, 3) := (congrArg (fun c => decode c 21) zeq201).trans (by decide +kernel)
theorem d201_24 : decode (zB 201) 24 = .ok (.aload_n 0, 1) := (congrArg (fun c => decode c 24) zeq201).trans (by decide +kernel)
theorem d201_25 : decode (zB 201) 25 = .ok (.iload_n 1, 1) := (congrArg (fun c => decode c 25) zeq201).trans (by decide +kernel)
theorem d201_26 : decode (zB 201) 26 = .ok (.iload_n 2, 1) := (congrArg (fun c => decode c 26) zeq201).trans (by decide +kernel)
theorem d201_27 : decode (zB 201) 27 = .ok (.invokevirtual 383, 3) := (congrArg (fun c => decode c 27) zeq201).trans (by decide +kernel)
theorem d201_30 : decode (zB 201) 30 = .ok (.ireturn, 1) := (congrArg (fun c => decode c 30) zeq201).trans (by decide +kernel)
theorem x201 {d : Nat} {M : zM} {Q : Option Value → zM → Prop} {D : yD} {κ : Nat} {x y : Int32} (hR : RX M D κ) (hD : OKD D) (hκ : κ + 4000 < 2147483648) (k : ∀ M', RX M' D κ → Fi FY M M' → Q (some (.int (sDrawn D x y))) M') : qC (d + 8) 201 [.ref 136, .int x, .int y] M Q := by
  refine qC_of (by decide) (Nat.le_of_ble_eq_true rfl) ?_
  have hC := hR.1
  have hX := hC.1
  have hO : OKW (dT D) (dc D) (dW D) := hC.2.2.1
  have hc6 := hO.1.1
  have hL : XLo [] M (some (dL D)) := hC.2.2.2.2.2.2.1
  have hSa : ∀ s, s < 3 → XSa M s (dS D s) κ := hC.2.2.2.2.1
  have hTk := hC.k
  have hck := hC.2.2.2.2.2.1
  have h240 := hD.2.1
  unfold sDrawn at k
  rcases zix_c x (n := 3) (by omega) with ⟨s, hs, rfl, es⟩ | ⟨es, ns⟩
  · rw [oz_s es] at k
    have hOs : OKS (dT D) (dc D) (dS D s) := hO.2.2 s hs
    have hg5 := hOs.1
    have hsa := hSa s hs
    by_cases h0 : gt (dS D s) = 0
    · rw [if_pos h0] at k
      refine q_iload_n d201_0 rfl ?_
      refine q_s1 d201_1 (Or.inl rfl) rfl (Nat.le_of_ble_eq_true rfl) (c169t (by omega) ?_)
      refine n0_ne 10 d201_4 (by decide) (by decide) (fun _ => ?_) (fun q => absurd q (by decide))
      refine q_aload_n d201_10 rfl ?_
      refine q_getr (c := 8) (f := 11) d201_11 ⟨rfl, rfl⟩ (xk_136 hX) (xf_states hX) ?_
      refine q_iload_n d201_14 rfl ?_
      refine n_iald d201_15 (xk_states hX) (by omega) (by decide) (hSa _ (by omega)).1.1 ?_
      refine n0_ne 24 d201_16 (by decide) (by omega) (fun h16 => (False.elim (h16 h0))) (fun h16 => ?_)
      refine q_bipush (x := (-3)) d201_19 rfl ?_
      refine q_goto 30 d201_21 (by decide) ?_
      refine q_iret d201_30 rfl ?_
      exact k _ hR (Fi.refl _ _)
    · rw [if_neg h0] at k
      refine q_iload_n d201_0 rfl ?_
      refine q_s1 d201_1 (Or.inl rfl) rfl (Nat.le_of_ble_eq_true rfl) (c169t (by omega) ?_)
      refine n0_ne 10 d201_4 (by decide) (by decide) (fun _ => ?_) (fun q => absurd q (by decide))
      refine q_aload_n d201_10 rfl ?_
      refine q_getr (c := 8) (f := 11) d201_11 ⟨rfl, rfl⟩ (xk_136 hX) (xf_states hX) ?_
      refine q_iload_n d201_14 rfl ?_
      refine n_iald d201_15 (xk_states hX) (by omega) (by decide) (hSa _ (by omega)).1.1 ?_
      refine n0_ne 24 d201_16 (by decide) (by omega) (fun h16 => ?_) (fun h16 => (False.elim (h0 h16)))
      refine q_aload_n d201_24 rfl ?_
      refine q_iload_n d201_25 rfl ?_
      refine q_iload_n d201_26 rfl ?_
      refine q_v2 d201_27 rfl rfl (xk_136 hX) (Nat.le_of_ble_eq_true rfl) (c202 hR hκ hs h0 (fun hy5 M1 hR1 g1 => ?_))
      refine q_iret d201_30 rfl ?_
      exact k _ hR1 g1
  · rw [oz_n es] at k
    refine q_iload_n d201_0 rfl ?_
    refine q_s1 d201_1 (Or.inl rfl) rfl (Nat.le_of_ble_eq_true rfl) (c169f es ?_)
    refine n0_ne 10 d201_4 (by decide) (by decide) (fun q => absurd q (by decide)) (fun _ => ?_)
    refine q_bipush (x := (-2)) d201_7 rfl ?_
    refine q_iret d201_9 rfl ?_
    exact k _ hR (Fi.refl _ _)
/-! ===== the reference: chance ===== -/
theorem d205_0 : decode (zB 205) 0 = .ok (.iload_n 1, 1) := (congrArg (fun c => decode c 0) zeq205).trans (by decide +kernel)
theorem d205_1 : decode (zB 205) 1 = .ok (.ifCond .ne 7, 3) := (congrArg (fun c => decode c 1) zeq205).trans (by decide +kernel)
theorem d205_4 : decode (zB 205) 4 = .ok (.iload_n 0, 1) := (congrArg (fun c => decode c 4) zeq205).trans (by decide +kernel)
theorem d205_5 : decode (zB 205) 5 = .ok (.goto 10, 3) := (congrArg (fun c => decode c 5) zeq205).trans (by decide +kernel)
theorem d205_8 : decode (zB 205) 8 = .ok (.iload_n 1, 1) := (congrArg (fun c => decode c 8) zeq205).trans (by decide +kernel)
theorem d205_9 : decode (zB 205) 9 = .ok (.iload_n 0, 1) := (congrArg (fun c => decode c 9) zeq205).trans (by decide +kernel)
theorem d205_10 : decode (zB 205) 10 = .ok (.iload_n 1, 1) := (congrArg (fun c => decode c 10) zeq205).trans (by decide +kernel)
theorem d205_11 : decode (zB 205) 11 = .ok (.irem, 1) := (congrArg (fun c => decode c 11) zeq205).trans (by decide +kernel)
theorem d205_12 : decode (zB 205) 12 = .ok (.invokestatic 386, 3) := (congrArg (fun c => decode c 12) zeq205).trans (by decide +kernel)
theorem d205_15 : decode (zB 205) 15 = .ok (.ireturn, 1) := (congrArg (fun c => decode c 15) zeq205).trans (by decide +kernel)
theorem c205g {d : Nat} : ∀ (n a b : Nat) (M : zM) (Q : Option Value → zM → Prop), b ≤ n → a < 2147483648 → b < 2147483648 → Q (some (.int (nI (Nat.gcd b a)))) M → qC (d + (n + 1)) 205 [.int (nI a), .int (nI b)] M Q := by
  intro n
  induction n with
  | zero =>
    intro a b M Q q1 ha hb k
    obtain rfl : b = 0 := by omega
    rw [Nat.gcd_zero_left] at k
    refine qC_of (by decide) (Nat.le_of_ble_eq_true rfl) ?_
    refine q_iload_n d205_0 rfl ?_
    refine n0_ne 8 d205_1 (by decide) (by decide) (fun q => absurd q (by decide)) (fun _ => ?_)
    refine q_iload_n d205_4 rfl ?_
    refine q_goto 15 d205_5 (by decide) ?_
    refine q_iret d205_15 rfl ?_
    exact k
  | succ n ih =>
    intro a b M Q q1 ha hb k
    by_cases h0 : b = 0
    · subst h0
      rw [Nat.gcd_zero_left] at k
      refine qC_of (by decide) (Nat.le_of_ble_eq_true rfl) ?_
      refine q_iload_n d205_0 rfl ?_
      refine n0_ne 8 d205_1 (by decide) (by decide) (fun q => absurd q (by decide)) (fun _ => ?_)
      refine q_iload_n d205_4 rfl ?_
      refine q_goto 15 d205_5 (by decide) ?_
      refine q_iret d205_15 rfl ?_
      exact k
    · have hm := Nat.mod_lt a (Nat.pos_of_ne_zero h0)
      rw [Nat.gcd_rec] at k
      refine qC_of (by decide) (Nat.le_of_ble_eq_true rfl) ?_
      refine q_iload_n d205_0 rfl ?_
      refine n0_ne 8 d205_1 (by decide) (by omega) (fun h1 => ?_) (fun h1 => (False.elim (h0 h1)))
      refine q_iload_n d205_8 rfl ?_
      refine q_iload_n d205_9 rfl ?_
      refine q_iload_n d205_10 rfl ?_
      refine n_irem d205_11 (by omega) (by omega) (by omega) ?_
      refine q_s2 d205_12 (Or.inl rfl) rfl (Nat.le_of_ble_eq_true rfl) (ih _ _ _ _ (Nat.le_of_lt_succ (Nat.lt_of_lt_of_le hm q1)) hb (Nat.lt_trans hm hb) ?_)
      refine q_iret d205_15 rfl ?_
      exact k
theorem c205 {d : Nat} {M : zM} {Q : Option Value → zM → Prop} {a b : Nat} (ha : a < 21) (hb : b < 21) (k : Q (some (.int (nI (Nat.gcd a b)))) M) : qC (d + 21) 205 [.int (nI a), .int (nI b)] M Q := c205g 20 a b M Q (by omega) (by omega) (by omega) (by rw [Nat.gcd_comm]; exact k)
theorem d204_0 : decode (zB 204) 0 = .ok (.iload_n 1, 1) := (congrArg (fun c => decode c 0) zeq204).trans (by decide +kernel)
theorem d204_1 : decode (zB 204) 1 = .ok (.invokestatic 345, 3) := (congrArg (fun c => decode c 1) zeq204).trans (by decide +kernel)
theorem d204_4 : decode (zB 204) 4 = .ok (.ifCond .eq 23, 3) := (congrArg (fun c => decode c 4) zeq204).trans (by decide +kernel)
theorem d204_7 : decode (zB 204) 7 = .ok (.iload_n 3, 1) := (congrArg (fun c => decode c 7) zeq204).trans (by decide +kernel)
theorem d204_8 : decode (zB 204) 8 = .ok (.iconst 1, 1) := (congrArg (fun c => decode c 8) zeq204).trans (by decide +kernel)
theorem d204_9 : decode (zB 204) 9 = .ok (.bipush 20, 2) := (congrArg (fun c => decode c 9) zeq204).trans (by decide +kernel)
theorem d204_11 : decode (zB 204) 11 = .ok (.invokestatic 112, 3) := (congrArg (fun c => decode c 11) zeq204).trans (by decide +kernel)
theorem d204_14 : decode (zB 204) 14 = .ok (.ifCond .eq 13, 3) := (congrArg (fun c => decode c 14) zeq204).trans (by decide +kernel)
theorem d204_17 : decode (zB 204) 17 = .ok (.iload 4, 2) := (congrArg (fun c => decode c 17) zeq204).trans (by decide +kernel)
theorem d204_19 : decode (zB 204) 19 = .ok (.iconst 0, 1) := (congrArg (fun c => decode c 19) zeq204).trans (by decide +kernel)
theorem d204_20 : decode (zB 204) 20 = .ok (.iconst 1, 1) := (congrArg (fun c => decode c 20) zeq204).trans (by decide +kernel)
theorem d204_21 : decode (zB 204) 21 = .ok (.invokestatic 112, 3) := (congrArg (fun c => decode c 21) zeq204).trans (by decide +kernel)
theorem d204_24 : decode (zB 204) 24 = .ok (.ifCond .ne 6, 3) := (congrArg (fun c => decode c 24) zeq204).trans (by decide +kernel)
theorem d204_27 : decode (zB 204) 27 = .ok (.bipush (-2), 2) := (congrArg (fun c => decode c 27) zeq204).trans (by decide +kernel)
theorem d204_29 : decode (zB 204) 29 = .ok (.ireturn, 1) := (congrArg (fun c => decode c 29) zeq204).trans (by decide +kernel)
theorem d204_30 : decode (zB 204) 30 = .ok (.aload_n 0, 1) := (congrArg (fun c => decode c 30) zeq204).trans (by decide +kernel)
theorem d204_31 : decode (zB 204) 31 = .ok (.getfield 36, 3) := (congrArg (fun c => decode c 31) zeq204).trans (by decide +kernel)
theorem d204_34 : decode (zB 204) 34 = .ok (.iload_n 1, 1) := (congrArg (fun c => decode c 34) zeq204).trans (by decide +kernel)
theorem d204_35 : decode (zB 204) 35 = .ok (.iaload, 1) := (congrArg (fun c => decode c 35) zeq204).trans (by decide +kernel)
theorem d204_36 : decode (zB 204) 36 = .ok (.ifCond .ne 6, 3) := (congrArg (fun c => decode c 36) zeq204).trans (by decide +kernel)
theorem d204_39 : decode (zB 204) 39 = .ok (.bipush (-3), 2) := (congrArg (fun c => decode c 39) zeq204).trans (by decide +kernel)
theorem d204_41 : decode (zB 204) 41 = .ok (.ireturn, 1) := (congrArg (fun c => decode c 41) zeq204).trans (by decide +kernel)
theorem d204_42 : decode (zB 204) 42 = .ok (.iconst 0, 1) := (congrArg (fun c => decode c 42) zeq204).trans (by decide +kernel)
theorem d204_43 : decode (zB 204) 43 = .ok (.istore 5, 2) := (congrArg (fun c => decode c 43) zeq204).trans (by decide +kernel)
theorem d204_45 : decode (zB 204) 45 = .ok (.iconst 0, 1) := (congrArg (fun c => decode c 45) zeq204).trans (by decide +kernel)
theorem d204_46 : decode (zB 204) 46 = .ok (.istore 6, 2) := (congrArg (fun c => decode c 46) zeq204).trans (by decide +kernel)
theorem d204_48 : decode (zB 204) 48 = .ok (.iload 6, 2) := (congrArg (fun c => decode c 48) zeq204).trans (by decide +kernel)
theorem d204_50 : decode (zB 204) 50 = .ok (.iload_n 3, 1) := (congrArg (fun c => decode c 50) zeq204).trans (by decide +kernel)
theorem d204_51 : decode (zB 204) 51 = .ok (.if_icmp .ge 25, 3) := (congrArg (fun c => decode c 51) zeq204).trans (by decide +kernel)
theorem d204_54 : decode (zB 204) 54 = .ok (.aload_n 0, 1) := (congrArg (fun c => decode c 54) zeq204).trans (by decide +kernel)
theorem d204_55 : decode (zB 204) 55 = .ok (.iload_n 1, 1) := (congrArg (fun c => decode c 55) zeq204).trans (by decide +kernel)
theorem d204_56 : decode (zB 204) 56 = .ok (.iload_n 2, 1) := (congrArg (fun c => decode c 56) zeq204).trans (by decide +kernel)
theorem d204_57 : decode (zB 204) 57 = .ok (.iload 6, 2) := (congrArg (fun c => decode c 57) zeq204).trans (by decide +kernel)
theorem d204_59 : decode (zB 204) 59 = .ok (.iadd, 1) := (congrArg (fun c => decode c 59) zeq204).trans (by decide +kernel)
theorem d204_60 : decode (zB 204) 60 = .ok (.invokevirtual 383, 3) := (congrArg (fun c => decode c 60) zeq204).trans (by decide +kernel)
theorem d204_63 : decode (zB 204) 63 = .ok (.iconst 3, 1) := (congrArg (fun c => decode c 63) zeq204).trans (by decide +kernel)
theorem d204_64 : decode (zB 204) 64 = .ok (.if_icmp .ne 6, 3) := (congrArg (fun c => decode c 64) zeq204).trans (by decide +kernel)
theorem d204_67 : decode (zB 204) 67 = .ok (.iinc 5 1, 3) := (congrArg (fun c => decode c 67) zeq204).trans (by decide +kernel)
theorem d204_70 : decode (zB 204) 70 = .ok (.iinc 6 1, 3) := (congrArg (fun c => decode c 70) zeq204).trans (by decide +kernel)
theorem d204_73 : decode (zB 204) 73 = .ok (.goto (-25), 3) := (congrArg (fun c => decode c 73) zeq204).trans (by decide +kernel)
theorem d204_76 : decode (zB 204) 76 = .ok (.iload 4, 2) := (congrArg (fun c => decode c 76) zeq204).trans (by decide +kernel)
theorem d204_78 : decode (zB 204) 78 = .ok (.ifCond .ne 8, 3) := (congrArg (fun c => decode c 78) zeq204).trans (by decide +kernel)
theorem d204_81 : decode (zB 204) 81 = .ok (.iload 5, 2) := (congrArg (fun c => decode c 81) zeq204).trans (by decide +kernel)
theorem d204_83 : decode (zB 204) 83 = .ok (.goto 4, 3) := (congrArg (fun c => decode c 83) zeq204).trans (by decide +kernel)
theorem d204_86 : decode (zB 204) 86 = .ok (.iload_n 3, 1) := (congrArg (fun c => decode c 86) zeq204).trans (by decide +kernel)
theorem d204_87 : decode (zB 204) 87 = .ok (.iload 5, 2) := (congrArg (fun c => decode c 87) zeq204).trans (by decide +kernel)
theorem d204_89 : decode (zB 204) 89 = .ok (.iload_n 3, 1) := (congrArg (fun c => decode c 89) zeq204).trans (by decide +kernel)
theorem d204_90 : decode (zB 204) 90 = .ok (.invokestatic 386, 3) := (congrArg (fun c => decode c 90) zeq204).trans (by decide +kernel)
theorem d204_93 : decode (zB 204) 93 = .ok (.idiv, 1) := (congrArg (fun c => decode c 93) zeq204).trans (by decide +kernel)
theorem d204_94 : decode (zB 204) 94 = .ok (.ireturn, 1) := (congrArg (fun c => decode c 94) zeq204).trans (by decide +kernel)
theorem l204 {d : Nat} {Q : Option Value → zM → Prop} {D : yD} {M0 : zM} {s m w κ : Nat} {z : Int32} (hκ : κ + 4000 < 2147483648) (hs : s < 3) (h0 : gt (dS D s) ≠ 0) (hm0 : 0 < m) (hm : m < 21) (hw : w < 2) (k : ∀ M', RX M' D κ → Fi FY M0 M' → Q (some (.int (if w = 0 then nI (ycn D s z m / Nat.gcd (ycn D s z m) m) else nI (m / Nat.gcd (ycn D s z m) m)))) M') : ∀ (r i : Nat) (M1 : zM), i ≤ m → m < i + r →  RX M1 D κ → Fi FY M0 M1 → qW (zEv (d + 21)) 204 Q 48 [(6, .int (nI i)), (5, .int (nI (ycn D s z i))), (0, .ref 136), (1, .int (nI s)), (2, .int z), (3, .int (nI m)), (4, .int (nI w))] [] M1 := by
  intro r
  induction r with
  | zero => intros; omega
  | succ r ih =>
    intro i M1 h1 h2 hR1 hF
    have hcl := ycn_le D s z i
    refine q_iload d204_48 rfl ?_
    refine q_iload_n d204_50 rfl ?_
    refine nc_ge 76 d204_51 (by decide) (by omega) (by omega) (fun h51 => ?_) (fun h51 => ?_)
    · have ei : i = m := by omega
      have hg1 := Nat.gcd_pos_of_pos_right (ycn D s z i) hm0
      have hg2 := Nat.le_of_dvd hm0 (Nat.gcd_dvd_right (ycn D s z i) m)
      refine q_iload d204_76 rfl ?_
      refine n0_ne 86 d204_78 (by decide) (by omega) (fun h78 => ?_) (fun h78 => ?_)
      · refine q_iload_n d204_86 rfl ?_
        refine q_iload d204_87 rfl ?_
        refine q_iload_n d204_89 rfl ?_
        refine q_s2 d204_90 (Or.inl rfl) rfl (Nat.le_of_ble_eq_true rfl) (c205 (by omega) (by omega) ?_)
        refine n_idiv d204_93 (by omega) (by omega) (by omega) ?_
        refine q_iret d204_94 rfl ?_
        have h := k _ hR1 hF
        rw [if_neg h78] at h
        rw [ei]
        exact h
      · refine q_iload d204_81 rfl ?_
        refine q_goto 87 d204_83 (by decide) ?_
        refine q_iload d204_87 rfl ?_
        refine q_iload_n d204_89 rfl ?_
        refine q_s2 d204_90 (Or.inl rfl) rfl (Nat.le_of_ble_eq_true rfl) (c205 (by omega) (by omega) ?_)
        refine n_idiv d204_93 (by omega) (by omega) (by omega) ?_
        refine q_iret d204_94 rfl ?_
        have h := k _ hR1 hF
        rw [if_pos h78] at h
        rw [ei]
        exact h
    · refine q_aload_n d204_54 rfl ?_
      refine q_iload_n d204_55 rfl ?_
      refine q_iload_n d204_56 rfl ?_
      refine q_iload d204_57 rfl ?_
      refine q_iadd d204_59 ?_
      refine q_v2 d204_60 rfl rfl (xk_136 hR1.1.1) (Nat.le_of_ble_eq_true rfl) (c202 hR1 hκ hs h0 (fun hy5 M2 hR2 g2 => ?_))
      refine q_iconstN (z := 3) d204_63 ?_
      refine nc_ne 70 d204_64 (by decide) (by omega) (by omega) (fun h64 => ?_) (fun h64 => ?_)
      · refine n_iinc 1 d204_70 (by decide) rfl rfl ?_
        refine q_goto 48 d204_73 (by decide) ?_
        rw [← ycn_f h64]
        exact ih (i + 1) _ (by omega) (by omega) hR2 (hF.trans g2)
      · refine n_iinc 1 d204_67 (by decide) rfl rfl ?_
        refine n_iinc 1 d204_70 (by decide) rfl rfl ?_
        refine q_goto 48 d204_73 (by decide) ?_
        rw [← ycn_t h64]
        exact ih (i + 1) _ (by omega) (by omega) hR2 (hF.trans g2)
theorem x204 {d : Nat} {M : zM} {Q : Option Value → zM → Prop} {D : yD} {κ : Nat} {x z y w : Int32} (hR : RX M D κ) (hD : OKD D) (hκ : κ + 4000 < 2147483648) (k : ∀ M', RX M' D κ → Fi FY M M' → Q (some (.int (sChance D x z y w))) M') : qC (d + 22) 204 [.ref 136, .int x, .int z, .int y, .int w] M Q := by
  refine qC_of (by decide) (Nat.le_of_ble_eq_true rfl) ?_
  have hC := hR.1
  have hX := hC.1
  have hO : OKW (dT D) (dc D) (dW D) := hC.2.2.1
  have hc6 := hO.1.1
  have hL : XLo [] M (some (dL D)) := hC.2.2.2.2.2.2.1
  have hSa : ∀ s, s < 3 → XSa M s (dS D s) κ := hC.2.2.2.2.1
  have hTk := hC.k
  have hck := hC.2.2.2.2.2.1
  have h240 := hD.2.1
  unfold sChance at k
  rcases zix_c x (n := 3) (by omega) with ⟨s, hs, rfl, es⟩ | ⟨es, ns⟩
  · rw [oz_s es] at k
    have hOs : OKS (dT D) (dc D) (dS D s) := hO.2.2 s hs
    have hg5 := hOs.1
    have hsa := hSa s hs
    rcases zix_c y (n := 21) (by omega) with ⟨m, hm, rfl, em⟩ | ⟨em, nm⟩
    · rw [oz_s em] at k
      by_cases hm0 : m = 0
      · subst hm0
        rw [if_pos rfl] at k
        refine q_iload_n d204_0 rfl ?_
        refine q_s1 d204_1 (Or.inl rfl) rfl (Nat.le_of_ble_eq_true rfl) (c169t (by omega) ?_)
        refine n0_eq 27 d204_4 (by decide) (by decide) (fun q => absurd q (by decide)) (fun _ => ?_)
        refine q_iload_n d204_7 rfl ?_
        refine q_iconstN (z := 1) d204_8 ?_
        refine q_bipush (x := nI 20) d204_9 rfl ?_
        refine q_s3 d204_11 (Or.inl rfl) rfl (Nat.le_of_ble_eq_true rfl) (c131n (by decide) (by decide) (by decide) (by decide) ?_)
        refine n0_eq 27 d204_14 (by decide) (by decide) (fun _ => ?_) (fun q => absurd q (by decide))
        refine q_bipush (x := (-2)) d204_27 rfl ?_
        refine q_iret d204_29 rfl ?_
        exact k _ hR (Fi.refl _ _)
      · rw [if_neg hm0] at k
        rcases zix_c w (n := 2) (by omega) with ⟨w, hw, rfl, ew⟩ | ⟨ew, nw⟩
        · rw [oz_s ew] at k
          by_cases h0 : gt (dS D s) = 0
          · rw [if_pos h0] at k
            refine q_iload_n d204_0 rfl ?_
            refine q_s1 d204_1 (Or.inl rfl) rfl (Nat.le_of_ble_eq_true rfl) (c169t (by omega) ?_)
            refine n0_eq 27 d204_4 (by decide) (by decide) (fun q => absurd q (by decide)) (fun _ => ?_)
            refine q_iload_n d204_7 rfl ?_
            refine q_iconstN (z := 1) d204_8 ?_
            refine q_bipush (x := nI 20) d204_9 rfl ?_
            refine q_s3 d204_11 (Or.inl rfl) rfl (Nat.le_of_ble_eq_true rfl) (c131t ⟨by omega, by omega⟩ (by decide) ?_)
            refine n0_eq 27 d204_14 (by decide) (by decide) (fun q => absurd q (by decide)) (fun _ => ?_)
            refine q_iload d204_17 rfl ?_
            refine q_iconstN (z := 0) d204_19 ?_
            refine q_iconstN (z := 1) d204_20 ?_
            refine q_s3 d204_21 (Or.inl rfl) rfl (Nat.le_of_ble_eq_true rfl) (c131t ⟨by omega, by omega⟩ (by omega) ?_)
            refine n0_ne 30 d204_24 (by decide) (by decide) (fun _ => ?_) (fun q => absurd q (by decide))
            refine q_aload_n d204_30 rfl ?_
            refine q_getr (c := 8) (f := 11) d204_31 ⟨rfl, rfl⟩ (xk_136 hX) (xf_states hX) ?_
            refine q_iload_n d204_34 rfl ?_
            refine n_iald d204_35 (xk_states hX) (by omega) (by decide) (hSa _ (by omega)).1.1 ?_
            refine n0_ne 42 d204_36 (by decide) (by omega) (fun h36 => (False.elim (h36 h0))) (fun h36 => ?_)
            refine q_bipush (x := (-3)) d204_39 rfl ?_
            refine q_iret d204_41 rfl ?_
            exact k _ hR (Fi.refl _ _)
          · rw [if_neg h0] at k
            refine q_iload_n d204_0 rfl ?_
            refine q_s1 d204_1 (Or.inl rfl) rfl (Nat.le_of_ble_eq_true rfl) (c169t (by omega) ?_)
            refine n0_eq 27 d204_4 (by decide) (by decide) (fun q => absurd q (by decide)) (fun _ => ?_)
            refine q_iload_n d204_7 rfl ?_
            refine q_iconstN (z := 1) d204_8 ?_
            refine q_bipush (x := nI 20) d204_9 rfl ?_
            refine q_s3 d204_11 (Or.inl rfl) rfl (Nat.le_of_ble_eq_true rfl) (c131t ⟨by omega, by omega⟩ (by decide) ?_)
            refine n0_eq 27 d204_14 (by decide) (by decide) (fun q => absurd q (by decide)) (fun _ => ?_)
            refine q_iload d204_17 rfl ?_
            refine q_iconstN (z := 0) d204_19 ?_
            refine q_iconstN (z := 1) d204_20 ?_
            refine q_s3 d204_21 (Or.inl rfl) rfl (Nat.le_of_ble_eq_true rfl) (c131t ⟨by omega, by omega⟩ (by omega) ?_)
            refine n0_ne 30 d204_24 (by decide) (by decide) (fun _ => ?_) (fun q => absurd q (by decide))
            refine q_aload_n d204_30 rfl ?_
            refine q_getr (c := 8) (f := 11) d204_31 ⟨rfl, rfl⟩ (xk_136 hX) (xf_states hX) ?_
            refine q_iload_n d204_34 rfl ?_
            refine n_iald d204_35 (xk_states hX) (by omega) (by decide) (hSa _ (by omega)).1.1 ?_
            refine n0_ne 42 d204_36 (by decide) (by omega) (fun h36 => ?_) (fun h36 => (False.elim (h0 h36)))
            refine q_iconstN (z := 0) d204_42 ?_
            refine q_istore d204_43 (by decide) rfl ?_
            refine q_iconstN (z := 0) d204_45 ?_
            refine q_istore d204_46 (by decide) rfl ?_
            exact l204 hκ hs h0 (by omega) hm hw (fun M' g1 g2 => k M' g1 g2) (m + 1) 0 M (by omega) (by omega) hR (Fi.refl _ _)
        · rw [oz_n ew] at k
          refine q_iload_n d204_0 rfl ?_
          refine q_s1 d204_1 (Or.inl rfl) rfl (Nat.le_of_ble_eq_true rfl) (c169t (by omega) ?_)
          refine n0_eq 27 d204_4 (by decide) (by decide) (fun q => absurd q (by decide)) (fun _ => ?_)
          refine q_iload_n d204_7 rfl ?_
          refine q_iconstN (z := 1) d204_8 ?_
          refine q_bipush (x := nI 20) d204_9 rfl ?_
          refine q_s3 d204_11 (Or.inl rfl) rfl (Nat.le_of_ble_eq_true rfl) (c131t ⟨by omega, by omega⟩ (by decide) ?_)
          refine n0_eq 27 d204_14 (by decide) (by decide) (fun q => absurd q (by decide)) (fun _ => ?_)
          refine q_iload d204_17 rfl ?_
          refine q_iconstN (z := 0) d204_19 ?_
          refine q_iconstN (z := 1) d204_20 ?_
          refine q_s3 d204_21 (Or.inl rfl) rfl (Nat.le_of_ble_eq_true rfl) (c131f (by decide) (by have := zix_none ew; omega) (by decide) ?_)
          refine n0_ne 30 d204_24 (by decide) (by decide) (fun q => absurd q (by decide)) (fun _ => ?_)
          refine q_bipush (x := (-2)) d204_27 rfl ?_
          refine q_iret d204_29 rfl ?_
          exact k _ hR (Fi.refl _ _)
    · rw [oz_n em] at k
      refine q_iload_n d204_0 rfl ?_
      refine q_s1 d204_1 (Or.inl rfl) rfl (Nat.le_of_ble_eq_true rfl) (c169t (by omega) ?_)
      refine n0_eq 27 d204_4 (by decide) (by decide) (fun q => absurd q (by decide)) (fun _ => ?_)
      refine q_iload_n d204_7 rfl ?_
      refine q_iconstN (z := 1) d204_8 ?_
      refine q_bipush (x := nI 20) d204_9 rfl ?_
      refine q_s3 d204_11 (Or.inl rfl) rfl (Nat.le_of_ble_eq_true rfl) (c131f (by decide) (by have := zix_none em; omega) (by decide) ?_)
      refine n0_eq 27 d204_14 (by decide) (by decide) (fun _ => ?_) (fun q => absurd q (by decide))
      refine q_bipush (x := (-2)) d204_27 rfl ?_
      refine q_iret d204_29 rfl ?_
      exact k _ hR (Fi.refl _ _)
  · rw [oz_n es] at k
    refine q_iload_n d204_0 rfl ?_
    refine q_s1 d204_1 (Or.inl rfl) rfl (Nat.le_of_ble_eq_true rfl) (c169f es ?_)
    refine n0_eq 27 d204_4 (by decide) (by decide) (fun _ => ?_) (fun q => absurd q (by decide))
    refine q_bipush (x := (-2)) d204_27 rfl ?_
    refine q_iret d204_29 rfl ?_
    exact k _ hR (Fi.refl _ _)
/-! ===== the reference: feed ===== -/
theorem CX.fr {G : List yL} {M M' : zM} {F : Nat → Nat → Prop} {T : Nat → yT} {c κ : Nat} {nm : Nat → Nat → Int32} {X : yX} (h : CX G M T c nm X κ) (f : Fi F M M') (hF : ∀ b k, F b k → (b = 136 ∧ (k = 0 ∨ 29 < k)) ∨ b = 208 ∨ 318 < b) : CX G M' T c nm X κ := by
  obtain ⟨h1, h2, h3, h4, h5, h6, h7, h8⟩ := h
  have n : ∀ b k, ¬ ((b = 136 ∧ (k = 0 ∨ 29 < k)) ∨ b = 208 ∨ 318 < b) → ¬ F b k := fun b k q p => q (hF b k p)
  exact ⟨SX_fi h1 f, XTx_fi h2 h3.1.1 f (fun b k b1 b2 => n b k (by omega)), h3, XPu_fi h4 f (fun b k q1 => n b k (by unfold GP at q1; omega)), fun s hs => (h5 s hs).fi f (fun b k q1 => n b k (by unfold GS at q1; omega)), (f.1 _ _ (n _ _ (by omega))).trans h6, h7.fi f (fun b k q => n b k (by unfold GL at q; omega)), h8.fi (fun k hk => f.1 _ _ (n _ _ (by omega))) (fun r hr hg => ⟨hg, rfl⟩)⟩
theorem RX.tp {M : zM} {D : yD} {κ k : Nat} {v : Int32} (h : RX M D κ) (hk : dn D ≤ k) : RX (zwi M 208 k v) D κ := by
  have f : Fi (fun b _ => b = 208) M (zwi M 208 k v) := (Fi.refl _ _).wi rfl
  obtain ⟨a1, a2, a3, ⟨a4, a5, a6⟩, a7⟩ := h
  exact ⟨a1.fr f (fun b k q => by omega), (f.1 _ _ (by omega)).trans a2, (f.1 _ _ (by omega)).trans a3, ⟨a4, (f.1 _ _ (by omega)).trans a5, fun j hj => (wi_n (by omega)).trans (a6 j hj)⟩, fun i hi => ⟨(f.1 _ _ (by omega)).trans (a7 i hi).1, (f.1 _ _ (by omega)).trans (a7 i hi).2⟩⟩
theorem RX.fed {M : zM} {D : yD} {κ n a b c e f : Nat} (h : RX M D κ) (h120 : dn D + n ≤ 120) (hz : ∀ j, j < n → zi M 208 (dn D + j) = nI (yby j a b c e f)) : RX (zwi M 136 30 (nI (dn D + n))) (yfd D n a b c e f) κ := by
  have g : Fi (fun b k => b = 136 ∧ k = 30) M (zwi M 136 30 (nI (dn D + n))) := (Fi.refl _ _).wi ⟨rfl, rfl⟩
  obtain ⟨a1, a2, a3, ⟨a4, a5, a6⟩, a7⟩ := h
  refine ⟨a1.fr g (fun b k q => by omega), (g.1 _ _ (by omega)).trans a2, (g.1 _ _ (by omega)).trans a3, ⟨h120, wi_s _ _ _ _, fun j hj => (g.1 _ _ (by omega)).trans ?_⟩, fun i hi => ⟨(g.1 _ _ (by omega)).trans (a7 i hi).1, (g.1 _ _ (by omega)).trans (a7 i hi).2⟩⟩
  have hj : j < dn D + n := hj
  show zi M 208 j = nI (if dn D ≤ j ∧ j < dn D + n then yby (j - dn D) a b c e f else db D j)
  by_cases h2 : dn D ≤ j
  · rw [if_pos ⟨h2, hj⟩]
    have q := hz (j - dn D) (by omega)
    rw [show dn D + (j - dn D) = j by omega] at q
    exact q
  · rw [if_neg (fun q => h2 q.1)]; exact a6 j (by omega)
theorem c131fd {d : Nat} {M : zM} {Q : Option Value → zM → Prop} {x : Int32} (h : zix x 6 = none) (k : Q (some (.int (nI 0))) M) : qC (d + 1) 131 [.int x, .int (nI 1), .int (nI 5)] M Q := c131f (by decide) (by have := zix_none h; omega) (by decide) k
theorem d130_0 : decode (zB 130) 0 = .ok (.iload_n 1, 1) := (congrArg (fun c => decode c 0) zeq130).trans (by decide +kernel)
theorem d130_1 : decode (zB 130) 1 = .ok (.iconst 1, 1) := (congrArg (fun c => decode c 1) zeq130).trans (by decide +kernel)
theorem d130_2 : decode (zB 130) 2 = .ok (.iconst 5, 1) := (congrArg (fun c => decode c 2) zeq130).trans (by decide +kernel)
theorem d130_3 : decode (zB 130) 3 = .ok (.invokestatic 112, 3) := (congrArg (fun c => decode c 3) zeq130).trans (by decide +kernel)
theorem d130_6 : decode (zB 130) 6 = .ok (.ifCond .eq 41, 3) := (congrArg (fun c => decode c 6) zeq130).trans (by decide +kernel)
theorem d130_9 : decode (zB 130) 9 = .ok (.iload_n 2, 1) := (congrArg (fun c => decode c 9) zeq130).trans (by decide +kernel)
theorem d130_10 : decode (zB 130) 10 = .ok (.invokestatic 119, 3) := (congrArg (fun c => decode c 10) zeq130).trans (by decide +kernel)
theorem d130_13 : decode (zB 130) 13 = .ok (.ifCond .eq 34, 3) := (congrArg (fun c => decode c 13) zeq130).trans (by decide +kernel)
theorem d130_16 : decode (zB 130) 16 = .ok (.iload_n 3, 1) := (congrArg (fun c => decode c 16) zeq130).trans (by decide +kernel)
theorem d130_17 : decode (zB 130) 17 = .ok (.invokestatic 119, 3) := (congrArg (fun c => decode c 17) zeq130).trans (by decide +kernel)
theorem d130_20 : decode (zB 130) 20 = .ok (.ifCond .eq 27, 3) := (congrArg (fun c => decode c 20) zeq130).trans (by decide +kernel)
theorem d130_23 : decode (zB 130) 23 = .ok (.iload 4, 2) := (congrArg (fun c => decode c 23) zeq130).trans (by decide +kernel)
theorem d130_25 : decode (zB 130) 25 = .ok (.invokestatic 119, 3) := (congrArg (fun c => decode c 25) zeq130).trans (by decide +kernel)
theorem d130_28 : decode (zB 130) 28 = .ok (.ifCond .eq 19, 3) := (congrArg (fun c => decode c 28) zeq130).trans (by decide +kernel)
theorem d130_31 : decode (zB 130) 31 = .ok (.iload 5, 2) := (congrArg (fun c => decode c 31) zeq130).trans (by decide +kernel)
theorem d130_33 : decode (zB 130) 33 = .ok (.invokestatic 119, 3) := (congrArg (fun c => decode c 33) zeq130).trans (by decide +kernel)
theorem d130_36 : decode (zB 130) 36 = .ok (.ifCond .eq 11, 3) := (congrArg (fun c => decode c 36) zeq130).trans (by decide +kernel)
theorem d130_39 : decode (zB 130) 39 = .ok (.iload 6, 2) := (congrArg (fun c => decode c 39) zeq130).trans (by decide +kernel)
theorem d130_41 : decode (zB 130) 41 = .ok (.invokestatic 119, 3) := (congrArg (fun c => decode c 41) zeq130).trans (by decide +kernel)
theorem d130_44 : decode (zB 130) 44 = .ok (.ifCond .ne 6, 3) := (congrArg (fun c => decode c 44) zeq130).trans (by decide +kernel)
theorem d130_47 : decode (zB 130) 47 = .ok (.bipush (-2), 2) := (congrArg (fun c => decode c 47) zeq130).trans (by decide +kernel)
theorem d130_49 : decode (zB 130) 49 = .ok (.ireturn, 1) := (congrArg (fun c => decode c 49) zeq130).trans (by decide +kernel)
theorem d130_50 : decode (zB 130) 50 = .ok (.aload_n 0, 1) := (congrArg (fun c => decode c 50) zeq130).trans (by decide +kernel)
theorem d130_51 : decode (zB 130) 51 = .ok (.getfield 123, 3) := (congrArg (fun c => decode c 51) zeq130).trans (by decide +kernel)
theorem d130_54 : decode (zB 130) 54 = .ok (.iload_n 1, 1) := (congrArg (fun c => decode c 54) zeq130).trans (by decide +kernel)
theorem d130_55 : decode (zB 130) 55 = .ok (.iadd, 1) := (congrArg (fun c => decode c 55) zeq130).trans (by decide +kernel)
theorem d130_56 : decode (zB 130) 56 = .ok (.bipush 120, 2) := (congrArg (fun c => decode c 56) zeq130).trans (by decide +kernel)
theorem d130_58 : decode (zB 130) 58 = .ok (.if_icmp .le 6, 3) := (congrArg (fun c => decode c 58) zeq130).trans (by decide +kernel)
theorem d130_61 : decode (zB 130) 61 = .ok (.bipush (-4), 2) := (congrArg (fun c => decode c 61) zeq130).trans (by decide +kernel)
theorem d130_63 : decode (zB 130) 63 = .ok (.ireturn, 1) := (congrArg (fun c => decode c 63) zeq130).trans (by decide +kernel)
theorem d130_64 : decode (zB 130) 64 = .ok (.iconst 0, 1) := (congrArg (fun c => decode c 64) zeq130).trans (by decide +kernel)
theorem d130_65 : decode (zB 130) 65 = .ok (.istore 7, 2) := (congrArg (fun c => decode c 65) zeq130).trans (by decide +kernel)
theorem d130_67 : decode (zB 130) 67 = .ok (.iload 7, 2) := (congrArg (fun c => decode c 67) zeq130).trans (by decide +kernel)
theorem d130_69 : decode (zB 130) 69 = .ok (.iload_n 1, 1) := (congrArg (fun c => decode c 69) zeq130).trans (by decide +kernel)
theorem d130_70 : decode (zB 130) 70 = .ok (.if_icmp .ge 64, 3) := (congrArg (fun c => decode c 70) zeq130).trans (by decide +kernel)
theorem d130_73 : decode (zB 130) 73 = .ok (.aload_n 0, 1) := (congrArg (fun c => decode c 73) zeq130).trans (by decide +kernel)
theorem d130_74 : decode (zB 130) 74 = .ok (.getfield 76, 3) := (congrArg (fun c => decode c 74) zeq130).trans (by decide +kernel)
theorem d130_77 : decode (zB 130) 77 = .ok (.aload_n 0, 1) := (congrArg (fun c => decode c 77) zeq130).trans (by decide +kernel)
theorem d130_78 : decode (zB 130) 78 = .ok (.getfield 123, 3) := (congrArg (fun c => decode c 78) zeq130).trans (by decide +kernel)
theorem d130_81 : decode (zB 130) 81 = .ok (.iload 7, 2) := (congrArg (fun c => decode c 81) zeq130).trans (by decide +kernel)
theorem d130_83 : decode (zB 130) 83 = .ok (.iadd, 1) := (congrArg (fun c => decode c 83) zeq130).trans (by decide +kernel)
theorem d130_84 : decode (zB 130) 84 = .ok (.iload 7, 2) := (congrArg (fun c => decode c 84) zeq130).trans (by decide +kernel)
theorem d130_86 : decode (zB 130) 86 = .ok (.ifCond .ne 7, 3) := (congrArg (fun c => decode c 86) zeq130).trans (by decide +kernel)
theorem d130_89 : decode (zB 130) 89 = .ok (.iload_n 2, 1) := (congrArg (fun c => decode c 89) zeq130).trans (by decide +kernel)
theorem d130_90 : decode (zB 130) 90 = .ok (.goto 37, 3) := (congrArg (fun c => decode c 90) zeq130).trans (by decide +kernel)
theorem d130_93 : decode (zB 130) 93 = .ok (.iload 7, 2) := (congrArg (fun c => decode c 93) zeq130).trans (by decide +kernel)
theorem d130_95 : decode (zB 130) 95 = .ok (.iconst 1, 1) := (congrArg (fun c => decode c 95) zeq130).trans (by decide +kernel)
theorem d130_96 : decode (zB 130) 96 = .ok (.if_icmp .ne 7, 3) := (congrArg (fun c => decode c 96) zeq130).trans (by decide +kernel)
theorem d130_99 : decode (zB 130) 99 = .ok (.iload_n 3, 1) := (congrArg (fun c => decode c 99) zeq130).trans (by decide +kernel)
theorem d130_100 : decode (zB 130) 100 = .ok (.goto 27, 3) := (congrArg (fun c => decode c 100) zeq130).trans (by decide +kernel)
theorem d130_103 : decode (zB 130) 103 = .ok (.iload 7, 2) := (congrArg (fun c => decode c 103) zeq130).trans (by decide +kernel)
theorem d130_105 : decode (zB 130) 105 = .ok (.iconst 2, 1) := (congrArg (fun c => decode c 105) zeq130).trans (by decide +kernel)
theorem d130_106 : decode (zB 130) 106 = .ok (.if_icmp .ne 8, 3) := (congrArg (fun c => decode c 106) zeq130).trans (by decide +kernel)
theorem d130_109 : decode (zB 130) 109 = .ok (.iload 4, 2) := (congrArg (fun c => decode c 109) zeq130).trans (by decide +kernel)
theorem d130_111 : decode (zB 130) 111 = .ok (.goto 16, 3) := (congrArg (fun c => decode c 111) zeq130).trans (by decide +kernel)
theorem d130_114 : decode (zB 130) 114 = .ok (.iload 7, 2) := (congrArg (fun c => decode c 114) zeq130).trans (by decide +kernel)
theorem d130_116 : decode (zB 130) 116 = .ok (.iconst 3, 1) := (congrArg (fun c => decode c 116) zeq130).trans (by decide +kernel)
theorem d130_117 : decode (zB 130) 117 = .ok (.if_icmp .ne 8, 3) := (congrArg (fun c => decode c 117) zeq130).trans (by decide +kernel)
theorem d130_120 : decode (zB 130) 120 = .ok (.iload 5, 2) := (congrArg (fun c => decode c 120) zeq130).trans (by decide +kernel)
theorem d130_122 : decode (zB 130) 122 = .ok (.goto 5, 3) := (congrArg (fun c => decode c 122) zeq130).trans (by decide +kernel)
theorem d130_125 : decode (zB 130) 125 = .ok (.iload 6, 2) := (congrArg (fun c => decode c 125) zeq130).trans (by decide +kernel)
theorem d130_127 : decode (zB 130) 127 = .ok (.iastore, 1) := (congrArg (fun c => decode c 127) zeq130).trans (by decide +kernel)
theorem d130_128 : decode (zB 130) 128 = .ok (.iinc 7 1, 3) := (congrArg (fun c => decode c 128) zeq130).trans (by decide +kernel)
theorem d130_131 : decode (zB 130) 131 = .ok (.goto (-64), 3) := (congrArg (fun c => decode c 131) zeq130).trans (by decide +kernel)
theorem d130_134 : decode (zB 130) 134 = .ok (.aload_n 0, 1) := (congrArg (fun c => decode c 134) zeq130).trans (by decide +kernel)
theorem d130_135 : decode (zB 130) 135 = .ok (.dup, 1) := (congrArg (fun c => decode c 135) zeq130).trans (by decide +kernel)
theorem d130_136 : decode (zB 130) 136 = .ok (.getfield 123, 3) := (congrArg (fun c => decode c 136) zeq130).trans (by decide +kernel)
theorem d130_139 : decode (zB 130) 139 = .ok (.iload_n 1, 1) := (congrArg (fun c => decode c 139) zeq130).trans (by decide +kernel)
theorem d130_140 : decode (zB 130) 140 = .ok (.iadd, 1) := (congrArg (fun c => decode c 140) zeq130).trans (by decide +kernel)
theorem d130_141 : decode (zB 130) 141 = .ok (.putfield 123, 3) := (congrArg (fun c => decode c 141) zeq130).trans (by decide +kernel)
theorem d130_144 : decode (zB 130) 144 = .ok (.aload_n 0, 1) := (congrArg (fun c => decode c 144) zeq130).trans (by decide +kernel)
theorem d130_145 : decode (zB 130) 145 = .ok (.getfield 123, 3) := (congrArg (fun c => decode c 145) zeq130).trans (by decide +kernel)
theorem d130_148 : decode (zB 130) 148 = .ok (.ireturn, 1) := (congrArg (fun c => decode c 148) zeq130).trans (by decide +kernel)
theorem l130 {d : Nat} {Q : Option Value → zM → Prop} {D : yD} {M0 : zM} {n a b c e f κ : Nat} (hn : n ≤ 5) (h120 : dn D + n ≤ 120) (k : ∀ M', RX M' (yfd D n a b c e f) κ → Fi FY M0 M' → Q (some (.int (nI (dn D + n)))) M') : ∀ (r i : Nat) (M1 : zM), i ≤ n → n < i + r →  RX M1 D κ → Fi FY M0 M1 → (∀ j, j < i → zi M1 208 (dn D + j) = nI (yby j a b c e f)) → qW (zEv (d + 2)) 130 Q 67 [(7, .int (nI i)), (0, .ref 136), (1, .int (nI n)), (2, .int (nI a)), (3, .int (nI b)), (4, .int (nI c)), (5, .int (nI e)), (6, .int (nI f))] [] M1 := by
  intro r
  induction r with
  | zero => intros; omega
  | succ r ih =>
    intro i M1 h1 h2 hR1 hF hz
    refine q_iload d130_67 rfl ?_
    refine q_iload_n d130_69 rfl ?_
    refine nc_ge 134 d130_70 (by decide) (by omega) (by omega) (fun h70 => ?_) (fun h70 => ?_)
    · refine q_aload_n d130_134 rfl ?_
      refine q_dup d130_135 rfl ?_
      refine q_getv (c := 8) (f := 30) d130_136 ⟨rfl, by decide⟩ (xk_136 hR1.1.1) hR1.2.2.2.1.2.1 ?_
      refine q_iload_n d130_139 rfl ?_
      refine n_iadd d130_140 ?_
      refine q_puti (c := 8) (f := 30) d130_141 ⟨rfl, rfl, by decide⟩ (xk_136 hR1.1.1) ?_
      refine q_aload_n d130_144 rfl ?_
      refine q_getv (c := 8) (f := 30) d130_145 ⟨rfl, by decide⟩ (xk_136 hR1.1.1) (wi_s _ _ _ _) ?_
      refine q_iret d130_148 rfl ?_
      have e9 : i = n := by omega
      subst e9
      exact k _ (hR1.fed h120 hz) (hF.wi (by unfold FY; omega))
    · refine q_aload_n d130_73 rfl ?_
      refine q_getr (c := 8) (f := 29) d130_74 ⟨rfl, rfl⟩ (xk_136 hR1.1.1) (xf_tape hR1.1.1) ?_
      refine q_aload_n d130_77 rfl ?_
      refine q_getv (c := 8) (f := 30) d130_78 ⟨rfl, by decide⟩ (xk_136 hR1.1.1) hR1.2.2.2.1.2.1 ?_
      refine q_iload d130_81 rfl ?_
      refine n_iadd d130_83 ?_
      refine q_iload d130_84 rfl ?_
      refine n0_ne 93 d130_86 (by decide) (by omega) (fun h86 => ?_) (fun h86 => ?_)
      · refine q_iload d130_93 rfl ?_
        refine q_iconstN (z := 1) d130_95 ?_
        refine nc_ne 103 d130_96 (by decide) (by omega) (by omega) (fun h96 => ?_) (fun h96 => ?_)
        · refine q_iload d130_103 rfl ?_
          refine q_iconstN (z := 2) d130_105 ?_
          refine nc_ne 114 d130_106 (by decide) (by omega) (by omega) (fun h106 => ?_) (fun h106 => ?_)
          · refine q_iload d130_114 rfl ?_
            refine q_iconstN (z := 3) d130_116 ?_
            refine nc_ne 125 d130_117 (by decide) (by omega) (by omega) (fun h117 => ?_) (fun h117 => ?_)
            · refine q_iload d130_125 rfl ?_
              refine n_iast d130_127 (xk_tape hR1.1.1) (by omega) (by decide) ?_
              refine n_iinc 1 d130_128 (by decide) rfl rfl ?_
              refine q_goto 67 d130_131 (by decide) ?_
              exact ih (i + 1) _ (by omega) (by omega) (hR1.tp (by omega)) (hF.wi (by unfold FY; omega)) (fun j hj => by
                by_cases e9 : j = i
                · subst e9
                  rw [wi_s]
                  exact congrArg nI (by unfold yby; (repeat' split) <;> first | rfl | (exfalso; omega))
                · rw [wi_n (by omega)]; exact hz j (by omega))
            · refine q_iload d130_120 rfl ?_
              refine q_goto 127 d130_122 (by decide) ?_
              refine n_iast d130_127 (xk_tape hR1.1.1) (by omega) (by decide) ?_
              refine n_iinc 1 d130_128 (by decide) rfl rfl ?_
              refine q_goto 67 d130_131 (by decide) ?_
              exact ih (i + 1) _ (by omega) (by omega) (hR1.tp (by omega)) (hF.wi (by unfold FY; omega)) (fun j hj => by
                by_cases e9 : j = i
                · subst e9
                  rw [wi_s]
                  exact congrArg nI (by unfold yby; (repeat' split) <;> first | rfl | (exfalso; omega))
                · rw [wi_n (by omega)]; exact hz j (by omega))
          · refine q_iload d130_109 rfl ?_
            refine q_goto 127 d130_111 (by decide) ?_
            refine n_iast d130_127 (xk_tape hR1.1.1) (by omega) (by decide) ?_
            refine n_iinc 1 d130_128 (by decide) rfl rfl ?_
            refine q_goto 67 d130_131 (by decide) ?_
            exact ih (i + 1) _ (by omega) (by omega) (hR1.tp (by omega)) (hF.wi (by unfold FY; omega)) (fun j hj => by
              by_cases e9 : j = i
              · subst e9
                rw [wi_s]
                exact congrArg nI (by unfold yby; (repeat' split) <;> first | rfl | (exfalso; omega))
              · rw [wi_n (by omega)]; exact hz j (by omega))
        · refine q_iload_n d130_99 rfl ?_
          refine q_goto 127 d130_100 (by decide) ?_
          refine n_iast d130_127 (xk_tape hR1.1.1) (by omega) (by decide) ?_
          refine n_iinc 1 d130_128 (by decide) rfl rfl ?_
          refine q_goto 67 d130_131 (by decide) ?_
          exact ih (i + 1) _ (by omega) (by omega) (hR1.tp (by omega)) (hF.wi (by unfold FY; omega)) (fun j hj => by
            by_cases e9 : j = i
            · subst e9
              rw [wi_s]
              exact congrArg nI (by unfold yby; (repeat' split) <;> first | rfl | (exfalso; omega))
            · rw [wi_n (by omega)]; exact hz j (by omega))
      · refine q_iload_n d130_89 rfl ?_
        refine q_goto 127 d130_90 (by decide) ?_
        refine n_iast d130_127 (xk_tape hR1.1.1) (by omega) (by decide) ?_
        refine n_iinc 1 d130_128 (by decide) rfl rfl ?_
        refine q_goto 67 d130_131 (by decide) ?_
        exact ih (i + 1) _ (by omega) (by omega) (hR1.tp (by omega)) (hF.wi (by unfold FY; omega)) (fun j hj => by
          by_cases e9 : j = i
          · subst e9
            rw [wi_s]
            exact congrArg nI (by unfold yby; (repeat' split) <;> first | rfl | (exfalso; omega))
          · rw [wi_n (by omega)]; exact hz j (by omega))
theorem x130 {d : Nat} {M : zM} {Q : Option Value → zM → Prop} {D : yD} {κ : Nat} {x ax bx cx ex fx : Int32} (hR : RX M D κ) (hD : OKD D) (hκ : κ + 4000 < 2147483648) (k : ∀ M' κ', κ' ≤ κ + 240 → RX M' (sFeed D x ax bx cx ex fx).2 κ' → Fi FY M M' → Q (some (.int (sFeed D x ax bx cx ex fx).1)) M') : qC (d + 3) 130 [.ref 136, .int x, .int ax, .int bx, .int cx, .int ex, .int fx] M Q := by
  refine qC_of (by decide) (Nat.le_of_ble_eq_true rfl) ?_
  have hC := hR.1
  have hX := hC.1
  have hO : OKW (dT D) (dc D) (dW D) := hC.2.2.1
  have hc6 := hO.1.1
  have hL : XLo [] M (some (dL D)) := hC.2.2.2.2.2.2.1
  have hSa : ∀ s, s < 3 → XSa M s (dS D s) κ := hC.2.2.2.2.1
  have hTk := hC.k
  have hck := hC.2.2.2.2.2.1
  have h240 := hD.2.1
  unfold sFeed at k
  have h120 := hR.2.2.2.1.1
  rcases zix_c x (n := 6) (by omega) with ⟨n, hn, rfl, en⟩ | ⟨en, nn⟩
  · rw [oz_s en] at k
    by_cases h0 : n = 0
    · subst h0
      rw [if_pos rfl] at k
      refine q_iload_n d130_0 rfl ?_
      refine q_iconstN (z := 1) d130_1 ?_
      refine q_iconstN (z := 5) d130_2 ?_
      refine q_s3 d130_3 (Or.inl rfl) rfl (Nat.le_of_ble_eq_true rfl) (c131n (by decide) (by decide) (by decide) (by decide) ?_)
      refine n0_eq 47 d130_6 (by decide) (by decide) (fun _ => ?_) (fun q => absurd q (by decide))
      refine q_bipush (x := (-2)) d130_47 rfl ?_
      refine q_iret d130_49 rfl ?_
      exact k _ κ (Nat.le_add_right _ _) hR (Fi.refl _ _)
    · rw [if_neg h0] at k
      rcases zix_c ax (n := 256) (by omega) with ⟨a, ha, rfl, ea⟩ | ⟨ea, na⟩
      · rw [oz_s ea] at k
        rcases zix_c bx (n := 256) (by omega) with ⟨b, hb, rfl, eb⟩ | ⟨eb, nb⟩
        · rw [oz_s eb] at k
          rcases zix_c cx (n := 256) (by omega) with ⟨c, hc, rfl, ec⟩ | ⟨ec, nc⟩
          · rw [oz_s ec] at k
            rcases zix_c ex (n := 256) (by omega) with ⟨e, he, rfl, ee⟩ | ⟨ee, ne⟩
            · rw [oz_s ee] at k
              rcases zix_c fx (n := 256) (by omega) with ⟨f, hf, rfl, ef⟩ | ⟨ef, nf⟩
              · rw [oz_s ef] at k
                by_cases hfull : 120 < dn D + n
                · rw [if_pos hfull] at k
                  refine q_iload_n d130_0 rfl ?_
                  refine q_iconstN (z := 1) d130_1 ?_
                  refine q_iconstN (z := 5) d130_2 ?_
                  refine q_s3 d130_3 (Or.inl rfl) rfl (Nat.le_of_ble_eq_true rfl) (c131t ⟨by omega, by omega⟩ (by decide) ?_)
                  refine n0_eq 47 d130_6 (by decide) (by decide) (fun q => absurd q (by decide)) (fun _ => ?_)
                  refine q_iload_n d130_9 rfl ?_
                  refine q_s1 d130_10 (Or.inl rfl) rfl (Nat.le_of_ble_eq_true rfl) (c132t (by omega) ?_)
                  refine n0_eq 47 d130_13 (by decide) (by decide) (fun q => absurd q (by decide)) (fun _ => ?_)
                  refine q_iload_n d130_16 rfl ?_
                  refine q_s1 d130_17 (Or.inl rfl) rfl (Nat.le_of_ble_eq_true rfl) (c132t (by omega) ?_)
                  refine n0_eq 47 d130_20 (by decide) (by decide) (fun q => absurd q (by decide)) (fun _ => ?_)
                  refine q_iload d130_23 rfl ?_
                  refine q_s1 d130_25 (Or.inl rfl) rfl (Nat.le_of_ble_eq_true rfl) (c132t (by omega) ?_)
                  refine n0_eq 47 d130_28 (by decide) (by decide) (fun q => absurd q (by decide)) (fun _ => ?_)
                  refine q_iload d130_31 rfl ?_
                  refine q_s1 d130_33 (Or.inl rfl) rfl (Nat.le_of_ble_eq_true rfl) (c132t (by omega) ?_)
                  refine n0_eq 47 d130_36 (by decide) (by decide) (fun q => absurd q (by decide)) (fun _ => ?_)
                  refine q_iload d130_39 rfl ?_
                  refine q_s1 d130_41 (Or.inl rfl) rfl (Nat.le_of_ble_eq_true rfl) (c132t (by omega) ?_)
                  refine n0_ne 50 d130_44 (by decide) (by decide) (fun _ => ?_) (fun q => absurd q (by decide))
                  refine q_aload_n d130_50 rfl ?_
                  refine q_getv (c := 8) (f := 30) d130_51 ⟨rfl, by decide⟩ (xk_136 hX) hR.2.2.2.1.2.1 ?_
                  refine q_iload_n d130_54 rfl ?_
                  refine n_iadd d130_55 ?_
                  refine q_bipush (x := nI 120) d130_56 rfl ?_
                  refine nc_le 64 d130_58 (by decide) (by omega) (by omega) (fun h58 => (False.elim (by omega))) (fun h58 => ?_)
                  refine q_bipush (x := (-4)) d130_61 rfl ?_
                  refine q_iret d130_63 rfl ?_
                  exact k _ κ (Nat.le_add_right _ _) hR (Fi.refl _ _)
                · rw [if_neg hfull] at k
                  refine q_iload_n d130_0 rfl ?_
                  refine q_iconstN (z := 1) d130_1 ?_
                  refine q_iconstN (z := 5) d130_2 ?_
                  refine q_s3 d130_3 (Or.inl rfl) rfl (Nat.le_of_ble_eq_true rfl) (c131t ⟨by omega, by omega⟩ (by decide) ?_)
                  refine n0_eq 47 d130_6 (by decide) (by decide) (fun q => absurd q (by decide)) (fun _ => ?_)
                  refine q_iload_n d130_9 rfl ?_
                  refine q_s1 d130_10 (Or.inl rfl) rfl (Nat.le_of_ble_eq_true rfl) (c132t (by omega) ?_)
                  refine n0_eq 47 d130_13 (by decide) (by decide) (fun q => absurd q (by decide)) (fun _ => ?_)
                  refine q_iload_n d130_16 rfl ?_
                  refine q_s1 d130_17 (Or.inl rfl) rfl (Nat.le_of_ble_eq_true rfl) (c132t (by omega) ?_)
                  refine n0_eq 47 d130_20 (by decide) (by decide) (fun q => absurd q (by decide)) (fun _ => ?_)
                  refine q_iload d130_23 rfl ?_
                  refine q_s1 d130_25 (Or.inl rfl) rfl (Nat.le_of_ble_eq_true rfl) (c132t (by omega) ?_)
                  refine n0_eq 47 d130_28 (by decide) (by decide) (fun q => absurd q (by decide)) (fun _ => ?_)
                  refine q_iload d130_31 rfl ?_
                  refine q_s1 d130_33 (Or.inl rfl) rfl (Nat.le_of_ble_eq_true rfl) (c132t (by omega) ?_)
                  refine n0_eq 47 d130_36 (by decide) (by decide) (fun q => absurd q (by decide)) (fun _ => ?_)
                  refine q_iload d130_39 rfl ?_
                  refine q_s1 d130_41 (Or.inl rfl) rfl (Nat.le_of_ble_eq_true rfl) (c132t (by omega) ?_)
                  refine n0_ne 50 d130_44 (by decide) (by decide) (fun _ => ?_) (fun q => absurd q (by decide))
                  refine q_aload_n d130_50 rfl ?_
                  refine q_getv (c := 8) (f := 30) d130_51 ⟨rfl, by decide⟩ (xk_136 hX) hR.2.2.2.1.2.1 ?_
                  refine q_iload_n d130_54 rfl ?_
                  refine n_iadd d130_55 ?_
                  refine q_bipush (x := nI 120) d130_56 rfl ?_
                  refine nc_le 64 d130_58 (by decide) (by omega) (by omega) (fun h58 => ?_) (fun h58 => (False.elim (by omega)))
                  refine q_iconstN (z := 0) d130_64 ?_
                  refine q_istore d130_65 (by decide) rfl ?_
                  exact l130 (D := D) (by omega) (by omega) (fun M' q1 q2 => k M' κ (Nat.le_add_right _ _) q1 q2) (n + 1) 0 M (by omega) (by omega) hR (Fi.refl _ _) (fun j hj => by omega)
              · rw [oz_n ef] at k
                refine q_iload_n d130_0 rfl ?_
                refine q_iconstN (z := 1) d130_1 ?_
                refine q_iconstN (z := 5) d130_2 ?_
                refine q_s3 d130_3 (Or.inl rfl) rfl (Nat.le_of_ble_eq_true rfl) (c131t ⟨by omega, by omega⟩ (by decide) ?_)
                refine n0_eq 47 d130_6 (by decide) (by decide) (fun q => absurd q (by decide)) (fun _ => ?_)
                refine q_iload_n d130_9 rfl ?_
                refine q_s1 d130_10 (Or.inl rfl) rfl (Nat.le_of_ble_eq_true rfl) (c132t (by omega) ?_)
                refine n0_eq 47 d130_13 (by decide) (by decide) (fun q => absurd q (by decide)) (fun _ => ?_)
                refine q_iload_n d130_16 rfl ?_
                refine q_s1 d130_17 (Or.inl rfl) rfl (Nat.le_of_ble_eq_true rfl) (c132t (by omega) ?_)
                refine n0_eq 47 d130_20 (by decide) (by decide) (fun q => absurd q (by decide)) (fun _ => ?_)
                refine q_iload d130_23 rfl ?_
                refine q_s1 d130_25 (Or.inl rfl) rfl (Nat.le_of_ble_eq_true rfl) (c132t (by omega) ?_)
                refine n0_eq 47 d130_28 (by decide) (by decide) (fun q => absurd q (by decide)) (fun _ => ?_)
                refine q_iload d130_31 rfl ?_
                refine q_s1 d130_33 (Or.inl rfl) rfl (Nat.le_of_ble_eq_true rfl) (c132t (by omega) ?_)
                refine n0_eq 47 d130_36 (by decide) (by decide) (fun q => absurd q (by decide)) (fun _ => ?_)
                refine q_iload d130_39 rfl ?_
                refine q_s1 d130_41 (Or.inl rfl) rfl (Nat.le_of_ble_eq_true rfl) (c132f ef ?_)
                refine n0_ne 50 d130_44 (by decide) (by decide) (fun q => absurd q (by decide)) (fun _ => ?_)
                refine q_bipush (x := (-2)) d130_47 rfl ?_
                refine q_iret d130_49 rfl ?_
                exact k _ κ (Nat.le_add_right _ _) hR (Fi.refl _ _)
            · rw [oz_n ee] at k
              refine q_iload_n d130_0 rfl ?_
              refine q_iconstN (z := 1) d130_1 ?_
              refine q_iconstN (z := 5) d130_2 ?_
              refine q_s3 d130_3 (Or.inl rfl) rfl (Nat.le_of_ble_eq_true rfl) (c131t ⟨by omega, by omega⟩ (by decide) ?_)
              refine n0_eq 47 d130_6 (by decide) (by decide) (fun q => absurd q (by decide)) (fun _ => ?_)
              refine q_iload_n d130_9 rfl ?_
              refine q_s1 d130_10 (Or.inl rfl) rfl (Nat.le_of_ble_eq_true rfl) (c132t (by omega) ?_)
              refine n0_eq 47 d130_13 (by decide) (by decide) (fun q => absurd q (by decide)) (fun _ => ?_)
              refine q_iload_n d130_16 rfl ?_
              refine q_s1 d130_17 (Or.inl rfl) rfl (Nat.le_of_ble_eq_true rfl) (c132t (by omega) ?_)
              refine n0_eq 47 d130_20 (by decide) (by decide) (fun q => absurd q (by decide)) (fun _ => ?_)
              refine q_iload d130_23 rfl ?_
              refine q_s1 d130_25 (Or.inl rfl) rfl (Nat.le_of_ble_eq_true rfl) (c132t (by omega) ?_)
              refine n0_eq 47 d130_28 (by decide) (by decide) (fun q => absurd q (by decide)) (fun _ => ?_)
              refine q_iload d130_31 rfl ?_
              refine q_s1 d130_33 (Or.inl rfl) rfl (Nat.le_of_ble_eq_true rfl) (c132f ee ?_)
              refine n0_eq 47 d130_36 (by decide) (by decide) (fun _ => ?_) (fun q => absurd q (by decide))
              refine q_bipush (x := (-2)) d130_47 rfl ?_
              refine q_iret d130_49 rfl ?_
              exact k _ κ (Nat.le_add_right _ _) hR (Fi.refl _ _)
          · rw [oz_n ec] at k
            refine q_iload_n d130_0 rfl ?_
            refine q_iconstN (z := 1) d130_1 ?_
            refine q_iconstN (z := 5) d130_2 ?_
            refine q_s3 d130_3 (Or.inl rfl) rfl (Nat.le_of_ble_eq_true rfl) (c131t ⟨by omega, by omega⟩ (by decide) ?_)
            refine n0_eq 47 d130_6 (by decide) (by decide) (fun q => absurd q (by decide)) (fun _ => ?_)
            refine q_iload_n d130_9 rfl ?_
            refine q_s1 d130_10 (Or.inl rfl) rfl (Nat.le_of_ble_eq_true rfl) (c132t (by omega) ?_)
            refine n0_eq 47 d130_13 (by decide) (by decide) (fun q => absurd q (by decide)) (fun _ => ?_)
            refine q_iload_n d130_16 rfl ?_
            refine q_s1 d130_17 (Or.inl rfl) rfl (Nat.le_of_ble_eq_true rfl) (c132t (by omega) ?_)
            refine n0_eq 47 d130_20 (by decide) (by decide) (fun q => absurd q (by decide)) (fun _ => ?_)
            refine q_iload d130_23 rfl ?_
            refine q_s1 d130_25 (Or.inl rfl) rfl (Nat.le_of_ble_eq_true rfl) (c132f ec ?_)
            refine n0_eq 47 d130_28 (by decide) (by decide) (fun _ => ?_) (fun q => absurd q (by decide))
            refine q_bipush (x := (-2)) d130_47 rfl ?_
            refine q_iret d130_49 rfl ?_
            exact k _ κ (Nat.le_add_right _ _) hR (Fi.refl _ _)
        · rw [oz_n eb] at k
          refine q_iload_n d130_0 rfl ?_
          refine q_iconstN (z := 1) d130_1 ?_
          refine q_iconstN (z := 5) d130_2 ?_
          refine q_s3 d130_3 (Or.inl rfl) rfl (Nat.le_of_ble_eq_true rfl) (c131t ⟨by omega, by omega⟩ (by decide) ?_)
          refine n0_eq 47 d130_6 (by decide) (by decide) (fun q => absurd q (by decide)) (fun _ => ?_)
          refine q_iload_n d130_9 rfl ?_
          refine q_s1 d130_10 (Or.inl rfl) rfl (Nat.le_of_ble_eq_true rfl) (c132t (by omega) ?_)
          refine n0_eq 47 d130_13 (by decide) (by decide) (fun q => absurd q (by decide)) (fun _ => ?_)
          refine q_iload_n d130_16 rfl ?_
          refine q_s1 d130_17 (Or.inl rfl) rfl (Nat.le_of_ble_eq_true rfl) (c132f eb ?_)
          refine n0_eq 47 d130_20 (by decide) (by decide) (fun _ => ?_) (fun q => absurd q (by decide))
          refine q_bipush (x := (-2)) d130_47 rfl ?_
          refine q_iret d130_49 rfl ?_
          exact k _ κ (Nat.le_add_right _ _) hR (Fi.refl _ _)
      · rw [oz_n ea] at k
        refine q_iload_n d130_0 rfl ?_
        refine q_iconstN (z := 1) d130_1 ?_
        refine q_iconstN (z := 5) d130_2 ?_
        refine q_s3 d130_3 (Or.inl rfl) rfl (Nat.le_of_ble_eq_true rfl) (c131t ⟨by omega, by omega⟩ (by decide) ?_)
        refine n0_eq 47 d130_6 (by decide) (by decide) (fun q => absurd q (by decide)) (fun _ => ?_)
        refine q_iload_n d130_9 rfl ?_
        refine q_s1 d130_10 (Or.inl rfl) rfl (Nat.le_of_ble_eq_true rfl) (c132f ea ?_)
        refine n0_eq 47 d130_13 (by decide) (by decide) (fun _ => ?_) (fun q => absurd q (by decide))
        refine q_bipush (x := (-2)) d130_47 rfl ?_
        refine q_iret d130_49 rfl ?_
        exact k _ κ (Nat.le_add_right _ _) hR (Fi.refl _ _)
  · rw [oz_n en] at k
    refine q_iload_n d130_0 rfl ?_
    refine q_iconstN (z := 1) d130_1 ?_
    refine q_iconstN (z := 5) d130_2 ?_
    refine q_s3 d130_3 (Or.inl rfl) rfl (Nat.le_of_ble_eq_true rfl) (c131fd en ?_)
    refine n0_eq 47 d130_6 (by decide) (by decide) (fun _ => ?_) (fun q => absurd q (by decide))
    refine q_bipush (x := (-2)) d130_47 rfl ?_
    refine q_iret d130_49 rfl ?_
    exact k _ κ (Nat.le_add_right _ _) hR (Fi.refl _ _)
/-! ===== the reference: taken ===== -/
theorem d166_0 : decode (zB 166) 0 = .ok (.aload_n 0, 1) := (congrArg (fun c => decode c 0) zeq166).trans (by decide +kernel)
theorem d166_1 : decode (zB 166) 1 = .ok (.iload_n 1, 1) := (congrArg (fun c => decode c 1) zeq166).trans (by decide +kernel)
theorem d166_2 : decode (zB 166) 2 = .ok (.invokevirtual 243, 3) := (congrArg (fun c => decode c 2) zeq166).trans (by decide +kernel)
theorem d166_5 : decode (zB 166) 5 = .ok (.ifCond .eq 23, 3) := (congrArg (fun c => decode c 5) zeq166).trans (by decide +kernel)
theorem d166_8 : decode (zB 166) 8 = .ok (.iload_n 2, 1) := (congrArg (fun c => decode c 8) zeq166).trans (by decide +kernel)
theorem d166_9 : decode (zB 166) 9 = .ok (.iconst 0, 1) := (congrArg (fun c => decode c 9) zeq166).trans (by decide +kernel)
theorem d166_10 : decode (zB 166) 10 = .ok (.aload_n 0, 1) := (congrArg (fun c => decode c 10) zeq166).trans (by decide +kernel)
theorem d166_11 : decode (zB 166) 11 = .ok (.getfield 9, 3) := (congrArg (fun c => decode c 11) zeq166).trans (by decide +kernel)
theorem d166_14 : decode (zB 166) 14 = .ok (.iload_n 1, 1) := (congrArg (fun c => decode c 14) zeq166).trans (by decide +kernel)
theorem d166_15 : decode (zB 166) 15 = .ok (.iaload, 1) := (congrArg (fun c => decode c 15) zeq166).trans (by decide +kernel)
theorem d166_16 : decode (zB 166) 16 = .ok (.iconst 1, 1) := (congrArg (fun c => decode c 16) zeq166).trans (by decide +kernel)
theorem d166_17 : decode (zB 166) 17 = .ok (.isub, 1) := (congrArg (fun c => decode c 17) zeq166).trans (by decide +kernel)
theorem d166_18 : decode (zB 166) 18 = .ok (.invokestatic 112, 3) := (congrArg (fun c => decode c 18) zeq166).trans (by decide +kernel)
theorem d166_21 : decode (zB 166) 21 = .ok (.ifCond .eq 7, 3) := (congrArg (fun c => decode c 21) zeq166).trans (by decide +kernel)
theorem d166_24 : decode (zB 166) 24 = .ok (.iconst 1, 1) := (congrArg (fun c => decode c 24) zeq166).trans (by decide +kernel)
theorem d166_25 : decode (zB 166) 25 = .ok (.goto 4, 3) := (congrArg (fun c => decode c 25) zeq166).trans (by decide +kernel)
theorem d166_28 : decode (zB 166) 28 = .ok (.iconst 0, 1) := (congrArg (fun c => decode c 28) zeq166).trans (by decide +kernel)
theorem d166_29 : decode (zB 166) 29 = .ok (.ireturn, 1) := (congrArg (fun c => decode c 29) zeq166).trans (by decide +kernel)
theorem c166t {d : Nat} {M : zM} {Q : Option Value → zM → Prop} {D : yD} {κ t i : Nat} (hR : RX M D κ) (ht : t < dc D) (hi : i < tn (dT D t)) (k : Q (some (.int (nI 1))) M) : qC (d + 3) 166 [.ref 136, .int (nI t), .int (nI i)] M Q := by
  refine qC_of (by decide) (Nat.le_of_ble_eq_true rfl) ?_
  have hC := hR.1
  have hX := hC.1
  have hO : OKW (dT D) (dc D) (dW D) := hC.2.2.1
  have hc6 := hO.1.1
  have hL : XLo [] M (some (dL D)) := hC.2.2.2.2.2.2.1
  have hSa : ∀ s, s < 3 → XSa M s (dS D s) κ := hC.2.2.2.2.1
  have hTk := hC.k
  have hck := hC.2.2.2.2.2.1
  have hn := (hO.1.2 _ ht).n
  refine q_aload_n d166_0 rfl ?_
  refine q_iload_n d166_1 rfl ?_
  refine q_v1 d166_2 rfl rfl (xk_136 hX) (Nat.le_of_ble_eq_true rfl) (c145t hR (by omega) ?_)
  refine n0_eq 28 d166_5 (by decide) (by decide) (fun q => absurd q (by decide)) (fun _ => ?_)
  refine q_iload_n d166_8 rfl ?_
  refine q_iconstN (z := 0) d166_9 ?_
  refine q_aload_n d166_10 rfl ?_
  refine q_getr (c := 8) (f := 1) d166_11 ⟨rfl, rfl⟩ (xk_136 hX) (xf_stepMany hX) ?_
  refine q_iload_n d166_14 rfl ?_
  refine n_iald d166_15 (xk_stepMany hX) (by omega) (by decide) (hTk.1 _ (by omega)).1 ?_
  refine q_iconstN (z := 1) d166_16 ?_
  refine q_isub d166_17 ?_
  refine q_s3 d166_18 (Or.inl rfl) rfl (Nat.le_of_ble_eq_true rfl) (c131st (by omega) (by omega) ?_)
  refine n0_eq 28 d166_21 (by decide) (by decide) (fun q => absurd q (by decide)) (fun _ => ?_)
  refine q_iconstN (z := 1) d166_24 ?_
  refine q_goto 29 d166_25 (by decide) ?_
  refine q_zret d166_29 rfl (by decide) ?_
  exact k
theorem c166f {d : Nat} {M : zM} {Q : Option Value → zM → Prop} {D : yD} {κ t : Nat} {y : Int32} (hR : RX M D κ) (ht : t < dc D) (ey : zix y (tn (dT D t)) = none) (k : Q (some (.int (nI 0))) M) : qC (d + 3) 166 [.ref 136, .int (nI t), .int y] M Q := by
  refine qC_of (by decide) (Nat.le_of_ble_eq_true rfl) ?_
  have hC := hR.1
  have hX := hC.1
  have hO : OKW (dT D) (dc D) (dW D) := hC.2.2.1
  have hc6 := hO.1.1
  have hL : XLo [] M (some (dL D)) := hC.2.2.2.2.2.2.1
  have hSa : ∀ s, s < 3 → XSa M s (dS D s) κ := hC.2.2.2.2.1
  have hTk := hC.k
  have hck := hC.2.2.2.2.2.1
  have hn := (hO.1.2 _ ht).n
  refine q_aload_n d166_0 rfl ?_
  refine q_iload_n d166_1 rfl ?_
  refine q_v1 d166_2 rfl rfl (xk_136 hX) (Nat.le_of_ble_eq_true rfl) (c145t hR (by omega) ?_)
  refine n0_eq 28 d166_5 (by decide) (by decide) (fun q => absurd q (by decide)) (fun _ => ?_)
  refine q_iload_n d166_8 rfl ?_
  refine q_iconstN (z := 0) d166_9 ?_
  refine q_aload_n d166_10 rfl ?_
  refine q_getr (c := 8) (f := 1) d166_11 ⟨rfl, rfl⟩ (xk_136 hX) (xf_stepMany hX) ?_
  refine q_iload_n d166_14 rfl ?_
  refine n_iald d166_15 (xk_stepMany hX) (by omega) (by decide) (hTk.1 _ (by omega)).1 ?_
  refine q_iconstN (z := 1) d166_16 ?_
  refine q_isub d166_17 ?_
  refine q_s3 d166_18 (Or.inl rfl) rfl (Nat.le_of_ble_eq_true rfl) (c131sf ey (by omega) ?_)
  refine n0_eq 28 d166_21 (by decide) (by decide) (fun _ => ?_) (fun q => absurd q (by decide))
  refine q_iconstN (z := 0) d166_28 ?_
  refine q_zret d166_29 rfl (by decide) ?_
  exact k
theorem c166x {d : Nat} {M : zM} {Q : Option Value → zM → Prop} {D : yD} {κ : Nat} {x y : Int32} (hR : RX M D κ) (ex : zix x (dc D) = none) (k : Q (some (.int (nI 0))) M) : qC (d + 3) 166 [.ref 136, .int x, .int y] M Q := by
  refine qC_of (by decide) (Nat.le_of_ble_eq_true rfl) ?_
  have hC := hR.1
  have hX := hC.1
  have hO : OKW (dT D) (dc D) (dW D) := hC.2.2.1
  have hc6 := hO.1.1
  have hL : XLo [] M (some (dL D)) := hC.2.2.2.2.2.2.1
  have hSa : ∀ s, s < 3 → XSa M s (dS D s) κ := hC.2.2.2.2.1
  have hTk := hC.k
  have hck := hC.2.2.2.2.2.1
  refine q_aload_n d166_0 rfl ?_
  refine q_iload_n d166_1 rfl ?_
  refine q_v1 d166_2 rfl rfl (xk_136 hX) (Nat.le_of_ble_eq_true rfl) (c145f hR ex ?_)
  refine n0_eq 28 d166_5 (by decide) (by decide) (fun _ => ?_) (fun q => absurd q (by decide))
  refine q_iconstN (z := 0) d166_28 ?_
  refine q_zret d166_29 rfl (by decide) ?_
  exact k
theorem d167_0 : decode (zB 167) 0 = .ok (.aload_n 0, 1) := (congrArg (fun c => decode c 0) zeq167).trans (by decide +kernel)
theorem d167_1 : decode (zB 167) 1 = .ok (.iload_n 1, 1) := (congrArg (fun c => decode c 1) zeq167).trans (by decide +kernel)
theorem d167_2 : decode (zB 167) 2 = .ok (.iload_n 2, 1) := (congrArg (fun c => decode c 2) zeq167).trans (by decide +kernel)
theorem d167_3 : decode (zB 167) 3 = .ok (.invokevirtual 264, 3) := (congrArg (fun c => decode c 3) zeq167).trans (by decide +kernel)
theorem d167_6 : decode (zB 167) 6 = .ok (.ifCond .eq 12, 3) := (congrArg (fun c => decode c 6) zeq167).trans (by decide +kernel)
theorem d167_9 : decode (zB 167) 9 = .ok (.iload_n 3, 1) := (congrArg (fun c => decode c 9) zeq167).trans (by decide +kernel)
theorem d167_10 : decode (zB 167) 10 = .ok (.iconst 0, 1) := (congrArg (fun c => decode c 10) zeq167).trans (by decide +kernel)
theorem d167_11 : decode (zB 167) 11 = .ok (.iconst 5, 1) := (congrArg (fun c => decode c 11) zeq167).trans (by decide +kernel)
theorem d167_12 : decode (zB 167) 12 = .ok (.invokestatic 112, 3) := (congrArg (fun c => decode c 12) zeq167).trans (by decide +kernel)
theorem d167_15 : decode (zB 167) 15 = .ok (.ifCond .ne 6, 3) := (congrArg (fun c => decode c 15) zeq167).trans (by decide +kernel)
theorem d167_18 : decode (zB 167) 18 = .ok (.bipush (-2), 2) := (congrArg (fun c => decode c 18) zeq167).trans (by decide +kernel)
theorem d167_20 : decode (zB 167) 20 = .ok (.ireturn, 1) := (congrArg (fun c => decode c 20) zeq167).trans (by decide +kernel)
theorem d167_21 : decode (zB 167) 21 = .ok (.aload_n 0, 1) := (congrArg (fun c => decode c 21) zeq167).trans (by decide +kernel)
theorem d167_22 : decode (zB 167) 22 = .ok (.getfield 18, 3) := (congrArg (fun c => decode c 22) zeq167).trans (by decide +kernel)
theorem d167_25 : decode (zB 167) 25 = .ok (.iload_n 1, 1) := (congrArg (fun c => decode c 25) zeq167).trans (by decide +kernel)
theorem d167_26 : decode (zB 167) 26 = .ok (.aaload, 1) := (congrArg (fun c => decode c 26) zeq167).trans (by decide +kernel)
theorem d167_27 : decode (zB 167) 27 = .ok (.iload_n 2, 1) := (congrArg (fun c => decode c 27) zeq167).trans (by decide +kernel)
theorem d167_28 : decode (zB 167) 28 = .ok (.iaload, 1) := (congrArg (fun c => decode c 28) zeq167).trans (by decide +kernel)
theorem d167_29 : decode (zB 167) 29 = .ok (.istore 4, 2) := (congrArg (fun c => decode c 29) zeq167).trans (by decide +kernel)
theorem d167_31 : decode (zB 167) 31 = .ok (.iload_n 3, 1) := (congrArg (fun c => decode c 31) zeq167).trans (by decide +kernel)
theorem d167_32 : decode (zB 167) 32 = .ok (.ifCond .eq 31, 3) := (congrArg (fun c => decode c 32) zeq167).trans (by decide +kernel)
theorem d167_35 : decode (zB 167) 35 = .ok (.iload_n 3, 1) := (congrArg (fun c => decode c 35) zeq167).trans (by decide +kernel)
theorem d167_36 : decode (zB 167) 36 = .ok (.iload 4, 2) := (congrArg (fun c => decode c 36) zeq167).trans (by decide +kernel)
theorem d167_38 : decode (zB 167) 38 = .ok (.if_icmp .eq 25, 3) := (congrArg (fun c => decode c 38) zeq167).trans (by decide +kernel)
theorem d167_41 : decode (zB 167) 41 = .ok (.iload_n 3, 1) := (congrArg (fun c => decode c 41) zeq167).trans (by decide +kernel)
theorem d167_42 : decode (zB 167) 42 = .ok (.iconst 1, 1) := (congrArg (fun c => decode c 42) zeq167).trans (by decide +kernel)
theorem d167_43 : decode (zB 167) 43 = .ok (.if_icmp .ne 9, 3) := (congrArg (fun c => decode c 43) zeq167).trans (by decide +kernel)
theorem d167_46 : decode (zB 167) 46 = .ok (.iload 4, 2) := (congrArg (fun c => decode c 46) zeq167).trans (by decide +kernel)
theorem d167_48 : decode (zB 167) 48 = .ok (.iconst 3, 1) := (congrArg (fun c => decode c 48) zeq167).trans (by decide +kernel)
theorem d167_49 : decode (zB 167) 49 = .ok (.if_icmp .eq 14, 3) := (congrArg (fun c => decode c 49) zeq167).trans (by decide +kernel)
theorem d167_52 : decode (zB 167) 52 = .ok (.iload_n 3, 1) := (congrArg (fun c => decode c 52) zeq167).trans (by decide +kernel)
theorem d167_53 : decode (zB 167) 53 = .ok (.iconst 2, 1) := (congrArg (fun c => decode c 53) zeq167).trans (by decide +kernel)
theorem d167_54 : decode (zB 167) 54 = .ok (.if_icmp .ne 14, 3) := (congrArg (fun c => decode c 54) zeq167).trans (by decide +kernel)
theorem d167_57 : decode (zB 167) 57 = .ok (.iload 4, 2) := (congrArg (fun c => decode c 57) zeq167).trans (by decide +kernel)
theorem d167_59 : decode (zB 167) 59 = .ok (.iconst 4, 1) := (congrArg (fun c => decode c 59) zeq167).trans (by decide +kernel)
theorem d167_60 : decode (zB 167) 60 = .ok (.if_icmp .ne 8, 3) := (congrArg (fun c => decode c 60) zeq167).trans (by decide +kernel)
theorem d167_63 : decode (zB 167) 63 = .ok (.iload 4, 2) := (congrArg (fun c => decode c 63) zeq167).trans (by decide +kernel)
theorem d167_65 : decode (zB 167) 65 = .ok (.goto 5, 3) := (congrArg (fun c => decode c 65) zeq167).trans (by decide +kernel)
theorem d167_68 : decode (zB 167) 68 = .ok (.bipush (-13), 2) := (congrArg (fun c => decode c 68) zeq167).trans (by decide +kernel)
theorem d167_70 : decode (zB 167) 70 = .ok (.ireturn, 1) := (congrArg (fun c => decode c 70) zeq167).trans (by decide +kernel)
theorem x167 {d : Nat} {M : zM} {Q : Option Value → zM → Prop} {D : yD} {κ : Nat} {x y z : Int32} (hR : RX M D κ) (hD : OKD D) (hκ : κ + 4000 < 2147483648) (k : ∀ M', RX M' D κ → Fi FY M M' → Q (some (.int (sTaken D x y z))) M') : qC (d + 4) 167 [.ref 136, .int x, .int y, .int z] M Q := by
  refine qC_of (by decide) (Nat.le_of_ble_eq_true rfl) ?_
  have hC := hR.1
  have hX := hC.1
  have hO : OKW (dT D) (dc D) (dW D) := hC.2.2.1
  have hc6 := hO.1.1
  have hL : XLo [] M (some (dL D)) := hC.2.2.2.2.2.2.1
  have hSa : ∀ s, s < 3 → XSa M s (dS D s) κ := hC.2.2.2.2.1
  have hTk := hC.k
  have hck := hC.2.2.2.2.2.1
  have h240 := hD.2.1
  unfold sTaken at k
  rcases zix_c x (n := dc D) (by omega) with ⟨t, ht, rfl, et⟩ | ⟨et, nt⟩
  · rw [oz_s et] at k
    have ho := hO.1.2 _ ht
    have hn := ho.n
    rcases zix_c y (n := tn (dT D t)) (by omega) with ⟨i, hi, rfl, ei⟩ | ⟨ei, ni⟩
    · rw [oz_s ei] at k
      rcases zix_c z (n := 6) (by omega) with ⟨w, hw, rfl, ew⟩ | ⟨ew, nw⟩
      · rw [oz_s ew] at k
        refine q_aload_n d167_0 rfl ?_
        refine q_iload_n d167_1 rfl ?_
        refine q_iload_n d167_2 rfl ?_
        refine q_v2 d167_3 rfl rfl (xk_136 hX) (Nat.le_of_ble_eq_true rfl) (c166t hR (by omega) (by omega) ?_)
        refine n0_eq 18 d167_6 (by decide) (by decide) (fun q => absurd q (by decide)) (fun _ => ?_)
        refine q_iload_n d167_9 rfl ?_
        refine q_iconstN (z := 0) d167_10 ?_
        refine q_iconstN (z := 5) d167_11 ?_
        refine q_s3 d167_12 (Or.inl rfl) rfl (Nat.le_of_ble_eq_true rfl) (c131t ⟨by omega, by omega⟩ (by omega) ?_)
        refine n0_ne 21 d167_15 (by decide) (by decide) (fun _ => ?_) (fun q => absurd q (by decide))
        refine q_aload_n d167_21 rfl ?_
        refine q_getr (c := 8) (f := 3) d167_22 ⟨rfl, rfl⟩ (xk_136 hX) (xf_kinds hX) ?_
        refine q_iload_n d167_25 rfl ?_
        refine n_aald d167_26 (xk_kinds hX) (by decide) (by omega) (by decide) (xr_kinds hX (by omega)) ?_
        refine q_iload_n d167_27 rfl ?_
        refine n_iald d167_28 (xa_kinds hX (by omega)) (by omega) (by decide) ((hTk.1 _ ht).2.2 _ hi).1 ?_
        have hk6 := ho.k hi
        refine q_istore d167_29 (by decide) rfl ?_
        refine q_iload_n d167_31 rfl ?_
        refine n0_eq 63 d167_32 (by decide) (by omega) (fun h32 => ?_) (fun h32 => ?_)
        · refine q_iload d167_63 rfl ?_
          refine q_goto 70 d167_65 (by decide) ?_
          refine q_iret d167_70 rfl ?_
          first
          | (rw [if_pos (show yundr (tk (dT D t) i) w = true by unfold yundr; simp; omega)] at k; exact k _ hR (Fi.refl _ _))
          | (rw [if_neg (show ¬ yundr (tk (dT D t) i) w = true by unfold yundr; simp; omega)] at k; exact k _ hR (Fi.refl _ _))
        · refine q_iload_n d167_35 rfl ?_
          refine q_iload d167_36 rfl ?_
          refine nc_eq 63 d167_38 (by decide) (by omega) (by omega) (fun h38 => ?_) (fun h38 => ?_)
          · refine q_iload d167_63 rfl ?_
            refine q_goto 70 d167_65 (by decide) ?_
            refine q_iret d167_70 rfl ?_
            first
            | (rw [if_pos (show yundr (tk (dT D t) i) w = true by unfold yundr; simp; omega)] at k; exact k _ hR (Fi.refl _ _))
            | (rw [if_neg (show ¬ yundr (tk (dT D t) i) w = true by unfold yundr; simp; omega)] at k; exact k _ hR (Fi.refl _ _))
          · refine q_iload_n d167_41 rfl ?_
            refine q_iconstN (z := 1) d167_42 ?_
            refine nc_ne 52 d167_43 (by decide) (by omega) (by omega) (fun h43 => ?_) (fun h43 => ?_)
            · refine q_iload_n d167_52 rfl ?_
              refine q_iconstN (z := 2) d167_53 ?_
              refine nc_ne 68 d167_54 (by decide) (by omega) (by omega) (fun h54 => ?_) (fun h54 => ?_)
              · refine q_bipush (x := (-13)) d167_68 rfl ?_
                refine q_iret d167_70 rfl ?_
                first
                | (rw [if_pos (show yundr (tk (dT D t) i) w = true by unfold yundr; simp; omega)] at k; exact k _ hR (Fi.refl _ _))
                | (rw [if_neg (show ¬ yundr (tk (dT D t) i) w = true by unfold yundr; simp; omega)] at k; exact k _ hR (Fi.refl _ _))
              · refine q_iload d167_57 rfl ?_
                refine q_iconstN (z := 4) d167_59 ?_
                refine nc_ne 68 d167_60 (by decide) (by omega) (by omega) (fun h60 => ?_) (fun h60 => ?_)
                · refine q_bipush (x := (-13)) d167_68 rfl ?_
                  refine q_iret d167_70 rfl ?_
                  first
                  | (rw [if_pos (show yundr (tk (dT D t) i) w = true by unfold yundr; simp; omega)] at k; exact k _ hR (Fi.refl _ _))
                  | (rw [if_neg (show ¬ yundr (tk (dT D t) i) w = true by unfold yundr; simp; omega)] at k; exact k _ hR (Fi.refl _ _))
                · refine q_iload d167_63 rfl ?_
                  refine q_goto 70 d167_65 (by decide) ?_
                  refine q_iret d167_70 rfl ?_
                  first
                  | (rw [if_pos (show yundr (tk (dT D t) i) w = true by unfold yundr; simp; omega)] at k; exact k _ hR (Fi.refl _ _))
                  | (rw [if_neg (show ¬ yundr (tk (dT D t) i) w = true by unfold yundr; simp; omega)] at k; exact k _ hR (Fi.refl _ _))
            · refine q_iload d167_46 rfl ?_
              refine q_iconstN (z := 3) d167_48 ?_
              refine nc_eq 63 d167_49 (by decide) (by omega) (by omega) (fun h49 => ?_) (fun h49 => ?_)
              · refine q_iload d167_63 rfl ?_
                refine q_goto 70 d167_65 (by decide) ?_
                refine q_iret d167_70 rfl ?_
                first
                | (rw [if_pos (show yundr (tk (dT D t) i) w = true by unfold yundr; simp; omega)] at k; exact k _ hR (Fi.refl _ _))
                | (rw [if_neg (show ¬ yundr (tk (dT D t) i) w = true by unfold yundr; simp; omega)] at k; exact k _ hR (Fi.refl _ _))
              · refine q_iload_n d167_52 rfl ?_
                refine q_iconstN (z := 2) d167_53 ?_
                refine nc_ne 68 d167_54 (by decide) (by omega) (by omega) (fun h54 => ?_) (fun h54 => ?_)
                · refine q_bipush (x := (-13)) d167_68 rfl ?_
                  refine q_iret d167_70 rfl ?_
                  first
                  | (rw [if_pos (show yundr (tk (dT D t) i) w = true by unfold yundr; simp; omega)] at k; exact k _ hR (Fi.refl _ _))
                  | (rw [if_neg (show ¬ yundr (tk (dT D t) i) w = true by unfold yundr; simp; omega)] at k; exact k _ hR (Fi.refl _ _))
                · refine q_iload d167_57 rfl ?_
                  refine q_iconstN (z := 4) d167_59 ?_
                  refine nc_ne 68 d167_60 (by decide) (by omega) (by omega) (fun h60 => ?_) (fun h60 => ?_)
                  · refine q_bipush (x := (-13)) d167_68 rfl ?_
                    refine q_iret d167_70 rfl ?_
                    first
                    | (rw [if_pos (show yundr (tk (dT D t) i) w = true by unfold yundr; simp; omega)] at k; exact k _ hR (Fi.refl _ _))
                    | (rw [if_neg (show ¬ yundr (tk (dT D t) i) w = true by unfold yundr; simp; omega)] at k; exact k _ hR (Fi.refl _ _))
                  · refine q_iload d167_63 rfl ?_
                    refine q_goto 70 d167_65 (by decide) ?_
                    refine q_iret d167_70 rfl ?_
                    first
                    | (rw [if_pos (show yundr (tk (dT D t) i) w = true by unfold yundr; simp; omega)] at k; exact k _ hR (Fi.refl _ _))
                    | (rw [if_neg (show ¬ yundr (tk (dT D t) i) w = true by unfold yundr; simp; omega)] at k; exact k _ hR (Fi.refl _ _))
      · rw [oz_n ew] at k
        refine q_aload_n d167_0 rfl ?_
        refine q_iload_n d167_1 rfl ?_
        refine q_iload_n d167_2 rfl ?_
        refine q_v2 d167_3 rfl rfl (xk_136 hX) (Nat.le_of_ble_eq_true rfl) (c166t hR (by omega) (by omega) ?_)
        refine n0_eq 18 d167_6 (by decide) (by decide) (fun q => absurd q (by decide)) (fun _ => ?_)
        refine q_iload_n d167_9 rfl ?_
        refine q_iconstN (z := 0) d167_10 ?_
        refine q_iconstN (z := 5) d167_11 ?_
        refine q_s3 d167_12 (Or.inl rfl) rfl (Nat.le_of_ble_eq_true rfl) (c131f (by decide) (by have := zix_none ew; omega) (by decide) ?_)
        refine n0_ne 21 d167_15 (by decide) (by decide) (fun q => absurd q (by decide)) (fun _ => ?_)
        refine q_bipush (x := (-2)) d167_18 rfl ?_
        refine q_iret d167_20 rfl ?_
        exact k _ hR (Fi.refl _ _)
    · rw [oz_n ei] at k
      refine q_aload_n d167_0 rfl ?_
      refine q_iload_n d167_1 rfl ?_
      refine q_iload_n d167_2 rfl ?_
      refine q_v2 d167_3 rfl rfl (xk_136 hX) (Nat.le_of_ble_eq_true rfl) (c166f hR (by omega) ei ?_)
      refine n0_eq 18 d167_6 (by decide) (by decide) (fun _ => ?_) (fun q => absurd q (by decide))
      refine q_bipush (x := (-2)) d167_18 rfl ?_
      refine q_iret d167_20 rfl ?_
      exact k _ hR (Fi.refl _ _)
  · rw [oz_n et] at k
    refine q_aload_n d167_0 rfl ?_
    refine q_iload_n d167_1 rfl ?_
    refine q_iload_n d167_2 rfl ?_
    refine q_v2 d167_3 rfl rfl (xk_136 hX) (Nat.le_of_ble_eq_true rfl) (c166x hR et ?_)
    refine n0_eq 18 d167_6 (by decide) (by decide) (fun _ => ?_) (fun q => absurd q (by decide))
    refine q_bipush (x := (-2)) d167_18 rfl ?_
    refine q_iret d167_20 rfl ?_
    exact k _ hR (Fi.refl _ _)
/-! ===== the reference: step ===== -/
theorem d147_0 : decode (zB 147) 0 = .ok (.aload_n 0, 1) := (congrArg (fun c => decode c 0) zeq147).trans (by decide +kernel)
theorem d147_1 : decode (zB 147) 1 = .ok (.getfield 30, 3) := (congrArg (fun c => decode c 1) zeq147).trans (by decide +kernel)
theorem d147_4 : decode (zB 147) 4 = .ok (.iload_n 1, 1) := (congrArg (fun c => decode c 4) zeq147).trans (by decide +kernel)
theorem d147_5 : decode (zB 147) 5 = .ok (.aaload, 1) := (congrArg (fun c => decode c 5) zeq147).trans (by decide +kernel)
theorem d147_6 : decode (zB 147) 6 = .ok (.iload_n 3, 1) := (congrArg (fun c => decode c 6) zeq147).trans (by decide +kernel)
theorem d147_7 : decode (zB 147) 7 = .ok (.iaload, 1) := (congrArg (fun c => decode c 7) zeq147).trans (by decide +kernel)
theorem d147_8 : decode (zB 147) 8 = .ok (.iload_n 2, 1) := (congrArg (fun c => decode c 8) zeq147).trans (by decide +kernel)
theorem d147_9 : decode (zB 147) 9 = .ok (.ishr, 1) := (congrArg (fun c => decode c 9) zeq147).trans (by decide +kernel)
theorem d147_10 : decode (zB 147) 10 = .ok (.iconst 1, 1) := (congrArg (fun c => decode c 10) zeq147).trans (by decide +kernel)
theorem d147_11 : decode (zB 147) 11 = .ok (.iand, 1) := (congrArg (fun c => decode c 11) zeq147).trans (by decide +kernel)
theorem d147_12 : decode (zB 147) 12 = .ok (.iconst 1, 1) := (congrArg (fun c => decode c 12) zeq147).trans (by decide +kernel)
theorem d147_13 : decode (zB 147) 13 = .ok (.if_icmp .ne 7, 3) := (congrArg (fun c => decode c 13) zeq147).trans (by decide +kernel)
theorem d147_16 : decode (zB 147) 16 = .ok (.iconst 1, 1) := (congrArg (fun c => decode c 16) zeq147).trans (by decide +kernel)
theorem d147_17 : decode (zB 147) 17 = .ok (.goto 4, 3) := (congrArg (fun c => decode c 17) zeq147).trans (by decide +kernel)
theorem d147_20 : decode (zB 147) 20 = .ok (.iconst 0, 1) := (congrArg (fun c => decode c 20) zeq147).trans (by decide +kernel)
theorem d147_21 : decode (zB 147) 21 = .ok (.ireturn, 1) := (congrArg (fun c => decode c 21) zeq147).trans (by decide +kernel)
theorem c147 {d : Nat} {M : zM} {Q : Option Value → zM → Prop} {T : yT} {t a b : Nat} (hX : SX M) (hT : XT1 M t T) (ho : OKT T) (ht : t < 6) (ha : a < tn T) (hb : b < tn T) (k : Q (some (.int (bI ((ta T b).testBit a)))) M) : qC (d + 1) 147 [.ref 136, .int (nI t), .int (nI a), .int (nI b)] M Q := by
  refine qC_of (by decide) (Nat.le_of_ble_eq_true rfl) ?_
  have hn := ho.n
  have hab := ho.a hb
  refine q_aload_n d147_0 rfl ?_
  refine q_getr (c := 8) (f := 7) d147_1 ⟨rfl, rfl⟩ (xk_136 hX) (xf_aheads hX) ?_
  refine q_iload_n d147_4 rfl ?_
  refine n_aald d147_5 (xk_aheads hX) (by decide) (by omega) (by decide) (xr_aheads hX (by omega)) ?_
  refine q_iload_n d147_6 rfl ?_
  refine n_iald d147_7 (xa_aheads hX (by omega)) (by omega) (by decide) (hT.2.2 _ (by omega)).2.2.2.2 ?_
  refine q_iload_n d147_8 rfl ?_
  refine q_ishr d147_9 ?_
  refine q_iconstN (z := 1) d147_10 ?_
  refine q_iand d147_11 ?_
  rw [n_bit (by omega) (by omega)]
  refine q_iconstN (z := 1) d147_12 ?_
  refine ic_ne 20 d147_13 (by decide) (fun h13 => ?_) (fun h13 => ?_)
  · refine q_iconstN (z := 0) d147_20 ?_
    refine q_zret d147_21 rfl (by decide) ?_
    exact bK0 k (bI_not h13)
  · refine q_iconstN (z := 1) d147_16 ?_
    refine q_goto 21 d147_17 (by decide) ?_
    refine q_zret d147_21 rfl (by decide) ?_
    exact bK1 k (bI_is h13)
theorem d149_0 : decode (zB 149) 0 = .ok (.iconst 0, 1) := (congrArg (fun c => decode c 0) zeq149).trans (by decide +kernel)
theorem d149_1 : decode (zB 149) 1 = .ok (.istore_n 3, 1) := (congrArg (fun c => decode c 1) zeq149).trans (by decide +kernel)
theorem d149_2 : decode (zB 149) 2 = .ok (.iconst 0, 1) := (congrArg (fun c => decode c 2) zeq149).trans (by decide +kernel)
theorem d149_3 : decode (zB 149) 3 = .ok (.istore 4, 2) := (congrArg (fun c => decode c 3) zeq149).trans (by decide +kernel)
theorem d149_5 : decode (zB 149) 5 = .ok (.iload 4, 2) := (congrArg (fun c => decode c 5) zeq149).trans (by decide +kernel)
theorem d149_7 : decode (zB 149) 7 = .ok (.aload_n 0, 1) := (congrArg (fun c => decode c 7) zeq149).trans (by decide +kernel)
theorem d149_8 : decode (zB 149) 8 = .ok (.getfield 9, 3) := (congrArg (fun c => decode c 8) zeq149).trans (by decide +kernel)
theorem d149_11 : decode (zB 149) 11 = .ok (.iload_n 1, 1) := (congrArg (fun c => decode c 11) zeq149).trans (by decide +kernel)
theorem d149_12 : decode (zB 149) 12 = .ok (.iaload, 1) := (congrArg (fun c => decode c 12) zeq149).trans (by decide +kernel)
theorem d149_13 : decode (zB 149) 13 = .ok (.if_icmp .ge 44, 3) := (congrArg (fun c => decode c 13) zeq149).trans (by decide +kernel)
theorem d149_16 : decode (zB 149) 16 = .ok (.iload 4, 2) := (congrArg (fun c => decode c 16) zeq149).trans (by decide +kernel)
theorem d149_18 : decode (zB 149) 18 = .ok (.iload_n 2, 1) := (congrArg (fun c => decode c 18) zeq149).trans (by decide +kernel)
theorem d149_19 : decode (zB 149) 19 = .ok (.if_icmp .eq 32, 3) := (congrArg (fun c => decode c 19) zeq149).trans (by decide +kernel)
theorem d149_22 : decode (zB 149) 22 = .ok (.aload_n 0, 1) := (congrArg (fun c => decode c 22) zeq149).trans (by decide +kernel)
theorem d149_23 : decode (zB 149) 23 = .ok (.iload_n 1, 1) := (congrArg (fun c => decode c 23) zeq149).trans (by decide +kernel)
theorem d149_24 : decode (zB 149) 24 = .ok (.iload 4, 2) := (congrArg (fun c => decode c 24) zeq149).trans (by decide +kernel)
theorem d149_26 : decode (zB 149) 26 = .ok (.iload_n 2, 1) := (congrArg (fun c => decode c 26) zeq149).trans (by decide +kernel)
theorem d149_27 : decode (zB 149) 27 = .ok (.invokevirtual 206, 3) := (congrArg (fun c => decode c 27) zeq149).trans (by decide +kernel)
theorem d149_30 : decode (zB 149) 30 = .ok (.ifCond .ne 21, 3) := (congrArg (fun c => decode c 30) zeq149).trans (by decide +kernel)
theorem d149_33 : decode (zB 149) 33 = .ok (.aload_n 0, 1) := (congrArg (fun c => decode c 33) zeq149).trans (by decide +kernel)
theorem d149_34 : decode (zB 149) 34 = .ok (.iload_n 1, 1) := (congrArg (fun c => decode c 34) zeq149).trans (by decide +kernel)
theorem d149_35 : decode (zB 149) 35 = .ok (.iload_n 2, 1) := (congrArg (fun c => decode c 35) zeq149).trans (by decide +kernel)
theorem d149_36 : decode (zB 149) 36 = .ok (.iload 4, 2) := (congrArg (fun c => decode c 36) zeq149).trans (by decide +kernel)
theorem d149_38 : decode (zB 149) 38 = .ok (.invokevirtual 206, 3) := (congrArg (fun c => decode c 38) zeq149).trans (by decide +kernel)
theorem d149_41 : decode (zB 149) 41 = .ok (.ifCond .ne 10, 3) := (congrArg (fun c => decode c 41) zeq149).trans (by decide +kernel)
theorem d149_44 : decode (zB 149) 44 = .ok (.iload_n 3, 1) := (congrArg (fun c => decode c 44) zeq149).trans (by decide +kernel)
theorem d149_45 : decode (zB 149) 45 = .ok (.iconst 1, 1) := (congrArg (fun c => decode c 45) zeq149).trans (by decide +kernel)
theorem d149_46 : decode (zB 149) 46 = .ok (.iload 4, 2) := (congrArg (fun c => decode c 46) zeq149).trans (by decide +kernel)
theorem d149_48 : decode (zB 149) 48 = .ok (.ishl, 1) := (congrArg (fun c => decode c 48) zeq149).trans (by decide +kernel)
theorem d149_49 : decode (zB 149) 49 = .ok (.ior, 1) := (congrArg (fun c => decode c 49) zeq149).trans (by decide +kernel)
theorem d149_50 : decode (zB 149) 50 = .ok (.istore_n 3, 1) := (congrArg (fun c => decode c 50) zeq149).trans (by decide +kernel)
theorem d149_51 : decode (zB 149) 51 = .ok (.iinc 4 1, 3) := (congrArg (fun c => decode c 51) zeq149).trans (by decide +kernel)
theorem d149_54 : decode (zB 149) 54 = .ok (.goto (-49), 3) := (congrArg (fun c => decode c 54) zeq149).trans (by decide +kernel)
theorem d149_57 : decode (zB 149) 57 = .ok (.iload_n 3, 1) := (congrArg (fun c => decode c 57) zeq149).trans (by decide +kernel)
theorem d149_58 : decode (zB 149) 58 = .ok (.ireturn, 1) := (congrArg (fun c => decode c 58) zeq149).trans (by decide +kernel)
theorem l149 {d : Nat} {M : zM} {Q : Option Value → zM → Prop} {T : yT} {t s : Nat} (hX : SX M) (hT : XT1 M t T) (ho : OKT T) (ht : t < 6) (hs : s < tn T) (k : Q (some (.int (nI (ybd T s)))) M) : ∀ (r i : Nat), i ≤ tn T → tn T < i + r → qW (zEv (d + 1)) 149 Q 5 [(4, .int (nI i)), (3, .int (nI (ymk (fun k => !(k == s) && !(ta T s).testBit k && !(ta T k).testBit s) i))), (0, .ref 136), (1, .int (nI t)), (2, .int (nI s))] [] M := by
  intro r
  induction r with
  | zero => intros; omega
  | succ r ih =>
    intro i  h1 h2 
    have hn := ho.n
    refine q_iload d149_5 rfl ?_
    refine q_aload_n d149_7 rfl ?_
    refine q_getr (c := 8) (f := 1) d149_8 ⟨rfl, rfl⟩ (xk_136 hX) (xf_stepMany hX) ?_
    refine q_iload_n d149_11 rfl ?_
    refine n_iald d149_12 (xk_stepMany hX) (by omega) (by decide) hT.1 ?_
    refine nc_ge 57 d149_13 (by decide) (by omega) (by omega) (fun h13 => ?_) (fun h13 => ?_)
    · refine q_iload_n d149_57 rfl ?_
      refine q_iret d149_58 rfl ?_
      have e9 : i = tn T := by omega
      subst e9
      exact k
    · refine q_iload d149_16 rfl ?_
      refine q_iload_n d149_18 rfl ?_
      refine nc_eq 51 d149_19 (by decide) (by omega) (by omega) (fun h19 => ?_) (fun h19 => ?_)
      · refine n_iinc 1 d149_51 (by decide) rfl rfl ?_
        refine q_goto 5 d149_54 (by decide) ?_
        first
        | (have e9 : ymk (fun k => !(k == s) && !(ta T s).testBit k && !(ta T k).testBit s) (i + 1) = ymk (fun k => !(k == s) && !(ta T s).testBit k && !(ta T k).testBit s) i ||| 2 ^ i := by
             show ymk (fun k => !(k == s) && !(ta T s).testBit k && !(ta T k).testBit s) i ||| (if (!(i == s) && !(ta T s).testBit i && !(ta T i).testBit s) = true then 2 ^ i else 0) = _
             rw [if_pos (by simp [h19, h30, h41])]
           have ih1 := ih (i + 1) (by omega) (by omega)
           rw [e9] at ih1
           exact ih1)
        | (have e9 : ymk (fun k => !(k == s) && !(ta T s).testBit k && !(ta T k).testBit s) (i + 1) = ymk (fun k => !(k == s) && !(ta T s).testBit k && !(ta T k).testBit s) i := by
             show ymk (fun k => !(k == s) && !(ta T s).testBit k && !(ta T k).testBit s) i ||| (if (!(i == s) && !(ta T s).testBit i && !(ta T i).testBit s) = true then 2 ^ i else 0) = _
             rw [if_neg (by first | (simp [h19]; done) | (simp [h30]; done) | (simp [h41]; done))]
             exact Nat.or_zero _
           have ih1 := ih (i + 1) (by omega) (by omega)
           rw [e9] at ih1
           exact ih1)
      · refine q_aload_n d149_22 rfl ?_
        refine q_iload_n d149_23 rfl ?_
        refine q_iload d149_24 rfl ?_
        refine q_iload_n d149_26 rfl ?_
        refine q_v3 d149_27 rfl rfl (xk_136 hX) (Nat.le_of_ble_eq_true rfl) (c147 hX hT ho ht (by omega) (by omega) ?_)
        refine b0_ne 51 d149_30 (by decide) (fun h30 => ?_) (fun h30 => ?_)
        · refine n_iinc 1 d149_51 (by decide) rfl rfl ?_
          refine q_goto 5 d149_54 (by decide) ?_
          first
          | (have e9 : ymk (fun k => !(k == s) && !(ta T s).testBit k && !(ta T k).testBit s) (i + 1) = ymk (fun k => !(k == s) && !(ta T s).testBit k && !(ta T k).testBit s) i ||| 2 ^ i := by
               show ymk (fun k => !(k == s) && !(ta T s).testBit k && !(ta T k).testBit s) i ||| (if (!(i == s) && !(ta T s).testBit i && !(ta T i).testBit s) = true then 2 ^ i else 0) = _
               rw [if_pos (by simp [h19, h30, h41])]
             have ih1 := ih (i + 1) (by omega) (by omega)
             rw [e9] at ih1
             exact ih1)
          | (have e9 : ymk (fun k => !(k == s) && !(ta T s).testBit k && !(ta T k).testBit s) (i + 1) = ymk (fun k => !(k == s) && !(ta T s).testBit k && !(ta T k).testBit s) i := by
               show ymk (fun k => !(k == s) && !(ta T s).testBit k && !(ta T k).testBit s) i ||| (if (!(i == s) && !(ta T s).testBit i && !(ta T i).testBit s) = true then 2 ^ i else 0) = _
               rw [if_neg (by first | (simp [h19]; done) | (simp [h30]; done) | (simp [h41]; done))]
               exact Nat.or_zero _
             have ih1 := ih (i + 1) (by omega) (by omega)
             rw [e9] at ih1
             exact ih1)
        · refine q_aload_n d149_33 rfl ?_
          refine q_iload_n d149_34 rfl ?_
          refine q_iload_n d149_35 rfl ?_
          refine q_iload d149_36 rfl ?_
          refine q_v3 d149_38 rfl rfl (xk_136 hX) (Nat.le_of_ble_eq_true rfl) (c147 hX hT ho ht (by omega) (by omega) ?_)
          refine b0_ne 51 d149_41 (by decide) (fun h41 => ?_) (fun h41 => ?_)
          · refine n_iinc 1 d149_51 (by decide) rfl rfl ?_
            refine q_goto 5 d149_54 (by decide) ?_
            first
            | (have e9 : ymk (fun k => !(k == s) && !(ta T s).testBit k && !(ta T k).testBit s) (i + 1) = ymk (fun k => !(k == s) && !(ta T s).testBit k && !(ta T k).testBit s) i ||| 2 ^ i := by
                 show ymk (fun k => !(k == s) && !(ta T s).testBit k && !(ta T k).testBit s) i ||| (if (!(i == s) && !(ta T s).testBit i && !(ta T i).testBit s) = true then 2 ^ i else 0) = _
                 rw [if_pos (by simp [h19, h30, h41])]
               have ih1 := ih (i + 1) (by omega) (by omega)
               rw [e9] at ih1
               exact ih1)
            | (have e9 : ymk (fun k => !(k == s) && !(ta T s).testBit k && !(ta T k).testBit s) (i + 1) = ymk (fun k => !(k == s) && !(ta T s).testBit k && !(ta T k).testBit s) i := by
                 show ymk (fun k => !(k == s) && !(ta T s).testBit k && !(ta T k).testBit s) i ||| (if (!(i == s) && !(ta T s).testBit i && !(ta T i).testBit s) = true then 2 ^ i else 0) = _
                 rw [if_neg (by first | (simp [h19]; done) | (simp [h30]; done) | (simp [h41]; done))]
                 exact Nat.or_zero _
               have ih1 := ih (i + 1) (by omega) (by omega)
               rw [e9] at ih1
               exact ih1)
          · refine q_iload_n d149_44 rfl ?_
            refine q_iconstN (z := 1) d149_45 ?_
            refine q_iload d149_46 rfl ?_
            refine n_ishl1 d149_48 (by omega) ?_
            refine n_ior d149_49 ?_
            refine q_istore_n d149_50 (by decide) rfl ?_
            refine n_iinc 1 d149_51 (by decide) rfl rfl ?_
            refine q_goto 5 d149_54 (by decide) ?_
            first
            | (have e9 : ymk (fun k => !(k == s) && !(ta T s).testBit k && !(ta T k).testBit s) (i + 1) = ymk (fun k => !(k == s) && !(ta T s).testBit k && !(ta T k).testBit s) i ||| 2 ^ i := by
                 show ymk (fun k => !(k == s) && !(ta T s).testBit k && !(ta T k).testBit s) i ||| (if (!(i == s) && !(ta T s).testBit i && !(ta T i).testBit s) = true then 2 ^ i else 0) = _
                 rw [if_pos (by simp [h19, h30, h41])]
               have ih1 := ih (i + 1) (by omega) (by omega)
               rw [e9] at ih1
               exact ih1)
            | (have e9 : ymk (fun k => !(k == s) && !(ta T s).testBit k && !(ta T k).testBit s) (i + 1) = ymk (fun k => !(k == s) && !(ta T s).testBit k && !(ta T k).testBit s) i := by
                 show ymk (fun k => !(k == s) && !(ta T s).testBit k && !(ta T k).testBit s) i ||| (if (!(i == s) && !(ta T s).testBit i && !(ta T i).testBit s) = true then 2 ^ i else 0) = _
                 rw [if_neg (by first | (simp [h19]; done) | (simp [h30]; done) | (simp [h41]; done))]
                 exact Nat.or_zero _
               have ih1 := ih (i + 1) (by omega) (by omega)
               rw [e9] at ih1
               exact ih1)
theorem c149 {d : Nat} {M : zM} {Q : Option Value → zM → Prop} {T : yT} {t s : Nat} (hX : SX M) (hT : XT1 M t T) (ho : OKT T) (ht : t < 6) (hs : s < tn T) (k : Q (some (.int (nI (ybd T s)))) M) : qC (d + 2) 149 [.ref 136, .int (nI t), .int (nI s)] M Q := by
  refine qC_of (by decide) (Nat.le_of_ble_eq_true rfl) ?_
  refine q_iconstN (z := 0) d149_0 ?_
  refine q_istore_n d149_1 (by decide) rfl ?_
  refine q_iconstN (z := 0) d149_2 ?_
  refine q_istore d149_3 (by decide) rfl ?_
  exact l149 hX hT ho ht hs k (tn T + 1) 0 (by omega) (by omega)
theorem d165_0 : decode (zB 165) 0 = .ok (.aload_n 0, 1) := (congrArg (fun c => decode c 0) zeq165).trans (by decide +kernel)
theorem d165_1 : decode (zB 165) 1 = .ok (.iload_n 1, 1) := (congrArg (fun c => decode c 1) zeq165).trans (by decide +kernel)
theorem d165_2 : decode (zB 165) 2 = .ok (.iload_n 2, 1) := (congrArg (fun c => decode c 2) zeq165).trans (by decide +kernel)
theorem d165_3 : decode (zB 165) 3 = .ok (.invokevirtual 264, 3) := (congrArg (fun c => decode c 3) zeq165).trans (by decide +kernel)
theorem d165_6 : decode (zB 165) 6 = .ok (.ifCond .eq 12, 3) := (congrArg (fun c => decode c 6) zeq165).trans (by decide +kernel)
theorem d165_9 : decode (zB 165) 9 = .ok (.iload_n 3, 1) := (congrArg (fun c => decode c 9) zeq165).trans (by decide +kernel)
theorem d165_10 : decode (zB 165) 10 = .ok (.iconst 0, 1) := (congrArg (fun c => decode c 10) zeq165).trans (by decide +kernel)
theorem d165_11 : decode (zB 165) 11 = .ok (.iconst 5, 1) := (congrArg (fun c => decode c 11) zeq165).trans (by decide +kernel)
theorem d165_12 : decode (zB 165) 12 = .ok (.invokestatic 112, 3) := (congrArg (fun c => decode c 12) zeq165).trans (by decide +kernel)
theorem d165_15 : decode (zB 165) 15 = .ok (.ifCond .ne 6, 3) := (congrArg (fun c => decode c 15) zeq165).trans (by decide +kernel)
theorem d165_18 : decode (zB 165) 18 = .ok (.bipush (-2), 2) := (congrArg (fun c => decode c 18) zeq165).trans (by decide +kernel)
theorem d165_20 : decode (zB 165) 20 = .ok (.ireturn, 1) := (congrArg (fun c => decode c 20) zeq165).trans (by decide +kernel)
theorem d165_21 : decode (zB 165) 21 = .ok (.iload_n 3, 1) := (congrArg (fun c => decode c 21) zeq165).trans (by decide +kernel)
theorem d165_22 : decode (zB 165) 22 = .ok (.tableswitch 79 0 4 #[34, 43, 52, 61, 70], 34) := (congrArg (fun c => decode c 22) zeq165).trans (by decide +kernel)
theorem d165_56 : decode (zB 165) 56 = .ok (.aload_n 0, 1) := (congrArg (fun c => decode c 56) zeq165).trans (by decide +kernel)
theorem d165_57 : decode (zB 165) 57 = .ok (.getfield 18, 3) := (congrArg (fun c => decode c 57) zeq165).trans (by decide +kernel)
theorem d165_60 : decode (zB 165) 60 = .ok (.iload_n 1, 1) := (congrArg (fun c => decode c 60) zeq165).trans (by decide +kernel)
theorem d165_61 : decode (zB 165) 61 = .ok (.aaload, 1) := (congrArg (fun c => decode c 61) zeq165).trans (by decide +kernel)
theorem d165_62 : decode (zB 165) 62 = .ok (.iload_n 2, 1) := (congrArg (fun c => decode c 62) zeq165).trans (by decide +kernel)
theorem d165_63 : decode (zB 165) 63 = .ok (.iaload, 1) := (congrArg (fun c => decode c 63) zeq165).trans (by decide +kernel)
theorem d165_64 : decode (zB 165) 64 = .ok (.ireturn, 1) := (congrArg (fun c => decode c 64) zeq165).trans (by decide +kernel)
theorem d165_65 : decode (zB 165) 65 = .ok (.aload_n 0, 1) := (congrArg (fun c => decode c 65) zeq165).trans (by decide +kernel)
theorem d165_66 : decode (zB 165) 66 = .ok (.getfield 21, 3) := (congrArg (fun c => decode c 66) zeq165).trans (by decide +kernel)
theorem d165_69 : decode (zB 165) 69 = .ok (.iload_n 1, 1) := (congrArg (fun c => decode c 69) zeq165).trans (by decide +kernel)
theorem d165_70 : decode (zB 165) 70 = .ok (.aaload, 1) := (congrArg (fun c => decode c 70) zeq165).trans (by decide +kernel)
theorem d165_71 : decode (zB 165) 71 = .ok (.iload_n 2, 1) := (congrArg (fun c => decode c 71) zeq165).trans (by decide +kernel)
theorem d165_72 : decode (zB 165) 72 = .ok (.iaload, 1) := (congrArg (fun c => decode c 72) zeq165).trans (by decide +kernel)
theorem d165_73 : decode (zB 165) 73 = .ok (.ireturn, 1) := (congrArg (fun c => decode c 73) zeq165).trans (by decide +kernel)
theorem d165_74 : decode (zB 165) 74 = .ok (.aload_n 0, 1) := (congrArg (fun c => decode c 74) zeq165).trans (by decide +kernel)
theorem d165_75 : decode (zB 165) 75 = .ok (.getfield 24, 3) := (congrArg (fun c => decode c 75) zeq165).trans (by decide +kernel)
theorem d165_78 : decode (zB 165) 78 = .ok (.iload_n 1, 1) := (congrArg (fun c => decode c 78) zeq165).trans (by decide +kernel)
theorem d165_79 : decode (zB 165) 79 = .ok (.aaload, 1) := (congrArg (fun c => decode c 79) zeq165).trans (by decide +kernel)
theorem d165_80 : decode (zB 165) 80 = .ok (.iload_n 2, 1) := (congrArg (fun c => decode c 80) zeq165).trans (by decide +kernel)
theorem d165_81 : decode (zB 165) 81 = .ok (.iaload, 1) := (congrArg (fun c => decode c 81) zeq165).trans (by decide +kernel)
theorem d165_82 : decode (zB 165) 82 = .ok (.ireturn, 1) := (congrArg (fun c => decode c 82) zeq165).trans (by decide +kernel)
theorem d165_83 : decode (zB 165) 83 = .ok (.aload_n 0, 1) := (congrArg (fun c => decode c 83) zeq165).trans (by decide +kernel)
theorem d165_84 : decode (zB 165) 84 = .ok (.getfield 27, 3) := (congrArg (fun c => decode c 84) zeq165).trans (by decide +kernel)
theorem d165_87 : decode (zB 165) 87 = .ok (.iload_n 1, 1) := (congrArg (fun c => decode c 87) zeq165).trans (by decide +kernel)
theorem d165_88 : decode (zB 165) 88 = .ok (.aaload, 1) := (congrArg (fun c => decode c 88) zeq165).trans (by decide +kernel)
theorem d165_89 : decode (zB 165) 89 = .ok (.iload_n 2, 1) := (congrArg (fun c => decode c 89) zeq165).trans (by decide +kernel)
theorem d165_90 : decode (zB 165) 90 = .ok (.iaload, 1) := (congrArg (fun c => decode c 90) zeq165).trans (by decide +kernel)
theorem d165_91 : decode (zB 165) 91 = .ok (.ireturn, 1) := (congrArg (fun c => decode c 91) zeq165).trans (by decide +kernel)
theorem d165_92 : decode (zB 165) 92 = .ok (.aload_n 0, 1) := (congrArg (fun c => decode c 92) zeq165).trans (by decide +kernel)
theorem d165_93 : decode (zB 165) 93 = .ok (.getfield 30, 3) := (congrArg (fun c => decode c 93) zeq165).trans (by decide +kernel)
theorem d165_96 : decode (zB 165) 96 = .ok (.iload_n 1, 1) := (congrArg (fun c => decode c 96) zeq165).trans (by decide +kernel)
theorem d165_97 : decode (zB 165) 97 = .ok (.aaload, 1) := (congrArg (fun c => decode c 97) zeq165).trans (by decide +kernel)
theorem d165_98 : decode (zB 165) 98 = .ok (.iload_n 2, 1) := (congrArg (fun c => decode c 98) zeq165).trans (by decide +kernel)
theorem d165_99 : decode (zB 165) 99 = .ok (.iaload, 1) := (congrArg (fun c => decode c 99) zeq165).trans (by decide +kernel)
theorem d165_100 : decode (zB 165) 100 = .ok (.ireturn, 1) := (congrArg (fun c => decode c 100) zeq165).trans (by decide +kernel)
theorem d165_101 : decode (zB 165) 101 = .ok (.aload_n 0, 1) := (congrArg (fun c => decode c 101) zeq165).trans (by decide +kernel)
theorem d165_102 : decode (zB 165) 102 = .ok (.iload_n 1, 1) := (congrArg (fun c => decode c 102) zeq165).trans (by decide +kernel)
theorem d165_103 : decode (zB 165) 103 = .ok (.iload_n 2, 1) := (congrArg (fun c => decode c 103) zeq165).trans (by decide +kernel)
theorem d165_104 : decode (zB 165) 104 = .ok (.invokevirtual 219, 3) := (congrArg (fun c => decode c 104) zeq165).trans (by decide +kernel)
theorem d165_107 : decode (zB 165) 107 = .ok (.ireturn, 1) := (congrArg (fun c => decode c 107) zeq165).trans (by decide +kernel)
theorem x165 {d : Nat} {M : zM} {Q : Option Value → zM → Prop} {D : yD} {κ : Nat} {x y z : Int32} (hR : RX M D κ) (hD : OKD D) (hκ : κ + 4000 < 2147483648) (k : ∀ M', RX M' D κ → Fi FY M M' → Q (some (.int (sStep D x y z))) M') : qC (d + 4) 165 [.ref 136, .int x, .int y, .int z] M Q := by
  refine qC_of (by decide) (Nat.le_of_ble_eq_true rfl) ?_
  have hC := hR.1
  have hX := hC.1
  have hO : OKW (dT D) (dc D) (dW D) := hC.2.2.1
  have hc6 := hO.1.1
  have hL : XLo [] M (some (dL D)) := hC.2.2.2.2.2.2.1
  have hSa : ∀ s, s < 3 → XSa M s (dS D s) κ := hC.2.2.2.2.1
  have hTk := hC.k
  have hck := hC.2.2.2.2.2.1
  have h240 := hD.2.1
  unfold sStep at k
  rcases zix_c x (n := dc D) (by omega) with ⟨t, ht, rfl, et⟩ | ⟨et, nt⟩
  · rw [oz_s et] at k
    have ho := hO.1.2 _ ht
    have hn := ho.n
    rcases zix_c y (n := tn (dT D t)) (by omega) with ⟨i, hi, rfl, ei⟩ | ⟨ei, ni⟩
    · rw [oz_s ei] at k
      rcases zix_c z (n := 6) (by omega) with ⟨w, hw, rfl, ew⟩ | ⟨ew, nw⟩
      · rw [oz_s ew] at k
        rcases (show w = 0 ∨ w = 1 ∨ w = 2 ∨ w = 3 ∨ w = 4 ∨ w = 5 by omega) with rfl | rfl | rfl | rfl | rfl | rfl
        · refine q_aload_n d165_0 rfl ?_
          refine q_iload_n d165_1 rfl ?_
          refine q_iload_n d165_2 rfl ?_
          refine q_v2 d165_3 rfl rfl (xk_136 hX) (Nat.le_of_ble_eq_true rfl) (c166t hR (by omega) (by omega) ?_)
          refine n0_eq 18 d165_6 (by decide) (by decide) (fun q => absurd q (by decide)) (fun _ => ?_)
          refine q_iload_n d165_9 rfl ?_
          refine q_iconstN (z := 0) d165_10 ?_
          refine q_iconstN (z := 5) d165_11 ?_
          refine q_s3 d165_12 (Or.inl rfl) rfl (Nat.le_of_ble_eq_true rfl) (c131t ⟨by omega, by omega⟩ (by omega) ?_)
          refine n0_ne 21 d165_15 (by decide) (by decide) (fun _ => ?_) (fun q => absurd q (by decide))
          refine q_iload_n d165_21 rfl ?_
          refine n_tsI (34) 56 d165_22 (by decide) (by decide) rfl (by decide) ?_
          refine q_aload_n d165_56 rfl ?_
          refine q_getr (c := 8) (f := 3) d165_57 ⟨rfl, rfl⟩ (xk_136 hX) (xf_kinds hX) ?_
          refine q_iload_n d165_60 rfl ?_
          refine n_aald d165_61 (xk_kinds hX) (by decide) (by omega) (by decide) (xr_kinds hX (by omega)) ?_
          refine q_iload_n d165_62 rfl ?_
          refine n_iald d165_63 (xa_kinds hX (by omega)) (by omega) (by decide) ((hTk.1 _ ht).2.2 _ hi).1 ?_
          refine q_iret d165_64 rfl ?_
          exact k _ hR (Fi.refl _ _)
        · refine q_aload_n d165_0 rfl ?_
          refine q_iload_n d165_1 rfl ?_
          refine q_iload_n d165_2 rfl ?_
          refine q_v2 d165_3 rfl rfl (xk_136 hX) (Nat.le_of_ble_eq_true rfl) (c166t hR (by omega) (by omega) ?_)
          refine n0_eq 18 d165_6 (by decide) (by decide) (fun q => absurd q (by decide)) (fun _ => ?_)
          refine q_iload_n d165_9 rfl ?_
          refine q_iconstN (z := 0) d165_10 ?_
          refine q_iconstN (z := 5) d165_11 ?_
          refine q_s3 d165_12 (Or.inl rfl) rfl (Nat.le_of_ble_eq_true rfl) (c131t ⟨by omega, by omega⟩ (by omega) ?_)
          refine n0_ne 21 d165_15 (by decide) (by decide) (fun _ => ?_) (fun q => absurd q (by decide))
          refine q_iload_n d165_21 rfl ?_
          refine n_tsI (43) 65 d165_22 (by decide) (by decide) rfl (by decide) ?_
          refine q_aload_n d165_65 rfl ?_
          refine q_getr (c := 8) (f := 4) d165_66 ⟨rfl, rfl⟩ (xk_136 hX) (xf_firsts hX) ?_
          refine q_iload_n d165_69 rfl ?_
          refine n_aald d165_70 (xk_firsts hX) (by decide) (by omega) (by decide) (xr_firsts hX (by omega)) ?_
          refine q_iload_n d165_71 rfl ?_
          refine n_iald d165_72 (xa_firsts hX (by omega)) (by omega) (by decide) ((hTk.1 _ ht).2.2 _ hi).2.1 ?_
          refine q_iret d165_73 rfl ?_
          exact k _ hR (Fi.refl _ _)
        · refine q_aload_n d165_0 rfl ?_
          refine q_iload_n d165_1 rfl ?_
          refine q_iload_n d165_2 rfl ?_
          refine q_v2 d165_3 rfl rfl (xk_136 hX) (Nat.le_of_ble_eq_true rfl) (c166t hR (by omega) (by omega) ?_)
          refine n0_eq 18 d165_6 (by decide) (by decide) (fun q => absurd q (by decide)) (fun _ => ?_)
          refine q_iload_n d165_9 rfl ?_
          refine q_iconstN (z := 0) d165_10 ?_
          refine q_iconstN (z := 5) d165_11 ?_
          refine q_s3 d165_12 (Or.inl rfl) rfl (Nat.le_of_ble_eq_true rfl) (c131t ⟨by omega, by omega⟩ (by omega) ?_)
          refine n0_ne 21 d165_15 (by decide) (by decide) (fun _ => ?_) (fun q => absurd q (by decide))
          refine q_iload_n d165_21 rfl ?_
          refine n_tsI (52) 74 d165_22 (by decide) (by decide) rfl (by decide) ?_
          refine q_aload_n d165_74 rfl ?_
          refine q_getr (c := 8) (f := 5) d165_75 ⟨rfl, rfl⟩ (xk_136 hX) (xf_seconds hX) ?_
          refine q_iload_n d165_78 rfl ?_
          refine n_aald d165_79 (xk_seconds hX) (by decide) (by omega) (by decide) (xr_seconds hX (by omega)) ?_
          refine q_iload_n d165_80 rfl ?_
          refine n_iald d165_81 (xa_seconds hX (by omega)) (by omega) (by decide) ((hTk.1 _ ht).2.2 _ hi).2.2.1 ?_
          refine q_iret d165_82 rfl ?_
          exact k _ hR (Fi.refl _ _)
        · refine q_aload_n d165_0 rfl ?_
          refine q_iload_n d165_1 rfl ?_
          refine q_iload_n d165_2 rfl ?_
          refine q_v2 d165_3 rfl rfl (xk_136 hX) (Nat.le_of_ble_eq_true rfl) (c166t hR (by omega) (by omega) ?_)
          refine n0_eq 18 d165_6 (by decide) (by decide) (fun q => absurd q (by decide)) (fun _ => ?_)
          refine q_iload_n d165_9 rfl ?_
          refine q_iconstN (z := 0) d165_10 ?_
          refine q_iconstN (z := 5) d165_11 ?_
          refine q_s3 d165_12 (Or.inl rfl) rfl (Nat.le_of_ble_eq_true rfl) (c131t ⟨by omega, by omega⟩ (by omega) ?_)
          refine n0_ne 21 d165_15 (by decide) (by decide) (fun _ => ?_) (fun q => absurd q (by decide))
          refine q_iload_n d165_21 rfl ?_
          refine n_tsI (61) 83 d165_22 (by decide) (by decide) rfl (by decide) ?_
          refine q_aload_n d165_83 rfl ?_
          refine q_getr (c := 8) (f := 6) d165_84 ⟨rfl, rfl⟩ (xk_136 hX) (xf_numbers hX) ?_
          refine q_iload_n d165_87 rfl ?_
          refine n_aald d165_88 (xk_numbers hX) (by decide) (by omega) (by decide) (xr_numbers hX (by omega)) ?_
          refine q_iload_n d165_89 rfl ?_
          refine n_iald d165_90 (xa_numbers hX (by omega)) (by omega) (by decide) ((hTk.1 _ ht).2.2 _ hi).2.2.2.1 ?_
          refine q_iret d165_91 rfl ?_
          exact k _ hR (Fi.refl _ _)
        · refine q_aload_n d165_0 rfl ?_
          refine q_iload_n d165_1 rfl ?_
          refine q_iload_n d165_2 rfl ?_
          refine q_v2 d165_3 rfl rfl (xk_136 hX) (Nat.le_of_ble_eq_true rfl) (c166t hR (by omega) (by omega) ?_)
          refine n0_eq 18 d165_6 (by decide) (by decide) (fun q => absurd q (by decide)) (fun _ => ?_)
          refine q_iload_n d165_9 rfl ?_
          refine q_iconstN (z := 0) d165_10 ?_
          refine q_iconstN (z := 5) d165_11 ?_
          refine q_s3 d165_12 (Or.inl rfl) rfl (Nat.le_of_ble_eq_true rfl) (c131t ⟨by omega, by omega⟩ (by omega) ?_)
          refine n0_ne 21 d165_15 (by decide) (by decide) (fun _ => ?_) (fun q => absurd q (by decide))
          refine q_iload_n d165_21 rfl ?_
          refine n_tsI (70) 92 d165_22 (by decide) (by decide) rfl (by decide) ?_
          refine q_aload_n d165_92 rfl ?_
          refine q_getr (c := 8) (f := 7) d165_93 ⟨rfl, rfl⟩ (xk_136 hX) (xf_aheads hX) ?_
          refine q_iload_n d165_96 rfl ?_
          refine n_aald d165_97 (xk_aheads hX) (by decide) (by omega) (by decide) (xr_aheads hX (by omega)) ?_
          refine q_iload_n d165_98 rfl ?_
          refine n_iald d165_99 (xa_aheads hX (by omega)) (by omega) (by decide) ((hTk.1 _ ht).2.2 _ hi).2.2.2.2 ?_
          refine q_iret d165_100 rfl ?_
          exact k _ hR (Fi.refl _ _)
        · refine q_aload_n d165_0 rfl ?_
          refine q_iload_n d165_1 rfl ?_
          refine q_iload_n d165_2 rfl ?_
          refine q_v2 d165_3 rfl rfl (xk_136 hX) (Nat.le_of_ble_eq_true rfl) (c166t hR (by omega) (by omega) ?_)
          refine n0_eq 18 d165_6 (by decide) (by decide) (fun q => absurd q (by decide)) (fun _ => ?_)
          refine q_iload_n d165_9 rfl ?_
          refine q_iconstN (z := 0) d165_10 ?_
          refine q_iconstN (z := 5) d165_11 ?_
          refine q_s3 d165_12 (Or.inl rfl) rfl (Nat.le_of_ble_eq_true rfl) (c131t ⟨by omega, by omega⟩ (by omega) ?_)
          refine n0_ne 21 d165_15 (by decide) (by decide) (fun _ => ?_) (fun q => absurd q (by decide))
          refine q_iload_n d165_21 rfl ?_
          refine n_tsO 101 d165_22 (by omega) (Or.inr (by omega)) (by decide) ?_
          refine q_aload_n d165_101 rfl ?_
          refine q_iload_n d165_102 rfl ?_
          refine q_iload_n d165_103 rfl ?_
          refine q_v2 d165_104 rfl rfl (xk_136 hX) (Nat.le_of_ble_eq_true rfl) (c149 hX (hTk.1 _ ht) ho (by omega) hi ?_)
          refine q_iret d165_107 rfl ?_
          exact k _ hR (Fi.refl _ _)
      · rw [oz_n ew] at k
        refine q_aload_n d165_0 rfl ?_
        refine q_iload_n d165_1 rfl ?_
        refine q_iload_n d165_2 rfl ?_
        refine q_v2 d165_3 rfl rfl (xk_136 hX) (Nat.le_of_ble_eq_true rfl) (c166t hR (by omega) (by omega) ?_)
        refine n0_eq 18 d165_6 (by decide) (by decide) (fun q => absurd q (by decide)) (fun _ => ?_)
        refine q_iload_n d165_9 rfl ?_
        refine q_iconstN (z := 0) d165_10 ?_
        refine q_iconstN (z := 5) d165_11 ?_
        refine q_s3 d165_12 (Or.inl rfl) rfl (Nat.le_of_ble_eq_true rfl) (c131f (by decide) (by have := zix_none ew; omega) (by decide) ?_)
        refine n0_ne 21 d165_15 (by decide) (by decide) (fun q => absurd q (by decide)) (fun _ => ?_)
        refine q_bipush (x := (-2)) d165_18 rfl ?_
        refine q_iret d165_20 rfl ?_
        exact k _ hR (Fi.refl _ _)
    · rw [oz_n ei] at k
      refine q_aload_n d165_0 rfl ?_
      refine q_iload_n d165_1 rfl ?_
      refine q_iload_n d165_2 rfl ?_
      refine q_v2 d165_3 rfl rfl (xk_136 hX) (Nat.le_of_ble_eq_true rfl) (c166f hR (by omega) ei ?_)
      refine n0_eq 18 d165_6 (by decide) (by decide) (fun _ => ?_) (fun q => absurd q (by decide))
      refine q_bipush (x := (-2)) d165_18 rfl ?_
      refine q_iret d165_20 rfl ?_
      exact k _ hR (Fi.refl _ _)
  · rw [oz_n et] at k
    refine q_aload_n d165_0 rfl ?_
    refine q_iload_n d165_1 rfl ?_
    refine q_iload_n d165_2 rfl ?_
    refine q_v2 d165_3 rfl rfl (xk_136 hX) (Nat.le_of_ble_eq_true rfl) (c166x hR et ?_)
    refine n0_eq 18 d165_6 (by decide) (by decide) (fun _ => ?_) (fun q => absurd q (by decide))
    refine q_bipush (x := (-2)) d165_18 rfl ?_
    refine q_iret d165_20 rfl ?_
    exact k _ hR (Fi.refl _ _)
/-! ===== the reference: tells ===== -/
/-- the desk, with a step's number that may be another -/
def RQ (M : zM) (D : yD) (κ : Nat) (o : Option (Nat × Nat × Int32)) : Prop := (SX M ∧ XTx M (dT D) (dc D) ∧ OKW (dT D) (dc D) (dW D) ∧ XPu M (dW D).1 ∧ (∀ s, s < 3 → XSa M s ((dW D).2 s) κ) ∧ zi M 136 20 = nI κ ∧ XLo [] M (some (dL D))) ∧ XO M o ∧ zi M 136 0 = nI (dc D) ∧ (dn D ≤ 120 ∧ zi M 136 30 = nI (dn D) ∧ ∀ k, k < dn D → zi M 208 k = nI (db D k)) ∧ ∀ i, i < 4 → zi M 319 i = (dR D i).1 ∧ zi M 320 i = nI (dR D i).2
theorem RX.q {M : zM} {D : yD} {κ : Nat} (h : RX M D κ) : RQ M D κ none := ⟨⟨h.1.1, h.1.2.1, h.1.2.2.1, h.1.2.2.2.1, h.1.2.2.2.2.1, h.1.2.2.2.2.2.1, h.1.2.2.2.2.2.2.1⟩, h.2.1, h.2.2.1, h.2.2.2.1, h.2.2.2.2⟩
theorem RQ.x {M : zM} {D : yD} {κ : Nat} (h : RQ M D κ none) : RX M D κ := ⟨⟨h.1.1, h.1.2.1, h.1.2.2.1, h.1.2.2.2.1, h.1.2.2.2.2.1, h.1.2.2.2.2.2.1, h.1.2.2.2.2.2.2, ⟨none, h.2.1, fun s hs h0 k hk => rfl⟩⟩, h.2.1, h.2.2.1, h.2.2.2.1, h.2.2.2.2⟩
theorem XO.fi {M M' : zM} {o : Option (Nat × Nat × Int32)} (h : XO M o) (e : ∀ k, k = 21 ∨ k = 22 ∨ k = 23 → zi M' 136 k = zi M 136 k) : XO M' o := by
  cases o with
  | none => exact (e _ (Or.inl rfl)).trans h
  | some q => exact ⟨(e _ (Or.inl rfl)).trans h.1, (e _ (Or.inr (Or.inl rfl))).trans h.2.1, (e _ (Or.inr (Or.inr rfl))).trans h.2.2.1, h.2.2.2⟩
/-- another number -/
theorem RQ.to {M M' : zM} {D : yD} {κ : Nat} {o p : Option (Nat × Nat × Int32)} (h : RQ M D κ o) (f : Fi (fun b k => b = 136 ∧ (k = 21 ∨ k = 22 ∨ k = 23)) M M') (hp : XO M' p) : RQ M' D κ p := by
  obtain ⟨⟨h1, h2, h3, h4, h5, h6, h7⟩, h8, h9, ⟨h10, h11, h12⟩, h13⟩ := h
  exact ⟨⟨SX_fi h1 f, XTx_fi h2 h3.1.1 f (fun b k b1 b2 q => by omega), h3, XPu_fi h4 f (fun b k q1 q2 => by unfold GP at q1; omega), fun s hs => (h5 s hs).fi f (fun b k q1 q2 => by unfold GS at q1; omega), (f.1 _ _ (by omega)).trans h6, h7.fi f (fun b k q => by unfold GL at q; omega)⟩, hp, (f.1 _ _ (by omega)).trans h9, ⟨h10, (f.1 _ _ (by omega)).trans h11, fun k hk => (f.1 _ _ (by omega)).trans (h12 k hk)⟩, fun i hi => ⟨(f.1 _ _ (by omega)).trans (h13 i hi).1, (f.1 _ _ (by omega)).trans (h13 i hi).2⟩⟩
theorem RQ.back {M M' : zM} {D : yD} {κ : Nat} {o : Option (Nat × Nat × Int32)} (h : RQ M D κ o) (f : Fi FZ M M') (hK : KB M M') (h21 : XO M' o) (hL : XLo [] M' (some (dL D))) : RQ M' D κ o := by
  obtain ⟨h1, h2, h3, ⟨h4, h5, h6⟩, h7⟩ := h
  have hO := h1.2.2.1
  refine ⟨⟨SX_fi h1.1 f, XTx_fi h1.2.1 hO.1.1 f (fun b k b1 b2 q => by unfold FZ at q; omega), hO, ⟨fun k hk => (hK.1.1 k hk).trans (h1.2.2.2.1.1 k hk), hK.1.2.1.trans h1.2.2.2.1.2.1, hK.1.2.2.1.trans h1.2.2.2.1.2.2⟩, fun s hs => (h1.2.2.2.2.1 s hs).kb hs (OKS_m12 hO.1.2 (hO.2.2 s hs)) hK, hK.1.2.2.2.1.trans h1.2.2.2.2.2.1, hL⟩, h21, (f.1 _ _ (by unfold FZ; omega)).trans h3, ⟨h4, (f.1 _ _ (by unfold FZ; omega)).trans h5, fun k hk => (f.1 _ _ (by unfold FZ; omega)).trans (h6 k hk)⟩, fun i hi => ⟨(f.1 _ _ (by unfold FZ; omega)).trans (h7 i hi).1, (f.1 _ _ (by unfold FZ; omega)).trans (h7 i hi).2⟩⟩
/-- the numbers that steps go by -/
def yqn (D : yD) (o : Option (Nat × Nat × Int32)) : Nat → Nat → Int32 := fun s k => xnv o (dT D) (gx (dS D s)) s k
theorem RQ.wake {M M2 M3 : zM} {D : yD} {κ : Nat} {o : Option (Nat × Nat × Int32)} (h : RQ M D κ o) (f : Fi FZ M M2) (h21 : XO M2 o) (hL : XLg M2 (dL D)) (hK : KB M M3) (h25 : zi M3 136 25 = nI 0) (f3 : Fi (fun b k => FB b k ∨ (b = 136 ∧ k = 25)) M2 M3) : RQ M3 D κ o ∧ Fi FY M M3 := by
  have fz : Fi FZ M M3 := f.trans (f3.mono (fun b k q => by unfold FB at q; unfold FZ; omega))
  exact ⟨h.back fz hK (h21.fi (fun k hk => f3.1 _ _ (by unfold FB; omega))) ⟨h25, (f3.1 _ _ (by unfold FB; omega)).trans hL.1, fun q hq => ⟨(f3.1 _ _ (by unfold FB; omega)).trans (hL.2 q hq).1, (f3.1 _ _ (by unfold FB; omega)).trans (hL.2 q hq).2.1, (f3.1 _ _ (by unfold FB; omega)).trans (hL.2 q hq).2.2⟩⟩, fz.mono (fun b k q => FZ_Y q)⟩
theorem c198q {d : Nat} {M : zM} {Q : Option Value → zM → Prop} {D : yD} {κ : Nat} {o : Option (Nat × Nat × Int32)} (hR : RQ M D κ o) (k : ∀ M', CX (dL D) M' (dT D) (dc D) (yqn D o) (dW D, none) κ → zi M' 136 25 = nI 1 → XO M' o → KA M M' 0 → Fi FZ M M' → Q none M') : qC (d + 3) 198 [.ref 136] M Q := by
  refine qC_of (by decide) (Nat.le_of_ble_eq_true rfl) ?_
  have hC := hR.1
  have hX := hC.1
  have hO : OKW (dT D) (dc D) (dW D) := hC.2.2.1
  have hc6 := hO.1.1
  have hL : XLo [] M (some (dL D)) := hC.2.2.2.2.2.2
  have hSa : ∀ s, s < 3 → XSa M s (dS D s) κ := hC.2.2.2.2.1
  have hck := hC.2.2.2.2.2.1
  refine q_aload_n d198_0 rfl ?_
  refine q_iconstN (z := 0) d198_1 ?_
  refine q_v1 d198_2 rfl rfl (xk_136 hX) (Nat.le_of_ble_eq_true rfl) (c155 (l := 0) hX (by decide) (fun M1 hK f1 => ?_))
  have hX1 := SX_fi hX f1
  refine q_aload_n d198_5 rfl ?_
  refine q_iconstN (z := 1) d198_6 ?_
  refine q_putz (c := 8) (f := 25) d198_7 ⟨rfl, rfl, by decide⟩ (xk_136 hX1) (Or.inr rfl) ?_
  refine q_ret d198_10 rfl ?_
  have f2 : Fi (fun b k => FA 0 b k ∨ (b = 136 ∧ k = 25)) M (zwi M1 136 25 (nI 1)) := (f1.mono (fun b k q => Or.inl q)).wi (Or.inr ⟨rfl, rfl⟩)
  have hLg : XLg (zwi M1 136 25 (nI 1)) (dL D) := ⟨(f2.1 _ _ (by unfold FA; omega)).trans hL.2.1, fun q hq => ⟨(f2.1 _ _ (by unfold FA; omega)).trans (hL.2.2 q hq).1, (f2.1 _ _ (by unfold FA; omega)).trans (hL.2.2 q hq).2.1, (f2.1 _ _ (by unfold FA; omega)).trans (hL.2.2 q hq).2.2⟩⟩
  have b21 : XO (zwi M1 136 25 (nI 1)) o := hR.2.1.fi (fun k hk => f2.1 _ _ (by unfold FA; omega))
  exact k _ ⟨SX_fi hX f2, XTx_fi hC.2.1 hc6 f2 (fun b k b1 b2 q => by unfold FA at q; omega), hO, XPu_fi hC.2.2.2.1 f2 (fun b k q1 q2 => by unfold GP at q1; unfold FA at q2; omega), fun s hs => (hSa s hs).fi f2 (fun b k q1 q2 => by unfold GS at q1; unfold FA at q2; omega), (f2.1 _ _ (by unfold FA; omega)).trans hck, ⟨wi_s _ _ _ _, hLg⟩, ⟨o, b21, fun s hs h0 k hk => rfl⟩⟩ (wi_s _ _ _ _) b21 (hK.fi ((Fi.refl (fun b k => b = 136 ∧ k = 25) M1).wi ⟨rfl, rfl⟩) (fun b k q1 q2 => by unfold FA at q1; omega)) (f2.mono (fun b k q => by unfold FA at q; unfold FZ; omega))
theorem d208_0 : decode (zB 208) 0 = .ok (.iconst (-1), 1) := (congrArg (fun c => decode c 0) zeq208).trans (by decide +kernel)
theorem d208_1 : decode (zB 208) 1 = .ok (.istore_n 3, 1) := (congrArg (fun c => decode c 1) zeq208).trans (by decide +kernel)
theorem d208_2 : decode (zB 208) 2 = .ok (.aload_n 0, 1) := (congrArg (fun c => decode c 2) zeq208).trans (by decide +kernel)
theorem d208_3 : decode (zB 208) 3 = .ok (.invokevirtual 372, 3) := (congrArg (fun c => decode c 3) zeq208).trans (by decide +kernel)
theorem d208_6 : decode (zB 208) 6 = .ok (.iconst 0, 1) := (congrArg (fun c => decode c 6) zeq208).trans (by decide +kernel)
theorem d208_7 : decode (zB 208) 7 = .ok (.istore 4, 2) := (congrArg (fun c => decode c 7) zeq208).trans (by decide +kernel)
theorem d208_9 : decode (zB 208) 9 = .ok (.iload 4, 2) := (congrArg (fun c => decode c 9) zeq208).trans (by decide +kernel)
theorem d208_11 : decode (zB 208) 11 = .ok (.aload_n 0, 1) := (congrArg (fun c => decode c 11) zeq208).trans (by decide +kernel)
theorem d208_12 : decode (zB 208) 12 = .ok (.getfield 103, 3) := (congrArg (fun c => decode c 12) zeq208).trans (by decide +kernel)
theorem d208_15 : decode (zB 208) 15 = .ok (.iload_n 1, 1) := (congrArg (fun c => decode c 15) zeq208).trans (by decide +kernel)
theorem d208_16 : decode (zB 208) 16 = .ok (.iaload, 1) := (congrArg (fun c => decode c 16) zeq208).trans (by decide +kernel)
theorem d208_17 : decode (zB 208) 17 = .ok (.if_icmp .ge 39, 3) := (congrArg (fun c => decode c 17) zeq208).trans (by decide +kernel)
theorem d208_20 : decode (zB 208) 20 = .ok (.iload_n 3, 1) := (congrArg (fun c => decode c 20) zeq208).trans (by decide +kernel)
theorem d208_21 : decode (zB 208) 21 = .ok (.iconst (-1), 1) := (congrArg (fun c => decode c 21) zeq208).trans (by decide +kernel)
theorem d208_22 : decode (zB 208) 22 = .ok (.if_icmp .ne 34, 3) := (congrArg (fun c => decode c 22) zeq208).trans (by decide +kernel)
theorem d208_25 : decode (zB 208) 25 = .ok (.aload_n 0, 1) := (congrArg (fun c => decode c 25) zeq208).trans (by decide +kernel)
theorem d208_26 : decode (zB 208) 26 = .ok (.invokevirtual 354, 3) := (congrArg (fun c => decode c 26) zeq208).trans (by decide +kernel)
theorem d208_29 : decode (zB 208) 29 = .ok (.aload_n 0, 1) := (congrArg (fun c => decode c 29) zeq208).trans (by decide +kernel)
theorem d208_30 : decode (zB 208) 30 = .ok (.getfield 33, 3) := (congrArg (fun c => decode c 30) zeq208).trans (by decide +kernel)
theorem d208_33 : decode (zB 208) 33 = .ok (.iload_n 2, 1) := (congrArg (fun c => decode c 33) zeq208).trans (by decide +kernel)
theorem d208_34 : decode (zB 208) 34 = .ok (.iaload, 1) := (congrArg (fun c => decode c 34) zeq208).trans (by decide +kernel)
theorem d208_35 : decode (zB 208) 35 = .ok (.aload_n 0, 1) := (congrArg (fun c => decode c 35) zeq208).trans (by decide +kernel)
theorem d208_36 : decode (zB 208) 36 = .ok (.getfield 106, 3) := (congrArg (fun c => decode c 36) zeq208).trans (by decide +kernel)
theorem d208_39 : decode (zB 208) 39 = .ok (.iload_n 1, 1) := (congrArg (fun c => decode c 39) zeq208).trans (by decide +kernel)
theorem d208_40 : decode (zB 208) 40 = .ok (.aaload, 1) := (congrArg (fun c => decode c 40) zeq208).trans (by decide +kernel)
theorem d208_41 : decode (zB 208) 41 = .ok (.iload 4, 2) := (congrArg (fun c => decode c 41) zeq208).trans (by decide +kernel)
theorem d208_43 : decode (zB 208) 43 = .ok (.iaload, 1) := (congrArg (fun c => decode c 43) zeq208).trans (by decide +kernel)
theorem d208_44 : decode (zB 208) 44 = .ok (.if_icmp .eq 6, 3) := (congrArg (fun c => decode c 44) zeq208).trans (by decide +kernel)
theorem d208_47 : decode (zB 208) 47 = .ok (.iload 4, 2) := (congrArg (fun c => decode c 47) zeq208).trans (by decide +kernel)
theorem d208_49 : decode (zB 208) 49 = .ok (.istore_n 3, 1) := (congrArg (fun c => decode c 49) zeq208).trans (by decide +kernel)
theorem d208_50 : decode (zB 208) 50 = .ok (.iinc 4 1, 3) := (congrArg (fun c => decode c 50) zeq208).trans (by decide +kernel)
theorem d208_53 : decode (zB 208) 53 = .ok (.goto (-44), 3) := (congrArg (fun c => decode c 53) zeq208).trans (by decide +kernel)
theorem d208_56 : decode (zB 208) 56 = .ok (.aload_n 0, 1) := (congrArg (fun c => decode c 56) zeq208).trans (by decide +kernel)
theorem d208_57 : decode (zB 208) 57 = .ok (.invokevirtual 375, 3) := (congrArg (fun c => decode c 57) zeq208).trans (by decide +kernel)
theorem d208_60 : decode (zB 208) 60 = .ok (.iload_n 3, 1) := (congrArg (fun c => decode c 60) zeq208).trans (by decide +kernel)
theorem d208_61 : decode (zB 208) 61 = .ok (.ireturn, 1) := (congrArg (fun c => decode c 61) zeq208).trans (by decide +kernel)
theorem l208 {d : Nat} {Q : Option Value → zM → Prop} {D : yD} {M0 : zM} {h a κ : Nat} {o : Option (Nat × Nat × Int32)} (hR : RQ M0 D κ o) (hκ : κ + 4000 < 2147483648) (hh : h < 4) (ha : a < 6) (hz : (dR D h).2 ≤ 20) (k : ∀ v M', RQ M' D κ o → Fi FY M0 M' → Q (some (.int v)) M') : ∀ (r i : Nat) (κ1 : Nat) (M1 : zM) (X1 : yX) (fd : Int32), i ≤ (dR D h).2 → (dR D h).2 < i + r →  CX (dL D) M1 (dT D) (dc D) (yqn D o) X1 κ1 → zi M1 136 25 = nI 1 → XO M1 o → KA M0 M1 0 → Fi FZ M0 M1 → κ1 ≤ κ + 36 * i → qW (zEv (d + 6)) 208 Q 9 [(4, .int (nI i)), (3, .int fd), (0, .ref 136), (1, .int (nI h)), (2, .int (nI a))] [] M1 := by
  intro r
  induction r with
  | zero => intros; omega
  | succ r ih =>
    intro i κ1 M1 X1 fd h1 h2 hC1 h25 h21 hK hF hk1
    refine q_iload d208_9 rfl ?_
    refine q_aload_n d208_11 rfl ?_
    refine q_getr (c := 8) (f := 46) d208_12 ⟨rfl, rfl⟩ (xk_136 hC1.1) (xf_lengths hC1.1) ?_
    refine q_iload_n d208_15 rfl ?_
    refine n_iald d208_16 (xk_lengths hC1.1) (by omega) (by decide) ((hF.1 _ _ (by unfold FZ; omega)).trans (hR.2.2.2.2 _ (by omega)).2) ?_
    refine nc_ge 56 d208_17 (by decide) (by omega) (by omega) (fun h17 => ?_) (fun h17 => ?_)
    · refine q_aload_n d208_56 rfl ?_
      refine q_v0 d208_57 rfl rfl (xk_136 hC1.1) (Nat.le_of_ble_eq_true rfl) (c199 hC1.1 hK (fun M2 hK2 q25 f2 => ?_))
      refine q_iload_n d208_60 rfl ?_
      refine q_iret d208_61 rfl ?_
      have hLo : XLo (dL D) M1 X1.2 := hC1.2.2.2.2.2.2.1
      rw [hC1.l0 h25] at hLo
      have hw := hR.wake hF h21 hLo.2 hK2 q25 f2
      exact k _ _ hw.1 hw.2
    · refine q_iload_n d208_20 rfl ?_
      refine q_iconst (x := (-1)) d208_21 rfl ?_
      refine ic_ne 56 d208_22 (by decide) (fun h22 => ?_) (fun h22 => ?_)
      · refine q_aload_n d208_56 rfl ?_
        refine q_v0 d208_57 rfl rfl (xk_136 hC1.1) (Nat.le_of_ble_eq_true rfl) (c199 hC1.1 hK (fun M2 hK2 q25 f2 => ?_))
        refine q_iload_n d208_60 rfl ?_
        refine q_iret d208_61 rfl ?_
        have hLo : XLo (dL D) M1 X1.2 := hC1.2.2.2.2.2.2.1
        rw [hC1.l0 h25] at hLo
        have hw := hR.wake hF h21 hLo.2 hK2 q25 f2
        exact k _ _ hw.1 hw.2
      · refine q_aload_n d208_25 rfl ?_
        refine q_v0 d208_26 rfl rfl (xk_136 hC1.1) (Nat.le_of_ble_eq_true rfl) (c175 hC1 (by rw [hC1.l0 h25]; show 0 + 39 ≤ 240; omega) (by omega) (fun M2 κ2 hk2 hC2 f2 => ?_))
        refine q_aload_n d208_29 rfl ?_
        refine q_getr (c := 8) (f := 8) d208_30 ⟨rfl, rfl⟩ (xk_136 hC2.1) (xf_balances hC2.1) ?_
        refine q_iload_n d208_33 rfl ?_
        refine n_iald d208_34 (xk_balances hC2.1) (by omega) (by decide) rfl ?_
        refine q_aload_n d208_35 rfl ?_
        refine q_getr (c := 8) (f := 47) d208_36 ⟨rfl, rfl⟩ (xk_136 hC2.1) (xf_items hC2.1) ?_
        refine q_iload_n d208_39 rfl ?_
        refine n_aald d208_40 (xk_items hC2.1) (by decide) (by omega) (by decide) (xr_items hC2.1 (by omega)) ?_
        refine q_iload d208_41 rfl ?_
        refine n_iald d208_43 (xa_items hC2.1 (by omega)) (by omega) (by decide) rfl ?_
        refine ic_eq 50 d208_44 (by decide) (fun h44 => ?_) (fun h44 => ?_)
        · refine n_iinc 1 d208_50 (by decide) rfl rfl ?_
          refine q_goto 9 d208_53 (by decide) ?_
          exact ih (i + 1) κ2 _ _ _ (by omega) (by omega) hC2 ((f2.1 _ _ (by unfold FX; omega)).trans h25) (h21.fi (fun k hk => f2.1 _ _ (by unfold FX; omega))) (hK.fi f2 (fun b k q1 q2 => by unfold FA at q1; unfold FX at q2; omega)) (hF.trans (f2.mono (fun b k q => FX_Z q))) (by omega)
        · refine q_iload d208_47 rfl ?_
          refine q_istore_n d208_49 (by decide) rfl ?_
          refine n_iinc 1 d208_50 (by decide) rfl rfl ?_
          refine q_goto 9 d208_53 (by decide) ?_
          exact ih (i + 1) κ2 _ _ _ (by omega) (by omega) hC2 ((f2.1 _ _ (by unfold FX; omega)).trans h25) (h21.fi (fun k hk => f2.1 _ _ (by unfold FX; omega))) (hK.fi f2 (fun b k q1 q2 => by unfold FA at q1; unfold FX at q2; omega)) (hF.trans (f2.mono (fun b k q => FX_Z q))) (by omega)
theorem c208 {d : Nat} {Q : Option Value → zM → Prop} {D : yD} {M0 : zM} {h a κ : Nat} {o : Option (Nat × Nat × Int32)} (hR : RQ M0 D κ o) (hκ : κ + 4000 < 2147483648) (hh : h < 4) (ha : a < 6) (hz : (dR D h).2 ≤ 20) (k : ∀ v M', RQ M' D κ o → Fi FY M0 M' → Q (some (.int v)) M') : qC (d + 7) 208 [.ref 136, .int (nI h), .int (nI a)] M0 Q := by
  refine qC_of (by decide) (Nat.le_of_ble_eq_true rfl) ?_
  refine q_iconst (x := (-1)) d208_0 rfl ?_
  refine q_istore_n d208_1 (by decide) rfl ?_
  refine q_aload_n d208_2 rfl ?_
  refine q_v0 d208_3 rfl rfl (xk_136 hR.1.1) (Nat.le_of_ble_eq_true rfl) (c198q hR (fun M1 hC1 q25 q21 hK f1 => ?_))
  refine q_iconstN (z := 0) d208_6 ?_
  refine q_istore d208_7 (by decide) rfl ?_
  exact l208 hR hκ hh ha hz k ((dR D h).2 + 1) 0 κ M1 _ _ (Nat.zero_le _) (by omega) hC1 q25 q21 hK f1 (by omega)
theorem d209_0 : decode (zB 209) 0 = .ok (.iconst 0, 1) := (congrArg (fun c => decode c 0) zeq209).trans (by decide +kernel)
theorem d209_1 : decode (zB 209) 1 = .ok (.istore 4, 2) := (congrArg (fun c => decode c 1) zeq209).trans (by decide +kernel)
theorem d209_3 : decode (zB 209) 3 = .ok (.iconst (-1), 1) := (congrArg (fun c => decode c 3) zeq209).trans (by decide +kernel)
theorem d209_4 : decode (zB 209) 4 = .ok (.istore 5, 2) := (congrArg (fun c => decode c 4) zeq209).trans (by decide +kernel)
theorem d209_6 : decode (zB 209) 6 = .ok (.iconst 0, 1) := (congrArg (fun c => decode c 6) zeq209).trans (by decide +kernel)
theorem d209_7 : decode (zB 209) 7 = .ok (.istore 6, 2) := (congrArg (fun c => decode c 7) zeq209).trans (by decide +kernel)
theorem d209_9 : decode (zB 209) 9 = .ok (.iload 6, 2) := (congrArg (fun c => decode c 9) zeq209).trans (by decide +kernel)
theorem d209_11 : decode (zB 209) 11 = .ok (.bipush 20, 2) := (congrArg (fun c => decode c 11) zeq209).trans (by decide +kernel)
theorem d209_13 : decode (zB 209) 13 = .ok (.if_icmp .ge 45, 3) := (congrArg (fun c => decode c 13) zeq209).trans (by decide +kernel)
theorem d209_16 : decode (zB 209) 16 = .ok (.aload_n 0, 1) := (congrArg (fun c => decode c 16) zeq209).trans (by decide +kernel)
theorem d209_17 : decode (zB 209) 17 = .ok (.iload 6, 2) := (congrArg (fun c => decode c 17) zeq209).trans (by decide +kernel)
theorem d209_19 : decode (zB 209) 19 = .ok (.putfield 314, 3) := (congrArg (fun c => decode c 19) zeq209).trans (by decide +kernel)
theorem d209_22 : decode (zB 209) 22 = .ok (.aload_n 0, 1) := (congrArg (fun c => decode c 22) zeq209).trans (by decide +kernel)
theorem d209_23 : decode (zB 209) 23 = .ok (.iload_n 1, 1) := (congrArg (fun c => decode c 23) zeq209).trans (by decide +kernel)
theorem d209_24 : decode (zB 209) 24 = .ok (.iload_n 2, 1) := (congrArg (fun c => decode c 24) zeq209).trans (by decide +kernel)
theorem d209_25 : decode (zB 209) 25 = .ok (.invokevirtual 389, 3) := (congrArg (fun c => decode c 25) zeq209).trans (by decide +kernel)
theorem d209_28 : decode (zB 209) 28 = .ok (.iconst (-1), 1) := (congrArg (fun c => decode c 28) zeq209).trans (by decide +kernel)
theorem d209_29 : decode (zB 209) 29 = .ok (.if_icmp .eq 6, 3) := (congrArg (fun c => decode c 29) zeq209).trans (by decide +kernel)
theorem d209_32 : decode (zB 209) 32 = .ok (.goto 20, 3) := (congrArg (fun c => decode c 32) zeq209).trans (by decide +kernel)
theorem d209_35 : decode (zB 209) 35 = .ok (.iload 4, 2) := (congrArg (fun c => decode c 35) zeq209).trans (by decide +kernel)
theorem d209_37 : decode (zB 209) 37 = .ok (.ifCond .ne 8, 3) := (congrArg (fun c => decode c 37) zeq209).trans (by decide +kernel)
theorem d209_40 : decode (zB 209) 40 = .ok (.iload 6, 2) := (congrArg (fun c => decode c 40) zeq209).trans (by decide +kernel)
theorem d209_42 : decode (zB 209) 42 = .ok (.goto 5, 3) := (congrArg (fun c => decode c 42) zeq209).trans (by decide +kernel)
theorem d209_45 : decode (zB 209) 45 = .ok (.iload 5, 2) := (congrArg (fun c => decode c 45) zeq209).trans (by decide +kernel)
theorem d209_47 : decode (zB 209) 47 = .ok (.istore 5, 2) := (congrArg (fun c => decode c 47) zeq209).trans (by decide +kernel)
theorem d209_49 : decode (zB 209) 49 = .ok (.iinc 4 1, 3) := (congrArg (fun c => decode c 49) zeq209).trans (by decide +kernel)
theorem d209_52 : decode (zB 209) 52 = .ok (.iinc 6 1, 3) := (congrArg (fun c => decode c 52) zeq209).trans (by decide +kernel)
theorem d209_55 : decode (zB 209) 55 = .ok (.goto (-46), 3) := (congrArg (fun c => decode c 55) zeq209).trans (by decide +kernel)
theorem d209_58 : decode (zB 209) 58 = .ok (.aload_n 0, 1) := (congrArg (fun c => decode c 58) zeq209).trans (by decide +kernel)
theorem d209_59 : decode (zB 209) 59 = .ok (.iconst (-1), 1) := (congrArg (fun c => decode c 59) zeq209).trans (by decide +kernel)
theorem d209_60 : decode (zB 209) 60 = .ok (.putfield 63, 3) := (congrArg (fun c => decode c 60) zeq209).trans (by decide +kernel)
theorem d209_63 : decode (zB 209) 63 = .ok (.iload_n 3, 1) := (congrArg (fun c => decode c 63) zeq209).trans (by decide +kernel)
theorem d209_64 : decode (zB 209) 64 = .ok (.ifCond .eq 8, 3) := (congrArg (fun c => decode c 64) zeq209).trans (by decide +kernel)
theorem d209_67 : decode (zB 209) 67 = .ok (.iload 5, 2) := (congrArg (fun c => decode c 67) zeq209).trans (by decide +kernel)
theorem d209_69 : decode (zB 209) 69 = .ok (.goto 5, 3) := (congrArg (fun c => decode c 69) zeq209).trans (by decide +kernel)
theorem d209_72 : decode (zB 209) 72 = .ok (.iload 4, 2) := (congrArg (fun c => decode c 72) zeq209).trans (by decide +kernel)
theorem d209_74 : decode (zB 209) 74 = .ok (.ireturn, 1) := (congrArg (fun c => decode c 74) zeq209).trans (by decide +kernel)
theorem l209 {d : Nat} {Q : Option Value → zM → Prop} {D : yD} {M0 : zM} {h a s p κ : Nat} {lt : Int32} (hκ : κ + 4000 < 2147483648) (hh : h < 4) (ha : a < 6) (hs : s < 3) (hp : p < 12) (hz : (dR D h).2 ≤ 20) (k : ∀ v M', RX M' D κ → Fi FY M0 M' → Q (some (.int v)) M') : ∀ (r i : Nat) (M1 : zM) (w : Int32) (mn : Nat) (fs : Int32), i ≤ 20 → 20 < i + r →  mn ≤ i → RQ M1 D κ (some (s, p, w)) → Fi FY M0 M1 → qW (zEv (d + 7)) 209 Q 9 [(0, .ref 136), (1, .int (nI h)), (2, .int (nI a)), (3, .int lt), (4, .int (nI mn)), (5, .int fs), (6, .int (nI i))] [] M1 := by
  intro r
  induction r with
  | zero => intros; omega
  | succ r ih =>
    intro i M1 w mn fs h1 h2 hmn hR hF
    refine q_iload d209_9 rfl ?_
    refine q_bipush (x := nI 20) d209_11 rfl ?_
    refine nc_ge 58 d209_13 (by decide) (by omega) (by omega) (fun h13 => ?_) (fun h13 => ?_)
    · refine q_aload_n d209_58 rfl ?_
      refine q_iconst (x := (-1)) d209_59 rfl ?_
      refine q_puti (c := 8) (f := 21) d209_60 ⟨rfl, rfl, by decide⟩ (xk_136 hR.1.1) ?_
      refine q_iload_n d209_63 rfl ?_
      refine i0_eq 72 d209_64 (by decide) (fun h64 => ?_) (fun h64 => ?_)
      · refine q_iload d209_72 rfl ?_
        refine q_iret d209_74 rfl ?_
        have fe : Fi (fun b k => b = 136 ∧ (k = 21 ∨ k = 22 ∨ k = 23)) M1 (zwi M1 136 21 (-1)) := (Fi.refl _ _).wi ⟨rfl, Or.inl rfl⟩
        exact k _ _ (hR.to (p := none) fe (wi_s _ _ _ _)).x (hF.trans (fe.mono (fun b k q => by unfold FY; omega)))
      · refine q_iload d209_67 rfl ?_
        refine q_goto 74 d209_69 (by decide) ?_
        refine q_iret d209_74 rfl ?_
        have fe : Fi (fun b k => b = 136 ∧ (k = 21 ∨ k = 22 ∨ k = 23)) M1 (zwi M1 136 21 (-1)) := (Fi.refl _ _).wi ⟨rfl, Or.inl rfl⟩
        exact k _ _ (hR.to (p := none) fe (wi_s _ _ _ _)).x (hF.trans (fe.mono (fun b k q => by unfold FY; omega)))
    · refine q_aload_n d209_16 rfl ?_
      refine q_iload d209_17 rfl ?_
      refine q_puti (c := 8) (f := 23) d209_19 ⟨rfl, rfl, by decide⟩ (xk_136 hR.1.1) ?_
      have fq : Fi (fun b k => b = 136 ∧ (k = 21 ∨ k = 22 ∨ k = 23)) M1 (zwi M1 136 23 (nI i)) := (Fi.refl _ _).wi ⟨rfl, Or.inr (Or.inr rfl)⟩
      have hR1 : RQ (zwi M1 136 23 (nI i)) D κ (some (s, p, nI i)) := hR.to fq ⟨(wi_n (by omega)).trans hR.2.1.1, (wi_n (by omega)).trans hR.2.1.2.1, wi_s _ _ _ _, hs, hp⟩
      refine q_aload_n d209_22 rfl ?_
      refine q_iload_n d209_23 rfl ?_
      refine q_iload_n d209_24 rfl ?_
      refine q_v2 d209_25 rfl rfl (xk_136 hR1.1.1) (Nat.le_of_ble_eq_true rfl) (c208 hR1 hκ hh ha hz (fun v2 M2 hR2 f2 => ?_))
      refine q_iconst (x := (-1)) d209_28 rfl ?_
      refine ic_eq 35 d209_29 (by decide) (fun h29 => ?_) (fun h29 => ?_)
      · refine q_iload d209_35 rfl ?_
        refine n0_ne 45 d209_37 (by decide) (by omega) (fun h37 => ?_) (fun h37 => ?_)
        · refine q_iload d209_45 rfl ?_
          refine q_istore d209_47 (by decide) rfl ?_
          refine n_iinc 1 d209_49 (by decide) rfl rfl ?_
          refine n_iinc 1 d209_52 (by decide) rfl rfl ?_
          refine q_goto 9 d209_55 (by decide) ?_
          refine qW_srt rfl rfl ?_
          exact ih (i + 1) M2 (nI i) (mn + 1) fs (by omega) (by omega) (by omega) hR2 (hF.trans ((fq.mono (fun b k q => by unfold FY; omega)).trans f2))
        · refine q_iload d209_40 rfl ?_
          refine q_goto 47 d209_42 (by decide) ?_
          refine q_istore d209_47 (by decide) rfl ?_
          refine n_iinc 1 d209_49 (by decide) rfl rfl ?_
          refine n_iinc 1 d209_52 (by decide) rfl rfl ?_
          refine q_goto 9 d209_55 (by decide) ?_
          refine qW_srt rfl rfl ?_
          exact ih (i + 1) M2 (nI i) (mn + 1) (nI i) (by omega) (by omega) (by omega) hR2 (hF.trans ((fq.mono (fun b k q => by unfold FY; omega)).trans f2))
      · refine q_goto 52 d209_32 (by decide) ?_
        refine n_iinc 1 d209_52 (by decide) rfl rfl ?_
        refine q_goto 9 d209_55 (by decide) ?_
        refine qW_srt rfl rfl ?_
        exact ih (i + 1) M2 (nI i) mn fs (by omega) (by omega) (by omega) hR2 (hF.trans ((fq.mono (fun b k q => by unfold FY; omega)).trans f2))
theorem c209 {d : Nat} {Q : Option Value → zM → Prop} {D : yD} {M0 : zM} {h a s p κ : Nat} {lt : Int32} {w : Int32} (hR : RQ M0 D κ (some (s, p, w))) (hκ : κ + 4000 < 2147483648) (hh : h < 4) (ha : a < 6) (hs : s < 3) (hp : p < 12) (hz : (dR D h).2 ≤ 20) (k : ∀ v M', RX M' D κ → Fi FY M0 M' → Q (some (.int v)) M') : qC (d + 8) 209 [.ref 136, .int (nI h), .int (nI a), .int lt] M0 Q := by
  refine qC_of (by decide) (Nat.le_of_ble_eq_true rfl) ?_
  refine q_iconstN (z := 0) d209_0 ?_
  refine q_istore d209_1 (by decide) rfl ?_
  refine q_iconst (x := (-1)) d209_3 rfl ?_
  refine q_istore d209_4 (by decide) rfl ?_
  refine q_iconstN (z := 0) d209_6 ?_
  refine q_istore d209_7 (by decide) rfl ?_
  refine qW_srt rfl rfl ?_
  exact l209 hκ hh ha hs hp hz k 21 0 M0 w 0 _ (by omega) (by omega) (Nat.le_refl _) hR (Fi.refl _ _)
theorem d206_0 : decode (zB 206) 0 = .ok (.iload 4, 2) := (congrArg (fun c => decode c 0) zeq206).trans (by decide +kernel)
theorem d206_2 : decode (zB 206) 2 = .ok (.bipush 100, 2) := (congrArg (fun c => decode c 2) zeq206).trans (by decide +kernel)
theorem d206_4 : decode (zB 206) 4 = .ok (.bipush 111, 2) := (congrArg (fun c => decode c 4) zeq206).trans (by decide +kernel)
theorem d206_6 : decode (zB 206) 6 = .ok (.invokestatic 112, 3) := (congrArg (fun c => decode c 6) zeq206).trans (by decide +kernel)
theorem d206_9 : decode (zB 206) 9 = .ok (.ifCond .ne 17, 3) := (congrArg (fun c => decode c 9) zeq206).trans (by decide +kernel)
theorem d206_12 : decode (zB 206) 12 = .ok (.iload 4, 2) := (congrArg (fun c => decode c 12) zeq206).trans (by decide +kernel)
theorem d206_14 : decode (zB 206) 14 = .ok (.sipush 200, 3) := (congrArg (fun c => decode c 14) zeq206).trans (by decide +kernel)
theorem d206_17 : decode (zB 206) 17 = .ok (.sipush 211, 3) := (congrArg (fun c => decode c 17) zeq206).trans (by decide +kernel)
theorem d206_20 : decode (zB 206) 20 = .ok (.invokestatic 112, 3) := (congrArg (fun c => decode c 20) zeq206).trans (by decide +kernel)
theorem d206_23 : decode (zB 206) 23 = .ok (.ifCond .eq 7, 3) := (congrArg (fun c => decode c 23) zeq206).trans (by decide +kernel)
theorem d206_26 : decode (zB 206) 26 = .ok (.iconst 1, 1) := (congrArg (fun c => decode c 26) zeq206).trans (by decide +kernel)
theorem d206_27 : decode (zB 206) 27 = .ok (.goto 4, 3) := (congrArg (fun c => decode c 27) zeq206).trans (by decide +kernel)
theorem d206_30 : decode (zB 206) 30 = .ok (.iconst 0, 1) := (congrArg (fun c => decode c 30) zeq206).trans (by decide +kernel)
theorem d206_31 : decode (zB 206) 31 = .ok (.istore 5, 2) := (congrArg (fun c => decode c 31) zeq206).trans (by decide +kernel)
theorem d206_33 : decode (zB 206) 33 = .ok (.iload_n 1, 1) := (congrArg (fun c => decode c 33) zeq206).trans (by decide +kernel)
theorem d206_34 : decode (zB 206) 34 = .ok (.invokestatic 392, 3) := (congrArg (fun c => decode c 34) zeq206).trans (by decide +kernel)
theorem d206_37 : decode (zB 206) 37 = .ok (.ifCond .eq 32, 3) := (congrArg (fun c => decode c 37) zeq206).trans (by decide +kernel)
theorem d206_40 : decode (zB 206) 40 = .ok (.iload_n 2, 1) := (congrArg (fun c => decode c 40) zeq206).trans (by decide +kernel)
theorem d206_41 : decode (zB 206) 41 = .ok (.invokestatic 357, 3) := (congrArg (fun c => decode c 41) zeq206).trans (by decide +kernel)
theorem d206_44 : decode (zB 206) 44 = .ok (.ifCond .eq 25, 3) := (congrArg (fun c => decode c 44) zeq206).trans (by decide +kernel)
theorem d206_47 : decode (zB 206) 47 = .ok (.iload_n 3, 1) := (congrArg (fun c => decode c 47) zeq206).trans (by decide +kernel)
theorem d206_48 : decode (zB 206) 48 = .ok (.invokestatic 345, 3) := (congrArg (fun c => decode c 48) zeq206).trans (by decide +kernel)
theorem d206_51 : decode (zB 206) 51 = .ok (.ifCond .eq 18, 3) := (congrArg (fun c => decode c 51) zeq206).trans (by decide +kernel)
theorem d206_54 : decode (zB 206) 54 = .ok (.iload 4, 2) := (congrArg (fun c => decode c 54) zeq206).trans (by decide +kernel)
theorem d206_56 : decode (zB 206) 56 = .ok (.iconst 0, 1) := (congrArg (fun c => decode c 56) zeq206).trans (by decide +kernel)
theorem d206_57 : decode (zB 206) 57 = .ok (.iconst 1, 1) := (congrArg (fun c => decode c 57) zeq206).trans (by decide +kernel)
theorem d206_58 : decode (zB 206) 58 = .ok (.invokestatic 112, 3) := (congrArg (fun c => decode c 58) zeq206).trans (by decide +kernel)
theorem d206_61 : decode (zB 206) 61 = .ok (.ifCond .ne 11, 3) := (congrArg (fun c => decode c 61) zeq206).trans (by decide +kernel)
theorem d206_64 : decode (zB 206) 64 = .ok (.iload 5, 2) := (congrArg (fun c => decode c 64) zeq206).trans (by decide +kernel)
theorem d206_66 : decode (zB 206) 66 = .ok (.ifCond .ne 6, 3) := (congrArg (fun c => decode c 66) zeq206).trans (by decide +kernel)
theorem d206_69 : decode (zB 206) 69 = .ok (.bipush (-2), 2) := (congrArg (fun c => decode c 69) zeq206).trans (by decide +kernel)
theorem d206_71 : decode (zB 206) 71 = .ok (.ireturn, 1) := (congrArg (fun c => decode c 71) zeq206).trans (by decide +kernel)
theorem d206_72 : decode (zB 206) 72 = .ok (.iload 4, 2) := (congrArg (fun c => decode c 72) zeq206).trans (by decide +kernel)
theorem d206_74 : decode (zB 206) 74 = .ok (.bipush 100, 2) := (congrArg (fun c => decode c 74) zeq206).trans (by decide +kernel)
theorem d206_76 : decode (zB 206) 76 = .ok (.irem, 1) := (congrArg (fun c => decode c 76) zeq206).trans (by decide +kernel)
theorem d206_77 : decode (zB 206) 77 = .ok (.istore 6, 2) := (congrArg (fun c => decode c 77) zeq206).trans (by decide +kernel)
theorem d206_79 : decode (zB 206) 79 = .ok (.iload 5, 2) := (congrArg (fun c => decode c 79) zeq206).trans (by decide +kernel)
theorem d206_81 : decode (zB 206) 81 = .ok (.ifCond .eq 15, 3) := (congrArg (fun c => decode c 81) zeq206).trans (by decide +kernel)
theorem d206_84 : decode (zB 206) 84 = .ok (.aload_n 0, 1) := (congrArg (fun c => decode c 84) zeq206).trans (by decide +kernel)
theorem d206_85 : decode (zB 206) 85 = .ok (.getfield 36, 3) := (congrArg (fun c => decode c 85) zeq206).trans (by decide +kernel)
theorem d206_88 : decode (zB 206) 88 = .ok (.iload_n 3, 1) := (congrArg (fun c => decode c 88) zeq206).trans (by decide +kernel)
theorem d206_89 : decode (zB 206) 89 = .ok (.iaload, 1) := (congrArg (fun c => decode c 89) zeq206).trans (by decide +kernel)
theorem d206_90 : decode (zB 206) 90 = .ok (.ifCond .ne 6, 3) := (congrArg (fun c => decode c 90) zeq206).trans (by decide +kernel)
theorem d206_93 : decode (zB 206) 93 = .ok (.bipush (-3), 2) := (congrArg (fun c => decode c 93) zeq206).trans (by decide +kernel)
theorem d206_95 : decode (zB 206) 95 = .ok (.ireturn, 1) := (congrArg (fun c => decode c 95) zeq206).trans (by decide +kernel)
theorem d206_96 : decode (zB 206) 96 = .ok (.iload 5, 2) := (congrArg (fun c => decode c 96) zeq206).trans (by decide +kernel)
theorem d206_98 : decode (zB 206) 98 = .ok (.ifCond .eq 40, 3) := (congrArg (fun c => decode c 98) zeq206).trans (by decide +kernel)
theorem d206_101 : decode (zB 206) 101 = .ok (.iload 6, 2) := (congrArg (fun c => decode c 101) zeq206).trans (by decide +kernel)
theorem d206_103 : decode (zB 206) 103 = .ok (.aload_n 0, 1) := (congrArg (fun c => decode c 103) zeq206).trans (by decide +kernel)
theorem d206_104 : decode (zB 206) 104 = .ok (.getfield 9, 3) := (congrArg (fun c => decode c 104) zeq206).trans (by decide +kernel)
theorem d206_107 : decode (zB 206) 107 = .ok (.aload_n 0, 1) := (congrArg (fun c => decode c 107) zeq206).trans (by decide +kernel)
theorem d206_108 : decode (zB 206) 108 = .ok (.getfield 39, 3) := (congrArg (fun c => decode c 108) zeq206).trans (by decide +kernel)
theorem d206_111 : decode (zB 206) 111 = .ok (.iload_n 3, 1) := (congrArg (fun c => decode c 111) zeq206).trans (by decide +kernel)
theorem d206_112 : decode (zB 206) 112 = .ok (.iaload, 1) := (congrArg (fun c => decode c 112) zeq206).trans (by decide +kernel)
theorem d206_113 : decode (zB 206) 113 = .ok (.iaload, 1) := (congrArg (fun c => decode c 113) zeq206).trans (by decide +kernel)
theorem d206_114 : decode (zB 206) 114 = .ok (.if_icmp .ge 21, 3) := (congrArg (fun c => decode c 114) zeq206).trans (by decide +kernel)
theorem d206_117 : decode (zB 206) 117 = .ok (.aload_n 0, 1) := (congrArg (fun c => decode c 117) zeq206).trans (by decide +kernel)
theorem d206_118 : decode (zB 206) 118 = .ok (.getfield 27, 3) := (congrArg (fun c => decode c 118) zeq206).trans (by decide +kernel)
theorem d206_121 : decode (zB 206) 121 = .ok (.aload_n 0, 1) := (congrArg (fun c => decode c 121) zeq206).trans (by decide +kernel)
theorem d206_122 : decode (zB 206) 122 = .ok (.getfield 39, 3) := (congrArg (fun c => decode c 122) zeq206).trans (by decide +kernel)
theorem d206_125 : decode (zB 206) 125 = .ok (.iload_n 3, 1) := (congrArg (fun c => decode c 125) zeq206).trans (by decide +kernel)
theorem d206_126 : decode (zB 206) 126 = .ok (.iaload, 1) := (congrArg (fun c => decode c 126) zeq206).trans (by decide +kernel)
theorem d206_127 : decode (zB 206) 127 = .ok (.aaload, 1) := (congrArg (fun c => decode c 127) zeq206).trans (by decide +kernel)
theorem d206_128 : decode (zB 206) 128 = .ok (.iload 6, 2) := (congrArg (fun c => decode c 128) zeq206).trans (by decide +kernel)
theorem d206_130 : decode (zB 206) 130 = .ok (.iaload, 1) := (congrArg (fun c => decode c 130) zeq206).trans (by decide +kernel)
theorem d206_131 : decode (zB 206) 131 = .ok (.iconst (-1), 1) := (congrArg (fun c => decode c 131) zeq206).trans (by decide +kernel)
theorem d206_132 : decode (zB 206) 132 = .ok (.if_icmp .ne 6, 3) := (congrArg (fun c => decode c 132) zeq206).trans (by decide +kernel)
theorem d206_135 : decode (zB 206) 135 = .ok (.bipush (-2), 2) := (congrArg (fun c => decode c 135) zeq206).trans (by decide +kernel)
theorem d206_137 : decode (zB 206) 137 = .ok (.ireturn, 1) := (congrArg (fun c => decode c 137) zeq206).trans (by decide +kernel)
theorem d206_138 : decode (zB 206) 138 = .ok (.aload_n 0, 1) := (congrArg (fun c => decode c 138) zeq206).trans (by decide +kernel)
theorem d206_139 : decode (zB 206) 139 = .ok (.getfield 100, 3) := (congrArg (fun c => decode c 139) zeq206).trans (by decide +kernel)
theorem d206_142 : decode (zB 206) 142 = .ok (.iload_n 1, 1) := (congrArg (fun c => decode c 142) zeq206).trans (by decide +kernel)
theorem d206_143 : decode (zB 206) 143 = .ok (.iaload, 1) := (congrArg (fun c => decode c 143) zeq206).trans (by decide +kernel)
theorem d206_144 : decode (zB 206) 144 = .ok (.ifCond .ge 6, 3) := (congrArg (fun c => decode c 144) zeq206).trans (by decide +kernel)
theorem d206_147 : decode (zB 206) 147 = .ok (.bipush (-11), 2) := (congrArg (fun c => decode c 147) zeq206).trans (by decide +kernel)
theorem d206_149 : decode (zB 206) 149 = .ok (.ireturn, 1) := (congrArg (fun c => decode c 149) zeq206).trans (by decide +kernel)
theorem d206_150 : decode (zB 206) 150 = .ok (.aload_n 0, 1) := (congrArg (fun c => decode c 150) zeq206).trans (by decide +kernel)
theorem d206_151 : decode (zB 206) 151 = .ok (.getfield 103, 3) := (congrArg (fun c => decode c 151) zeq206).trans (by decide +kernel)
theorem d206_154 : decode (zB 206) 154 = .ok (.iload_n 1, 1) := (congrArg (fun c => decode c 154) zeq206).trans (by decide +kernel)
theorem d206_155 : decode (zB 206) 155 = .ok (.iaload, 1) := (congrArg (fun c => decode c 155) zeq206).trans (by decide +kernel)
theorem d206_156 : decode (zB 206) 156 = .ok (.bipush 20, 2) := (congrArg (fun c => decode c 156) zeq206).trans (by decide +kernel)
theorem d206_158 : decode (zB 206) 158 = .ok (.if_icmp .le 6, 3) := (congrArg (fun c => decode c 158) zeq206).trans (by decide +kernel)
theorem d206_161 : decode (zB 206) 161 = .ok (.bipush (-2), 2) := (congrArg (fun c => decode c 161) zeq206).trans (by decide +kernel)
theorem d206_163 : decode (zB 206) 163 = .ok (.ireturn, 1) := (congrArg (fun c => decode c 163) zeq206).trans (by decide +kernel)
theorem d206_164 : decode (zB 206) 164 = .ok (.iload 4, 2) := (congrArg (fun c => decode c 164) zeq206).trans (by decide +kernel)
theorem d206_166 : decode (zB 206) 166 = .ok (.ifCond .ne 10, 3) := (congrArg (fun c => decode c 166) zeq206).trans (by decide +kernel)
theorem d206_169 : decode (zB 206) 169 = .ok (.aload_n 0, 1) := (congrArg (fun c => decode c 169) zeq206).trans (by decide +kernel)
theorem d206_170 : decode (zB 206) 170 = .ok (.iload_n 1, 1) := (congrArg (fun c => decode c 170) zeq206).trans (by decide +kernel)
theorem d206_171 : decode (zB 206) 171 = .ok (.iload_n 2, 1) := (congrArg (fun c => decode c 171) zeq206).trans (by decide +kernel)
theorem d206_172 : decode (zB 206) 172 = .ok (.invokevirtual 389, 3) := (congrArg (fun c => decode c 172) zeq206).trans (by decide +kernel)
theorem d206_175 : decode (zB 206) 175 = .ok (.ireturn, 1) := (congrArg (fun c => decode c 175) zeq206).trans (by decide +kernel)
theorem d206_176 : decode (zB 206) 176 = .ok (.iload 5, 2) := (congrArg (fun c => decode c 176) zeq206).trans (by decide +kernel)
theorem d206_178 : decode (zB 206) 178 = .ok (.ifCond .eq 34, 3) := (congrArg (fun c => decode c 178) zeq206).trans (by decide +kernel)
theorem d206_181 : decode (zB 206) 181 = .ok (.aload_n 0, 1) := (congrArg (fun c => decode c 181) zeq206).trans (by decide +kernel)
theorem d206_182 : decode (zB 206) 182 = .ok (.iload_n 3, 1) := (congrArg (fun c => decode c 182) zeq206).trans (by decide +kernel)
theorem d206_183 : decode (zB 206) 183 = .ok (.putfield 63, 3) := (congrArg (fun c => decode c 183) zeq206).trans (by decide +kernel)
theorem d206_186 : decode (zB 206) 186 = .ok (.aload_n 0, 1) := (congrArg (fun c => decode c 186) zeq206).trans (by decide +kernel)
theorem d206_187 : decode (zB 206) 187 = .ok (.iload 6, 2) := (congrArg (fun c => decode c 187) zeq206).trans (by decide +kernel)
theorem d206_189 : decode (zB 206) 189 = .ok (.putfield 311, 3) := (congrArg (fun c => decode c 189) zeq206).trans (by decide +kernel)
theorem d206_192 : decode (zB 206) 192 = .ok (.aload_n 0, 1) := (congrArg (fun c => decode c 192) zeq206).trans (by decide +kernel)
theorem d206_193 : decode (zB 206) 193 = .ok (.iload_n 1, 1) := (congrArg (fun c => decode c 193) zeq206).trans (by decide +kernel)
theorem d206_194 : decode (zB 206) 194 = .ok (.iload_n 2, 1) := (congrArg (fun c => decode c 194) zeq206).trans (by decide +kernel)
theorem d206_195 : decode (zB 206) 195 = .ok (.iload 4, 2) := (congrArg (fun c => decode c 195) zeq206).trans (by decide +kernel)
theorem d206_197 : decode (zB 206) 197 = .ok (.sipush 200, 3) := (congrArg (fun c => decode c 197) zeq206).trans (by decide +kernel)
theorem d206_200 : decode (zB 206) 200 = .ok (.if_icmp .lt 7, 3) := (congrArg (fun c => decode c 200) zeq206).trans (by decide +kernel)
theorem d206_203 : decode (zB 206) 203 = .ok (.iconst 1, 1) := (congrArg (fun c => decode c 203) zeq206).trans (by decide +kernel)
theorem d206_204 : decode (zB 206) 204 = .ok (.goto 4, 3) := (congrArg (fun c => decode c 204) zeq206).trans (by decide +kernel)
theorem d206_207 : decode (zB 206) 207 = .ok (.iconst 0, 1) := (congrArg (fun c => decode c 207) zeq206).trans (by decide +kernel)
theorem d206_208 : decode (zB 206) 208 = .ok (.invokevirtual 395, 3) := (congrArg (fun c => decode c 208) zeq206).trans (by decide +kernel)
theorem d206_211 : decode (zB 206) 211 = .ok (.ireturn, 1) := (congrArg (fun c => decode c 211) zeq206).trans (by decide +kernel)
theorem d206_212 : decode (zB 206) 212 = .ok (.iconst 0, 1) := (congrArg (fun c => decode c 212) zeq206).trans (by decide +kernel)
theorem d206_213 : decode (zB 206) 213 = .ok (.istore 7, 2) := (congrArg (fun c => decode c 213) zeq206).trans (by decide +kernel)
theorem d206_215 : decode (zB 206) 215 = .ok (.iconst 0, 1) := (congrArg (fun c => decode c 215) zeq206).trans (by decide +kernel)
theorem d206_216 : decode (zB 206) 216 = .ok (.istore 8, 2) := (congrArg (fun c => decode c 216) zeq206).trans (by decide +kernel)
theorem d206_218 : decode (zB 206) 218 = .ok (.iload 8, 2) := (congrArg (fun c => decode c 218) zeq206).trans (by decide +kernel)
theorem d206_220 : decode (zB 206) 220 = .ok (.bipush 6, 2) := (congrArg (fun c => decode c 220) zeq206).trans (by decide +kernel)
theorem d206_222 : decode (zB 206) 222 = .ok (.if_icmp .ge 29, 3) := (congrArg (fun c => decode c 222) zeq206).trans (by decide +kernel)
theorem d206_225 : decode (zB 206) 225 = .ok (.aload_n 0, 1) := (congrArg (fun c => decode c 225) zeq206).trans (by decide +kernel)
theorem d206_226 : decode (zB 206) 226 = .ok (.iload_n 1, 1) := (congrArg (fun c => decode c 226) zeq206).trans (by decide +kernel)
theorem d206_227 : decode (zB 206) 227 = .ok (.iload 8, 2) := (congrArg (fun c => decode c 227) zeq206).trans (by decide +kernel)
theorem d206_229 : decode (zB 206) 229 = .ok (.invokevirtual 389, 3) := (congrArg (fun c => decode c 229) zeq206).trans (by decide +kernel)
theorem d206_232 : decode (zB 206) 232 = .ok (.iconst (-1), 1) := (congrArg (fun c => decode c 232) zeq206).trans (by decide +kernel)
theorem d206_233 : decode (zB 206) 233 = .ok (.if_icmp .ne 12, 3) := (congrArg (fun c => decode c 233) zeq206).trans (by decide +kernel)
theorem d206_236 : decode (zB 206) 236 = .ok (.iload 7, 2) := (congrArg (fun c => decode c 236) zeq206).trans (by decide +kernel)
theorem d206_238 : decode (zB 206) 238 = .ok (.iconst 1, 1) := (congrArg (fun c => decode c 238) zeq206).trans (by decide +kernel)
theorem d206_239 : decode (zB 206) 239 = .ok (.iload 8, 2) := (congrArg (fun c => decode c 239) zeq206).trans (by decide +kernel)
theorem d206_241 : decode (zB 206) 241 = .ok (.ishl, 1) := (congrArg (fun c => decode c 241) zeq206).trans (by decide +kernel)
theorem d206_242 : decode (zB 206) 242 = .ok (.ior, 1) := (congrArg (fun c => decode c 242) zeq206).trans (by decide +kernel)
theorem d206_243 : decode (zB 206) 243 = .ok (.istore 7, 2) := (congrArg (fun c => decode c 243) zeq206).trans (by decide +kernel)
theorem d206_245 : decode (zB 206) 245 = .ok (.iinc 8 1, 3) := (congrArg (fun c => decode c 245) zeq206).trans (by decide +kernel)
theorem d206_248 : decode (zB 206) 248 = .ok (.goto (-30), 3) := (congrArg (fun c => decode c 248) zeq206).trans (by decide +kernel)
theorem d206_251 : decode (zB 206) 251 = .ok (.iload 7, 2) := (congrArg (fun c => decode c 251) zeq206).trans (by decide +kernel)
theorem d206_253 : decode (zB 206) 253 = .ok (.ireturn, 1) := (congrArg (fun c => decode c 253) zeq206).trans (by decide +kernel)
theorem l206 {d : Nat} {Q : Option Value → zM → Prop} {D : yD} {M0 : zM} {h κ : Nat} {v2 v3 v4 v5 v6 : Int32} (hκ : κ + 4000 < 2147483648) (hh : h < 4) (hz : (dR D h).2 ≤ 20) (k : ∀ v M', RX M' D κ → Fi FY M0 M' → Q (some (.int v)) M') : ∀ (r i : Nat) (M1 : zM) (z : Nat), i ≤ 6 → 6 < i + r →  RX M1 D κ → Fi FY M0 M1 → qW (zEv (d + 8)) 206 Q 218 [(8, .int (nI i)), (7, .int (nI z)), (6, .int v6), (5, .int v5), (0, .ref 136), (1, .int (nI h)), (2, .int v2), (3, .int v3), (4, .int v4)] [] M1 := by
  intro r
  induction r with
  | zero => intros; omega
  | succ r ih =>
    intro i M1 z h1 h2 hR hF
    refine q_iload d206_218 rfl ?_
    refine q_bipush (x := nI 6) d206_220 rfl ?_
    refine nc_ge 251 d206_222 (by decide) (by omega) (by omega) (fun h222 => ?_) (fun h222 => ?_)
    · refine q_iload d206_251 rfl ?_
      refine q_iret d206_253 rfl ?_
      exact k _ _ hR hF
    · refine q_aload_n d206_225 rfl ?_
      refine q_iload_n d206_226 rfl ?_
      refine q_iload d206_227 rfl ?_
      refine q_v2 d206_229 rfl rfl (xk_136 hR.1.1) (Nat.le_of_ble_eq_true rfl) (c208 hR.q hκ hh (by omega) hz (fun v9 M2 hR2 f2 => ?_))
      refine q_iconst (x := (-1)) d206_232 rfl ?_
      refine ic_ne 245 d206_233 (by decide) (fun h233 => ?_) (fun h233 => ?_)
      · refine n_iinc 1 d206_245 (by decide) rfl rfl ?_
        refine q_goto 218 d206_248 (by decide) ?_
        exact ih (i + 1) M2 _ (by omega) (by omega) hR2.x (hF.trans f2)
      · refine q_iload d206_236 rfl ?_
        refine q_iconstN (z := 1) d206_238 ?_
        refine q_iload d206_239 rfl ?_
        refine n_ishl1 d206_241 (by omega) ?_
        refine n_ior d206_242 ?_
        refine q_istore d206_243 (by decide) rfl ?_
        refine n_iinc 1 d206_245 (by decide) rfl rfl ?_
        refine q_goto 218 d206_248 (by decide) ?_
        exact ih (i + 1) M2 _ (by omega) (by omega) hR2.x (hF.trans f2)
theorem x206 {d : Nat} {M : zM} {Q : Option Value → zM → Prop} {D : yD} {κ : Nat} {x y z w : Int32} (hR : RX M D κ) (hD : OKD D) (hκ : κ + 4000 < 2147483648) (k : ∀ v M', RX M' D κ → Fi FY M M' → Q (some (.int v)) M') : qC (d + 9) 206 [.ref 136, .int x, .int y, .int z, .int w] M Q := by
  refine qC_of (by decide) (Nat.le_of_ble_eq_true rfl) ?_
  have hC := hR.1
  have hX := hC.1
  have hO : OKW (dT D) (dc D) (dW D) := hC.2.2.1
  have hc6 := hO.1.1
  have hL : XLo [] M (some (dL D)) := hC.2.2.2.2.2.2.1
  have hSa : ∀ s, s < 3 → XSa M s (dS D s) κ := hC.2.2.2.2.1
  have hTk := hC.k
  have hck := hC.2.2.2.2.2.1
  rcases zix_c x (n := 4) (by omega) with ⟨h, hh, rfl, eh⟩ | ⟨eh, nh⟩
  · have _u := eh
    rcases zix_c y (n := 6) (by omega) with ⟨a, ha, rfl, ea⟩ | ⟨ea, na⟩
    · have _u := ea
      rcases zix_c z (n := 3) (by omega) with ⟨s, hs, rfl, es⟩ | ⟨es, ns⟩
      · have _u := es
        have hOs : OKS (dT D) (dc D) (dS D s) := hO.2.2 s hs
        have hg5 := hOs.1
        have hsa := hSa s hs
        rcases zix_c w (n := 212) (by omega) with ⟨m, hm, rfl, ew⟩ | ⟨ew, nw⟩
        · by_cases q1 : 100 ≤ m ∧ m ≤ 111
          · refine q_iload d206_0 rfl ?_
            refine q_bipush (x := nI 100) d206_2 rfl ?_
            refine q_bipush (x := nI 111) d206_4 rfl ?_
            refine q_s3 d206_6 (Or.inl rfl) rfl (Nat.le_of_ble_eq_true rfl) (c131t ⟨by omega, by omega⟩ (by omega) ?_)
            refine n0_ne 26 d206_9 (by decide) (by decide) (fun _ => ?_) (fun q => absurd q (by decide))
            refine q_iconstN (z := 1) d206_26 ?_
            refine q_goto 31 d206_27 (by decide) ?_
            refine q_istore d206_31 (by decide) rfl ?_
            refine q_iload_n d206_33 rfl ?_
            refine q_s1 d206_34 (Or.inl rfl) rfl (Nat.le_of_ble_eq_true rfl) (c207t (by omega) ?_)
            refine n0_eq 69 d206_37 (by decide) (by decide) (fun q => absurd q (by decide)) (fun _ => ?_)
            refine q_iload_n d206_40 rfl ?_
            refine q_s1 d206_41 (Or.inl rfl) rfl (Nat.le_of_ble_eq_true rfl) (c189t (by omega) ?_)
            refine n0_eq 69 d206_44 (by decide) (by decide) (fun q => absurd q (by decide)) (fun _ => ?_)
            refine q_iload_n d206_47 rfl ?_
            refine q_s1 d206_48 (Or.inl rfl) rfl (Nat.le_of_ble_eq_true rfl) (c169t (by omega) ?_)
            refine n0_eq 69 d206_51 (by decide) (by decide) (fun q => absurd q (by decide)) (fun _ => ?_)
            refine q_iload d206_54 rfl ?_
            refine q_iconstN (z := 0) d206_56 ?_
            refine q_iconstN (z := 1) d206_57 ?_
            refine q_s3 d206_58 (Or.inl rfl) rfl (Nat.le_of_ble_eq_true rfl) (c131n (by omega) (by omega) (by omega) (by omega) ?_)
            refine n0_ne 72 d206_61 (by decide) (by decide) (fun q => absurd q (by decide)) (fun _ => ?_)
            refine q_iload d206_64 rfl ?_
            refine n0_ne 72 d206_66 (by decide) (by decide) (fun _ => ?_) (fun q => absurd q (by decide))
            refine q_iload d206_72 rfl ?_
            refine q_bipush (x := nI 100) d206_74 rfl ?_
            refine n_irem d206_76 (by omega) (by omega) (by omega) ?_
            refine q_istore d206_77 (by decide) rfl ?_
            refine q_iload d206_79 rfl ?_
            refine n0_eq 96 d206_81 (by decide) (by decide) (fun q => absurd q (by decide)) (fun _ => ?_)
            refine q_aload_n d206_84 rfl ?_
            refine q_getr (c := 8) (f := 11) d206_85 ⟨rfl, rfl⟩ (xk_136 hX) (xf_states hX) ?_
            refine q_iload_n d206_88 rfl ?_
            refine n_iald d206_89 (xk_states hX) (by omega) (by decide) (hSa _ (by omega)).1.1 ?_
            refine n0_ne 96 d206_90 (by decide) (by omega) (fun h90 => ?_) (fun h90 => ?_)
            · have h0 : gt (dS D s) ≠ 0 := h90
              have hx : gx (dS D s) < dc D := hOs.2.1 h0
              have hn := (hO.1.2 _ hx).n
              have hx1 : zi M 176 s = nI (gx (dS D s)) := hsa.1.2.trans (if_neg h0)
              refine q_iload d206_96 rfl ?_
              refine n0_eq 138 d206_98 (by decide) (by decide) (fun q => absurd q (by decide)) (fun _ => ?_)
              refine q_iload d206_101 rfl ?_
              refine q_aload_n d206_103 rfl ?_
              refine q_getr (c := 8) (f := 1) d206_104 ⟨rfl, rfl⟩ (xk_136 hX) (xf_stepMany hX) ?_
              refine q_aload_n d206_107 rfl ?_
              refine q_getr (c := 8) (f := 12) d206_108 ⟨rfl, rfl⟩ (xk_136 hX) (xf_textOf hX) ?_
              refine q_iload_n d206_111 rfl ?_
              refine n_iald d206_112 (xk_textOf hX) (by omega) (by decide) hx1 ?_
              refine n_iald d206_113 (xk_stepMany hX) (by omega) (by decide) (hTk.1 _ (by omega)).1 ?_
              refine nc_ge 135 d206_114 (by decide) (by omega) (by omega) (fun h114 => ?_) (fun h114 => ?_)
              · refine q_bipush (x := (-2)) d206_135 rfl ?_
                refine q_iret d206_137 rfl ?_
                exact k _ _ hR (Fi.refl _ _)
              · have hst : m % 100 < tn (dT D (gx (dS D s))) := by omega
                refine q_aload_n d206_117 rfl ?_
                refine q_getr (c := 8) (f := 6) d206_118 ⟨rfl, rfl⟩ (xk_136 hX) (xf_numbers hX) ?_
                refine q_aload_n d206_121 rfl ?_
                refine q_getr (c := 8) (f := 12) d206_122 ⟨rfl, rfl⟩ (xk_136 hX) (xf_textOf hX) ?_
                refine q_iload_n d206_125 rfl ?_
                refine n_iald d206_126 (xk_textOf hX) (by omega) (by decide) hx1 ?_
                refine n_aald d206_127 (xk_numbers hX) (by decide) (by omega) (by decide) (xr_numbers hX (by omega)) ?_
                refine q_iload d206_128 rfl ?_
                refine n_iald d206_130 (xa_numbers hX (by omega)) (by omega) (by decide) ((hTk.1 _ hx).2.2 _ hst).2.2.2.1 ?_
                refine q_iconst (x := (-1)) d206_131 rfl ?_
                refine ic_ne 138 d206_132 (by decide) (fun h132 => ?_) (fun h132 => ?_)
                · refine q_aload_n d206_138 rfl ?_
                  refine q_getr (c := 8) (f := 45) d206_139 ⟨rfl, rfl⟩ (xk_136 hX) (xf_sorts hX) ?_
                  refine q_iload_n d206_142 rfl ?_
                  refine n_iald d206_143 (xk_sorts hX) (by omega) (by decide) (hR.2.2.2.2 _ (by omega)).1 ?_
                  refine i0_ge 150 d206_144 (by decide) (fun h144 => ?_) (fun h144 => ?_)
                  · have hz40 := (hD.2.2.2.2 h hh).1
                    refine q_aload_n d206_150 rfl ?_
                    refine q_getr (c := 8) (f := 46) d206_151 ⟨rfl, rfl⟩ (xk_136 hX) (xf_lengths hX) ?_
                    refine q_iload_n d206_154 rfl ?_
                    refine n_iald d206_155 (xk_lengths hX) (by omega) (by decide) (hR.2.2.2.2 _ (by omega)).2 ?_
                    refine q_bipush (x := nI 20) d206_156 rfl ?_
                    refine nc_le 164 d206_158 (by decide) (by omega) (by omega) (fun h158 => ?_) (fun h158 => ?_)
                    · refine q_iload d206_164 rfl ?_
                      refine n0_ne 176 d206_166 (by decide) (by omega) (fun h166 => ?_) (fun h166 => (False.elim (by omega)))
                      refine q_iload d206_176 rfl ?_
                      refine n0_eq 212 d206_178 (by decide) (by decide) (fun q => absurd q (by decide)) (fun _ => ?_)
                      refine q_aload_n d206_181 rfl ?_
                      refine q_iload_n d206_182 rfl ?_
                      refine q_puti (c := 8) (f := 21) d206_183 ⟨rfl, rfl, by decide⟩ (xk_136 hX) ?_
                      refine q_aload_n d206_186 rfl ?_
                      refine q_iload d206_187 rfl ?_
                      refine q_puti (c := 8) (f := 22) d206_189 ⟨rfl, rfl, by decide⟩ (xk_136 hX) ?_
                      have fo : Fi (fun b k => b = 136 ∧ (k = 21 ∨ k = 22 ∨ k = 23)) M (zwi (zwi M 136 21 (nI s)) 136 22 (nI (m % 100))) := ((Fi.refl _ _).wi ⟨rfl, Or.inl rfl⟩).wi ⟨rfl, Or.inr (Or.inl rfl)⟩
                      have ho : RQ (zwi (zwi M 136 21 (nI s)) 136 22 (nI (m % 100))) D κ (some (s, m % 100, zi M 136 23)) := hR.q.to fo ⟨(wi_n (by omega)).trans (wi_s _ _ _ _), wi_s _ _ _ _, (wi_n (by omega)).trans (wi_n (by omega)), hs, (show m % 100 < 12 from by omega)⟩
                      refine q_aload_n d206_192 rfl ?_
                      refine q_iload_n d206_193 rfl ?_
                      refine q_iload_n d206_194 rfl ?_
                      refine q_iload d206_195 rfl ?_
                      refine q_sipush (x := nI 200) d206_197 rfl ?_
                      refine nc_lt 207 d206_200 (by decide) (by omega) (by omega) (fun h200 => ?_) (fun h200 => (False.elim (by omega)))
                      refine q_iconstN (z := 0) d206_207 ?_
                      refine q_v3 d206_208 rfl rfl (xk_136 ho.1.1) (Nat.le_of_ble_eq_true rfl) (c209 ho hκ hh ha hs (by omega) (by omega) (fun v9 M2 hR2 f2 => ?_))
                      refine q_iret d206_211 rfl ?_
                      exact k _ _ hR2 ((fo.mono (fun b k q => by unfold FY; omega)).trans f2)
                    · refine q_bipush (x := (-2)) d206_161 rfl ?_
                      refine q_iret d206_163 rfl ?_
                      exact k _ _ hR (Fi.refl _ _)
                  · refine q_bipush (x := (-11)) d206_147 rfl ?_
                    refine q_iret d206_149 rfl ?_
                    exact k _ _ hR (Fi.refl _ _)
                · refine q_bipush (x := (-2)) d206_135 rfl ?_
                  refine q_iret d206_137 rfl ?_
                  exact k _ _ hR (Fi.refl _ _)
            · refine q_bipush (x := (-3)) d206_93 rfl ?_
              refine q_iret d206_95 rfl ?_
              exact k _ _ hR (Fi.refl _ _)
          · by_cases q2 : 200 ≤ m ∧ m ≤ 211
            · refine q_iload d206_0 rfl ?_
              refine q_bipush (x := nI 100) d206_2 rfl ?_
              refine q_bipush (x := nI 111) d206_4 rfl ?_
              refine q_s3 d206_6 (Or.inl rfl) rfl (Nat.le_of_ble_eq_true rfl) (c131n (by omega) (by omega) (by omega) (by omega) ?_)
              refine n0_ne 26 d206_9 (by decide) (by decide) (fun q => absurd q (by decide)) (fun _ => ?_)
              refine q_iload d206_12 rfl ?_
              refine q_sipush (x := nI 200) d206_14 rfl ?_
              refine q_sipush (x := nI 211) d206_17 rfl ?_
              refine q_s3 d206_20 (Or.inl rfl) rfl (Nat.le_of_ble_eq_true rfl) (c131t ⟨by omega, by omega⟩ (by omega) ?_)
              refine n0_eq 30 d206_23 (by decide) (by decide) (fun q => absurd q (by decide)) (fun _ => ?_)
              refine q_iconstN (z := 1) d206_26 ?_
              refine q_goto 31 d206_27 (by decide) ?_
              refine q_istore d206_31 (by decide) rfl ?_
              refine q_iload_n d206_33 rfl ?_
              refine q_s1 d206_34 (Or.inl rfl) rfl (Nat.le_of_ble_eq_true rfl) (c207t (by omega) ?_)
              refine n0_eq 69 d206_37 (by decide) (by decide) (fun q => absurd q (by decide)) (fun _ => ?_)
              refine q_iload_n d206_40 rfl ?_
              refine q_s1 d206_41 (Or.inl rfl) rfl (Nat.le_of_ble_eq_true rfl) (c189t (by omega) ?_)
              refine n0_eq 69 d206_44 (by decide) (by decide) (fun q => absurd q (by decide)) (fun _ => ?_)
              refine q_iload_n d206_47 rfl ?_
              refine q_s1 d206_48 (Or.inl rfl) rfl (Nat.le_of_ble_eq_true rfl) (c169t (by omega) ?_)
              refine n0_eq 69 d206_51 (by decide) (by decide) (fun q => absurd q (by decide)) (fun _ => ?_)
              refine q_iload d206_54 rfl ?_
              refine q_iconstN (z := 0) d206_56 ?_
              refine q_iconstN (z := 1) d206_57 ?_
              refine q_s3 d206_58 (Or.inl rfl) rfl (Nat.le_of_ble_eq_true rfl) (c131n (by omega) (by omega) (by omega) (by omega) ?_)
              refine n0_ne 72 d206_61 (by decide) (by decide) (fun q => absurd q (by decide)) (fun _ => ?_)
              refine q_iload d206_64 rfl ?_
              refine n0_ne 72 d206_66 (by decide) (by decide) (fun _ => ?_) (fun q => absurd q (by decide))
              refine q_iload d206_72 rfl ?_
              refine q_bipush (x := nI 100) d206_74 rfl ?_
              refine n_irem d206_76 (by omega) (by omega) (by omega) ?_
              refine q_istore d206_77 (by decide) rfl ?_
              refine q_iload d206_79 rfl ?_
              refine n0_eq 96 d206_81 (by decide) (by decide) (fun q => absurd q (by decide)) (fun _ => ?_)
              refine q_aload_n d206_84 rfl ?_
              refine q_getr (c := 8) (f := 11) d206_85 ⟨rfl, rfl⟩ (xk_136 hX) (xf_states hX) ?_
              refine q_iload_n d206_88 rfl ?_
              refine n_iald d206_89 (xk_states hX) (by omega) (by decide) (hSa _ (by omega)).1.1 ?_
              refine n0_ne 96 d206_90 (by decide) (by omega) (fun h90 => ?_) (fun h90 => ?_)
              · have h0 : gt (dS D s) ≠ 0 := h90
                have hx : gx (dS D s) < dc D := hOs.2.1 h0
                have hn := (hO.1.2 _ hx).n
                have hx1 : zi M 176 s = nI (gx (dS D s)) := hsa.1.2.trans (if_neg h0)
                refine q_iload d206_96 rfl ?_
                refine n0_eq 138 d206_98 (by decide) (by decide) (fun q => absurd q (by decide)) (fun _ => ?_)
                refine q_iload d206_101 rfl ?_
                refine q_aload_n d206_103 rfl ?_
                refine q_getr (c := 8) (f := 1) d206_104 ⟨rfl, rfl⟩ (xk_136 hX) (xf_stepMany hX) ?_
                refine q_aload_n d206_107 rfl ?_
                refine q_getr (c := 8) (f := 12) d206_108 ⟨rfl, rfl⟩ (xk_136 hX) (xf_textOf hX) ?_
                refine q_iload_n d206_111 rfl ?_
                refine n_iald d206_112 (xk_textOf hX) (by omega) (by decide) hx1 ?_
                refine n_iald d206_113 (xk_stepMany hX) (by omega) (by decide) (hTk.1 _ (by omega)).1 ?_
                refine nc_ge 135 d206_114 (by decide) (by omega) (by omega) (fun h114 => ?_) (fun h114 => ?_)
                · refine q_bipush (x := (-2)) d206_135 rfl ?_
                  refine q_iret d206_137 rfl ?_
                  exact k _ _ hR (Fi.refl _ _)
                · have hst : m % 100 < tn (dT D (gx (dS D s))) := by omega
                  refine q_aload_n d206_117 rfl ?_
                  refine q_getr (c := 8) (f := 6) d206_118 ⟨rfl, rfl⟩ (xk_136 hX) (xf_numbers hX) ?_
                  refine q_aload_n d206_121 rfl ?_
                  refine q_getr (c := 8) (f := 12) d206_122 ⟨rfl, rfl⟩ (xk_136 hX) (xf_textOf hX) ?_
                  refine q_iload_n d206_125 rfl ?_
                  refine n_iald d206_126 (xk_textOf hX) (by omega) (by decide) hx1 ?_
                  refine n_aald d206_127 (xk_numbers hX) (by decide) (by omega) (by decide) (xr_numbers hX (by omega)) ?_
                  refine q_iload d206_128 rfl ?_
                  refine n_iald d206_130 (xa_numbers hX (by omega)) (by omega) (by decide) ((hTk.1 _ hx).2.2 _ hst).2.2.2.1 ?_
                  refine q_iconst (x := (-1)) d206_131 rfl ?_
                  refine ic_ne 138 d206_132 (by decide) (fun h132 => ?_) (fun h132 => ?_)
                  · refine q_aload_n d206_138 rfl ?_
                    refine q_getr (c := 8) (f := 45) d206_139 ⟨rfl, rfl⟩ (xk_136 hX) (xf_sorts hX) ?_
                    refine q_iload_n d206_142 rfl ?_
                    refine n_iald d206_143 (xk_sorts hX) (by omega) (by decide) (hR.2.2.2.2 _ (by omega)).1 ?_
                    refine i0_ge 150 d206_144 (by decide) (fun h144 => ?_) (fun h144 => ?_)
                    · have hz40 := (hD.2.2.2.2 h hh).1
                      refine q_aload_n d206_150 rfl ?_
                      refine q_getr (c := 8) (f := 46) d206_151 ⟨rfl, rfl⟩ (xk_136 hX) (xf_lengths hX) ?_
                      refine q_iload_n d206_154 rfl ?_
                      refine n_iald d206_155 (xk_lengths hX) (by omega) (by decide) (hR.2.2.2.2 _ (by omega)).2 ?_
                      refine q_bipush (x := nI 20) d206_156 rfl ?_
                      refine nc_le 164 d206_158 (by decide) (by omega) (by omega) (fun h158 => ?_) (fun h158 => ?_)
                      · refine q_iload d206_164 rfl ?_
                        refine n0_ne 176 d206_166 (by decide) (by omega) (fun h166 => ?_) (fun h166 => (False.elim (by omega)))
                        refine q_iload d206_176 rfl ?_
                        refine n0_eq 212 d206_178 (by decide) (by decide) (fun q => absurd q (by decide)) (fun _ => ?_)
                        refine q_aload_n d206_181 rfl ?_
                        refine q_iload_n d206_182 rfl ?_
                        refine q_puti (c := 8) (f := 21) d206_183 ⟨rfl, rfl, by decide⟩ (xk_136 hX) ?_
                        refine q_aload_n d206_186 rfl ?_
                        refine q_iload d206_187 rfl ?_
                        refine q_puti (c := 8) (f := 22) d206_189 ⟨rfl, rfl, by decide⟩ (xk_136 hX) ?_
                        have fo : Fi (fun b k => b = 136 ∧ (k = 21 ∨ k = 22 ∨ k = 23)) M (zwi (zwi M 136 21 (nI s)) 136 22 (nI (m % 100))) := ((Fi.refl _ _).wi ⟨rfl, Or.inl rfl⟩).wi ⟨rfl, Or.inr (Or.inl rfl)⟩
                        have ho : RQ (zwi (zwi M 136 21 (nI s)) 136 22 (nI (m % 100))) D κ (some (s, m % 100, zi M 136 23)) := hR.q.to fo ⟨(wi_n (by omega)).trans (wi_s _ _ _ _), wi_s _ _ _ _, (wi_n (by omega)).trans (wi_n (by omega)), hs, (show m % 100 < 12 from by omega)⟩
                        refine q_aload_n d206_192 rfl ?_
                        refine q_iload_n d206_193 rfl ?_
                        refine q_iload_n d206_194 rfl ?_
                        refine q_iload d206_195 rfl ?_
                        refine q_sipush (x := nI 200) d206_197 rfl ?_
                        refine nc_lt 207 d206_200 (by decide) (by omega) (by omega) (fun h200 => (False.elim (by omega))) (fun h200 => ?_)
                        refine q_iconstN (z := 1) d206_203 ?_
                        refine q_goto 208 d206_204 (by decide) ?_
                        refine q_v3 d206_208 rfl rfl (xk_136 ho.1.1) (Nat.le_of_ble_eq_true rfl) (c209 ho hκ hh ha hs (by omega) (by omega) (fun v9 M2 hR2 f2 => ?_))
                        refine q_iret d206_211 rfl ?_
                        exact k _ _ hR2 ((fo.mono (fun b k q => by unfold FY; omega)).trans f2)
                      · refine q_bipush (x := (-2)) d206_161 rfl ?_
                        refine q_iret d206_163 rfl ?_
                        exact k _ _ hR (Fi.refl _ _)
                    · refine q_bipush (x := (-11)) d206_147 rfl ?_
                      refine q_iret d206_149 rfl ?_
                      exact k _ _ hR (Fi.refl _ _)
                  · refine q_bipush (x := (-2)) d206_135 rfl ?_
                    refine q_iret d206_137 rfl ?_
                    exact k _ _ hR (Fi.refl _ _)
              · refine q_bipush (x := (-3)) d206_93 rfl ?_
                refine q_iret d206_95 rfl ?_
                exact k _ _ hR (Fi.refl _ _)
            · by_cases q3 : m ≤ 1
              · refine q_iload d206_0 rfl ?_
                refine q_bipush (x := nI 100) d206_2 rfl ?_
                refine q_bipush (x := nI 111) d206_4 rfl ?_
                refine q_s3 d206_6 (Or.inl rfl) rfl (Nat.le_of_ble_eq_true rfl) (c131n (by omega) (by omega) (by omega) (by omega) ?_)
                refine n0_ne 26 d206_9 (by decide) (by decide) (fun q => absurd q (by decide)) (fun _ => ?_)
                refine q_iload d206_12 rfl ?_
                refine q_sipush (x := nI 200) d206_14 rfl ?_
                refine q_sipush (x := nI 211) d206_17 rfl ?_
                refine q_s3 d206_20 (Or.inl rfl) rfl (Nat.le_of_ble_eq_true rfl) (c131n (by omega) (by omega) (by omega) (by omega) ?_)
                refine n0_eq 30 d206_23 (by decide) (by decide) (fun _ => ?_) (fun q => absurd q (by decide))
                refine q_iconstN (z := 0) d206_30 ?_
                refine q_istore d206_31 (by decide) rfl ?_
                refine q_iload_n d206_33 rfl ?_
                refine q_s1 d206_34 (Or.inl rfl) rfl (Nat.le_of_ble_eq_true rfl) (c207t (by omega) ?_)
                refine n0_eq 69 d206_37 (by decide) (by decide) (fun q => absurd q (by decide)) (fun _ => ?_)
                refine q_iload_n d206_40 rfl ?_
                refine q_s1 d206_41 (Or.inl rfl) rfl (Nat.le_of_ble_eq_true rfl) (c189t (by omega) ?_)
                refine n0_eq 69 d206_44 (by decide) (by decide) (fun q => absurd q (by decide)) (fun _ => ?_)
                refine q_iload_n d206_47 rfl ?_
                refine q_s1 d206_48 (Or.inl rfl) rfl (Nat.le_of_ble_eq_true rfl) (c169t (by omega) ?_)
                refine n0_eq 69 d206_51 (by decide) (by decide) (fun q => absurd q (by decide)) (fun _ => ?_)
                refine q_iload d206_54 rfl ?_
                refine q_iconstN (z := 0) d206_56 ?_
                refine q_iconstN (z := 1) d206_57 ?_
                refine q_s3 d206_58 (Or.inl rfl) rfl (Nat.le_of_ble_eq_true rfl) (c131t ⟨by omega, by omega⟩ (by omega) ?_)
                refine n0_ne 72 d206_61 (by decide) (by decide) (fun _ => ?_) (fun q => absurd q (by decide))
                refine q_iload d206_72 rfl ?_
                refine q_bipush (x := nI 100) d206_74 rfl ?_
                refine n_irem d206_76 (by omega) (by omega) (by omega) ?_
                refine q_istore d206_77 (by decide) rfl ?_
                refine q_iload d206_79 rfl ?_
                refine n0_eq 96 d206_81 (by decide) (by decide) (fun _ => ?_) (fun q => absurd q (by decide))
                refine q_iload d206_96 rfl ?_
                refine n0_eq 138 d206_98 (by decide) (by decide) (fun _ => ?_) (fun q => absurd q (by decide))
                refine q_aload_n d206_138 rfl ?_
                refine q_getr (c := 8) (f := 45) d206_139 ⟨rfl, rfl⟩ (xk_136 hX) (xf_sorts hX) ?_
                refine q_iload_n d206_142 rfl ?_
                refine n_iald d206_143 (xk_sorts hX) (by omega) (by decide) (hR.2.2.2.2 _ (by omega)).1 ?_
                refine i0_ge 150 d206_144 (by decide) (fun h144 => ?_) (fun h144 => ?_)
                · have hz40 := (hD.2.2.2.2 h hh).1
                  refine q_aload_n d206_150 rfl ?_
                  refine q_getr (c := 8) (f := 46) d206_151 ⟨rfl, rfl⟩ (xk_136 hX) (xf_lengths hX) ?_
                  refine q_iload_n d206_154 rfl ?_
                  refine n_iald d206_155 (xk_lengths hX) (by omega) (by decide) (hR.2.2.2.2 _ (by omega)).2 ?_
                  refine q_bipush (x := nI 20) d206_156 rfl ?_
                  refine nc_le 164 d206_158 (by decide) (by omega) (by omega) (fun h158 => ?_) (fun h158 => ?_)
                  · refine q_iload d206_164 rfl ?_
                    refine n0_ne 176 d206_166 (by decide) (by omega) (fun h166 => ?_) (fun h166 => ?_)
                    · refine q_iload d206_176 rfl ?_
                      refine n0_eq 212 d206_178 (by decide) (by decide) (fun _ => ?_) (fun q => absurd q (by decide))
                      refine q_iconstN (z := 0) d206_212 ?_
                      refine q_istore d206_213 (by decide) rfl ?_
                      refine q_iconstN (z := 0) d206_215 ?_
                      refine q_istore d206_216 (by decide) rfl ?_
                      exact l206 hκ hh (by omega) k 7 0 M _ (by omega) (by omega) hR (Fi.refl _ _)
                    · refine q_aload_n d206_169 rfl ?_
                      refine q_iload_n d206_170 rfl ?_
                      refine q_iload_n d206_171 rfl ?_
                      refine q_v2 d206_172 rfl rfl (xk_136 hX) (Nat.le_of_ble_eq_true rfl) (c208 hR.q hκ hh ha (by omega) (fun v9 M2 hR2 f2 => ?_))
                      refine q_iret d206_175 rfl ?_
                      exact k _ _ hR2.x f2
                  · refine q_bipush (x := (-2)) d206_161 rfl ?_
                    refine q_iret d206_163 rfl ?_
                    exact k _ _ hR (Fi.refl _ _)
                · refine q_bipush (x := (-11)) d206_147 rfl ?_
                  refine q_iret d206_149 rfl ?_
                  exact k _ _ hR (Fi.refl _ _)
              · refine q_iload d206_0 rfl ?_
                refine q_bipush (x := nI 100) d206_2 rfl ?_
                refine q_bipush (x := nI 111) d206_4 rfl ?_
                refine q_s3 d206_6 (Or.inl rfl) rfl (Nat.le_of_ble_eq_true rfl) (c131n (by omega) (by omega) (by omega) (by omega) ?_)
                refine n0_ne 26 d206_9 (by decide) (by decide) (fun q => absurd q (by decide)) (fun _ => ?_)
                refine q_iload d206_12 rfl ?_
                refine q_sipush (x := nI 200) d206_14 rfl ?_
                refine q_sipush (x := nI 211) d206_17 rfl ?_
                refine q_s3 d206_20 (Or.inl rfl) rfl (Nat.le_of_ble_eq_true rfl) (c131n (by omega) (by omega) (by omega) (by omega) ?_)
                refine n0_eq 30 d206_23 (by decide) (by decide) (fun _ => ?_) (fun q => absurd q (by decide))
                refine q_iconstN (z := 0) d206_30 ?_
                refine q_istore d206_31 (by decide) rfl ?_
                refine q_iload_n d206_33 rfl ?_
                refine q_s1 d206_34 (Or.inl rfl) rfl (Nat.le_of_ble_eq_true rfl) (c207t (by omega) ?_)
                refine n0_eq 69 d206_37 (by decide) (by decide) (fun q => absurd q (by decide)) (fun _ => ?_)
                refine q_iload_n d206_40 rfl ?_
                refine q_s1 d206_41 (Or.inl rfl) rfl (Nat.le_of_ble_eq_true rfl) (c189t (by omega) ?_)
                refine n0_eq 69 d206_44 (by decide) (by decide) (fun q => absurd q (by decide)) (fun _ => ?_)
                refine q_iload_n d206_47 rfl ?_
                refine q_s1 d206_48 (Or.inl rfl) rfl (Nat.le_of_ble_eq_true rfl) (c169t (by omega) ?_)
                refine n0_eq 69 d206_51 (by decide) (by decide) (fun q => absurd q (by decide)) (fun _ => ?_)
                refine q_iload d206_54 rfl ?_
                refine q_iconstN (z := 0) d206_56 ?_
                refine q_iconstN (z := 1) d206_57 ?_
                refine q_s3 d206_58 (Or.inl rfl) rfl (Nat.le_of_ble_eq_true rfl) (c131n (by omega) (by omega) (by omega) (by omega) ?_)
                refine n0_ne 72 d206_61 (by decide) (by decide) (fun q => absurd q (by decide)) (fun _ => ?_)
                refine q_iload d206_64 rfl ?_
                refine n0_ne 72 d206_66 (by decide) (by decide) (fun q => absurd q (by decide)) (fun _ => ?_)
                refine q_bipush (x := (-2)) d206_69 rfl ?_
                refine q_iret d206_71 rfl ?_
                exact k _ _ hR (Fi.refl _ _)
        · refine q_iload d206_0 rfl ?_
          refine q_bipush (x := nI 100) d206_2 rfl ?_
          refine q_bipush (x := nI 111) d206_4 rfl ?_
          refine q_s3 d206_6 (Or.inl rfl) rfl (Nat.le_of_ble_eq_true rfl) (c131f (by decide) (by have := zix_none ew; omega) (by decide) ?_)
          refine n0_ne 26 d206_9 (by decide) (by decide) (fun q => absurd q (by decide)) (fun _ => ?_)
          refine q_iload d206_12 rfl ?_
          refine q_sipush (x := nI 200) d206_14 rfl ?_
          refine q_sipush (x := nI 211) d206_17 rfl ?_
          refine q_s3 d206_20 (Or.inl rfl) rfl (Nat.le_of_ble_eq_true rfl) (c131f (by decide) (by have := zix_none ew; omega) (by decide) ?_)
          refine n0_eq 30 d206_23 (by decide) (by decide) (fun _ => ?_) (fun q => absurd q (by decide))
          refine q_iconstN (z := 0) d206_30 ?_
          refine q_istore d206_31 (by decide) rfl ?_
          refine q_iload_n d206_33 rfl ?_
          refine q_s1 d206_34 (Or.inl rfl) rfl (Nat.le_of_ble_eq_true rfl) (c207t (by omega) ?_)
          refine n0_eq 69 d206_37 (by decide) (by decide) (fun q => absurd q (by decide)) (fun _ => ?_)
          refine q_iload_n d206_40 rfl ?_
          refine q_s1 d206_41 (Or.inl rfl) rfl (Nat.le_of_ble_eq_true rfl) (c189t (by omega) ?_)
          refine n0_eq 69 d206_44 (by decide) (by decide) (fun q => absurd q (by decide)) (fun _ => ?_)
          refine q_iload_n d206_47 rfl ?_
          refine q_s1 d206_48 (Or.inl rfl) rfl (Nat.le_of_ble_eq_true rfl) (c169t (by omega) ?_)
          refine n0_eq 69 d206_51 (by decide) (by decide) (fun q => absurd q (by decide)) (fun _ => ?_)
          refine q_iload d206_54 rfl ?_
          refine q_iconstN (z := 0) d206_56 ?_
          refine q_iconstN (z := 1) d206_57 ?_
          refine q_s3 d206_58 (Or.inl rfl) rfl (Nat.le_of_ble_eq_true rfl) (c131f (by decide) (by have := zix_none ew; omega) (by decide) ?_)
          refine n0_ne 72 d206_61 (by decide) (by decide) (fun q => absurd q (by decide)) (fun _ => ?_)
          refine q_iload d206_64 rfl ?_
          refine n0_ne 72 d206_66 (by decide) (by decide) (fun q => absurd q (by decide)) (fun _ => ?_)
          refine q_bipush (x := (-2)) d206_69 rfl ?_
          refine q_iret d206_71 rfl ?_
          exact k _ _ hR (Fi.refl _ _)
      · have _u := es
        rcases zix_c w (n := 212) (by omega) with ⟨m, hm, rfl, ew⟩ | ⟨ew, nw⟩
        · by_cases q1 : 100 ≤ m ∧ m ≤ 111
          · refine q_iload d206_0 rfl ?_
            refine q_bipush (x := nI 100) d206_2 rfl ?_
            refine q_bipush (x := nI 111) d206_4 rfl ?_
            refine q_s3 d206_6 (Or.inl rfl) rfl (Nat.le_of_ble_eq_true rfl) (c131t ⟨by omega, by omega⟩ (by omega) ?_)
            refine n0_ne 26 d206_9 (by decide) (by decide) (fun _ => ?_) (fun q => absurd q (by decide))
            refine q_iconstN (z := 1) d206_26 ?_
            refine q_goto 31 d206_27 (by decide) ?_
            refine q_istore d206_31 (by decide) rfl ?_
            refine q_iload_n d206_33 rfl ?_
            refine q_s1 d206_34 (Or.inl rfl) rfl (Nat.le_of_ble_eq_true rfl) (c207t (by omega) ?_)
            refine n0_eq 69 d206_37 (by decide) (by decide) (fun q => absurd q (by decide)) (fun _ => ?_)
            refine q_iload_n d206_40 rfl ?_
            refine q_s1 d206_41 (Or.inl rfl) rfl (Nat.le_of_ble_eq_true rfl) (c189t (by omega) ?_)
            refine n0_eq 69 d206_44 (by decide) (by decide) (fun q => absurd q (by decide)) (fun _ => ?_)
            refine q_iload_n d206_47 rfl ?_
            refine q_s1 d206_48 (Or.inl rfl) rfl (Nat.le_of_ble_eq_true rfl) (c169f es ?_)
            refine n0_eq 69 d206_51 (by decide) (by decide) (fun _ => ?_) (fun q => absurd q (by decide))
            refine q_bipush (x := (-2)) d206_69 rfl ?_
            refine q_iret d206_71 rfl ?_
            exact k _ _ hR (Fi.refl _ _)
          · by_cases q2 : 200 ≤ m ∧ m ≤ 211
            · refine q_iload d206_0 rfl ?_
              refine q_bipush (x := nI 100) d206_2 rfl ?_
              refine q_bipush (x := nI 111) d206_4 rfl ?_
              refine q_s3 d206_6 (Or.inl rfl) rfl (Nat.le_of_ble_eq_true rfl) (c131n (by omega) (by omega) (by omega) (by omega) ?_)
              refine n0_ne 26 d206_9 (by decide) (by decide) (fun q => absurd q (by decide)) (fun _ => ?_)
              refine q_iload d206_12 rfl ?_
              refine q_sipush (x := nI 200) d206_14 rfl ?_
              refine q_sipush (x := nI 211) d206_17 rfl ?_
              refine q_s3 d206_20 (Or.inl rfl) rfl (Nat.le_of_ble_eq_true rfl) (c131t ⟨by omega, by omega⟩ (by omega) ?_)
              refine n0_eq 30 d206_23 (by decide) (by decide) (fun q => absurd q (by decide)) (fun _ => ?_)
              refine q_iconstN (z := 1) d206_26 ?_
              refine q_goto 31 d206_27 (by decide) ?_
              refine q_istore d206_31 (by decide) rfl ?_
              refine q_iload_n d206_33 rfl ?_
              refine q_s1 d206_34 (Or.inl rfl) rfl (Nat.le_of_ble_eq_true rfl) (c207t (by omega) ?_)
              refine n0_eq 69 d206_37 (by decide) (by decide) (fun q => absurd q (by decide)) (fun _ => ?_)
              refine q_iload_n d206_40 rfl ?_
              refine q_s1 d206_41 (Or.inl rfl) rfl (Nat.le_of_ble_eq_true rfl) (c189t (by omega) ?_)
              refine n0_eq 69 d206_44 (by decide) (by decide) (fun q => absurd q (by decide)) (fun _ => ?_)
              refine q_iload_n d206_47 rfl ?_
              refine q_s1 d206_48 (Or.inl rfl) rfl (Nat.le_of_ble_eq_true rfl) (c169f es ?_)
              refine n0_eq 69 d206_51 (by decide) (by decide) (fun _ => ?_) (fun q => absurd q (by decide))
              refine q_bipush (x := (-2)) d206_69 rfl ?_
              refine q_iret d206_71 rfl ?_
              exact k _ _ hR (Fi.refl _ _)
            · by_cases q3 : m ≤ 1
              · refine q_iload d206_0 rfl ?_
                refine q_bipush (x := nI 100) d206_2 rfl ?_
                refine q_bipush (x := nI 111) d206_4 rfl ?_
                refine q_s3 d206_6 (Or.inl rfl) rfl (Nat.le_of_ble_eq_true rfl) (c131n (by omega) (by omega) (by omega) (by omega) ?_)
                refine n0_ne 26 d206_9 (by decide) (by decide) (fun q => absurd q (by decide)) (fun _ => ?_)
                refine q_iload d206_12 rfl ?_
                refine q_sipush (x := nI 200) d206_14 rfl ?_
                refine q_sipush (x := nI 211) d206_17 rfl ?_
                refine q_s3 d206_20 (Or.inl rfl) rfl (Nat.le_of_ble_eq_true rfl) (c131n (by omega) (by omega) (by omega) (by omega) ?_)
                refine n0_eq 30 d206_23 (by decide) (by decide) (fun _ => ?_) (fun q => absurd q (by decide))
                refine q_iconstN (z := 0) d206_30 ?_
                refine q_istore d206_31 (by decide) rfl ?_
                refine q_iload_n d206_33 rfl ?_
                refine q_s1 d206_34 (Or.inl rfl) rfl (Nat.le_of_ble_eq_true rfl) (c207t (by omega) ?_)
                refine n0_eq 69 d206_37 (by decide) (by decide) (fun q => absurd q (by decide)) (fun _ => ?_)
                refine q_iload_n d206_40 rfl ?_
                refine q_s1 d206_41 (Or.inl rfl) rfl (Nat.le_of_ble_eq_true rfl) (c189t (by omega) ?_)
                refine n0_eq 69 d206_44 (by decide) (by decide) (fun q => absurd q (by decide)) (fun _ => ?_)
                refine q_iload_n d206_47 rfl ?_
                refine q_s1 d206_48 (Or.inl rfl) rfl (Nat.le_of_ble_eq_true rfl) (c169f es ?_)
                refine n0_eq 69 d206_51 (by decide) (by decide) (fun _ => ?_) (fun q => absurd q (by decide))
                refine q_bipush (x := (-2)) d206_69 rfl ?_
                refine q_iret d206_71 rfl ?_
                exact k _ _ hR (Fi.refl _ _)
              · refine q_iload d206_0 rfl ?_
                refine q_bipush (x := nI 100) d206_2 rfl ?_
                refine q_bipush (x := nI 111) d206_4 rfl ?_
                refine q_s3 d206_6 (Or.inl rfl) rfl (Nat.le_of_ble_eq_true rfl) (c131n (by omega) (by omega) (by omega) (by omega) ?_)
                refine n0_ne 26 d206_9 (by decide) (by decide) (fun q => absurd q (by decide)) (fun _ => ?_)
                refine q_iload d206_12 rfl ?_
                refine q_sipush (x := nI 200) d206_14 rfl ?_
                refine q_sipush (x := nI 211) d206_17 rfl ?_
                refine q_s3 d206_20 (Or.inl rfl) rfl (Nat.le_of_ble_eq_true rfl) (c131n (by omega) (by omega) (by omega) (by omega) ?_)
                refine n0_eq 30 d206_23 (by decide) (by decide) (fun _ => ?_) (fun q => absurd q (by decide))
                refine q_iconstN (z := 0) d206_30 ?_
                refine q_istore d206_31 (by decide) rfl ?_
                refine q_iload_n d206_33 rfl ?_
                refine q_s1 d206_34 (Or.inl rfl) rfl (Nat.le_of_ble_eq_true rfl) (c207t (by omega) ?_)
                refine n0_eq 69 d206_37 (by decide) (by decide) (fun q => absurd q (by decide)) (fun _ => ?_)
                refine q_iload_n d206_40 rfl ?_
                refine q_s1 d206_41 (Or.inl rfl) rfl (Nat.le_of_ble_eq_true rfl) (c189t (by omega) ?_)
                refine n0_eq 69 d206_44 (by decide) (by decide) (fun q => absurd q (by decide)) (fun _ => ?_)
                refine q_iload_n d206_47 rfl ?_
                refine q_s1 d206_48 (Or.inl rfl) rfl (Nat.le_of_ble_eq_true rfl) (c169f es ?_)
                refine n0_eq 69 d206_51 (by decide) (by decide) (fun _ => ?_) (fun q => absurd q (by decide))
                refine q_bipush (x := (-2)) d206_69 rfl ?_
                refine q_iret d206_71 rfl ?_
                exact k _ _ hR (Fi.refl _ _)
        · refine q_iload d206_0 rfl ?_
          refine q_bipush (x := nI 100) d206_2 rfl ?_
          refine q_bipush (x := nI 111) d206_4 rfl ?_
          refine q_s3 d206_6 (Or.inl rfl) rfl (Nat.le_of_ble_eq_true rfl) (c131f (by decide) (by have := zix_none ew; omega) (by decide) ?_)
          refine n0_ne 26 d206_9 (by decide) (by decide) (fun q => absurd q (by decide)) (fun _ => ?_)
          refine q_iload d206_12 rfl ?_
          refine q_sipush (x := nI 200) d206_14 rfl ?_
          refine q_sipush (x := nI 211) d206_17 rfl ?_
          refine q_s3 d206_20 (Or.inl rfl) rfl (Nat.le_of_ble_eq_true rfl) (c131f (by decide) (by have := zix_none ew; omega) (by decide) ?_)
          refine n0_eq 30 d206_23 (by decide) (by decide) (fun _ => ?_) (fun q => absurd q (by decide))
          refine q_iconstN (z := 0) d206_30 ?_
          refine q_istore d206_31 (by decide) rfl ?_
          refine q_iload_n d206_33 rfl ?_
          refine q_s1 d206_34 (Or.inl rfl) rfl (Nat.le_of_ble_eq_true rfl) (c207t (by omega) ?_)
          refine n0_eq 69 d206_37 (by decide) (by decide) (fun q => absurd q (by decide)) (fun _ => ?_)
          refine q_iload_n d206_40 rfl ?_
          refine q_s1 d206_41 (Or.inl rfl) rfl (Nat.le_of_ble_eq_true rfl) (c189t (by omega) ?_)
          refine n0_eq 69 d206_44 (by decide) (by decide) (fun q => absurd q (by decide)) (fun _ => ?_)
          refine q_iload_n d206_47 rfl ?_
          refine q_s1 d206_48 (Or.inl rfl) rfl (Nat.le_of_ble_eq_true rfl) (c169f es ?_)
          refine n0_eq 69 d206_51 (by decide) (by decide) (fun _ => ?_) (fun q => absurd q (by decide))
          refine q_bipush (x := (-2)) d206_69 rfl ?_
          refine q_iret d206_71 rfl ?_
          exact k _ _ hR (Fi.refl _ _)
    · have _u := ea
      rcases zix_c w (n := 212) (by omega) with ⟨m, hm, rfl, ew⟩ | ⟨ew, nw⟩
      · by_cases q1 : 100 ≤ m ∧ m ≤ 111
        · refine q_iload d206_0 rfl ?_
          refine q_bipush (x := nI 100) d206_2 rfl ?_
          refine q_bipush (x := nI 111) d206_4 rfl ?_
          refine q_s3 d206_6 (Or.inl rfl) rfl (Nat.le_of_ble_eq_true rfl) (c131t ⟨by omega, by omega⟩ (by omega) ?_)
          refine n0_ne 26 d206_9 (by decide) (by decide) (fun _ => ?_) (fun q => absurd q (by decide))
          refine q_iconstN (z := 1) d206_26 ?_
          refine q_goto 31 d206_27 (by decide) ?_
          refine q_istore d206_31 (by decide) rfl ?_
          refine q_iload_n d206_33 rfl ?_
          refine q_s1 d206_34 (Or.inl rfl) rfl (Nat.le_of_ble_eq_true rfl) (c207t (by omega) ?_)
          refine n0_eq 69 d206_37 (by decide) (by decide) (fun q => absurd q (by decide)) (fun _ => ?_)
          refine q_iload_n d206_40 rfl ?_
          refine q_s1 d206_41 (Or.inl rfl) rfl (Nat.le_of_ble_eq_true rfl) (c189f ea ?_)
          refine n0_eq 69 d206_44 (by decide) (by decide) (fun _ => ?_) (fun q => absurd q (by decide))
          refine q_bipush (x := (-2)) d206_69 rfl ?_
          refine q_iret d206_71 rfl ?_
          exact k _ _ hR (Fi.refl _ _)
        · by_cases q2 : 200 ≤ m ∧ m ≤ 211
          · refine q_iload d206_0 rfl ?_
            refine q_bipush (x := nI 100) d206_2 rfl ?_
            refine q_bipush (x := nI 111) d206_4 rfl ?_
            refine q_s3 d206_6 (Or.inl rfl) rfl (Nat.le_of_ble_eq_true rfl) (c131n (by omega) (by omega) (by omega) (by omega) ?_)
            refine n0_ne 26 d206_9 (by decide) (by decide) (fun q => absurd q (by decide)) (fun _ => ?_)
            refine q_iload d206_12 rfl ?_
            refine q_sipush (x := nI 200) d206_14 rfl ?_
            refine q_sipush (x := nI 211) d206_17 rfl ?_
            refine q_s3 d206_20 (Or.inl rfl) rfl (Nat.le_of_ble_eq_true rfl) (c131t ⟨by omega, by omega⟩ (by omega) ?_)
            refine n0_eq 30 d206_23 (by decide) (by decide) (fun q => absurd q (by decide)) (fun _ => ?_)
            refine q_iconstN (z := 1) d206_26 ?_
            refine q_goto 31 d206_27 (by decide) ?_
            refine q_istore d206_31 (by decide) rfl ?_
            refine q_iload_n d206_33 rfl ?_
            refine q_s1 d206_34 (Or.inl rfl) rfl (Nat.le_of_ble_eq_true rfl) (c207t (by omega) ?_)
            refine n0_eq 69 d206_37 (by decide) (by decide) (fun q => absurd q (by decide)) (fun _ => ?_)
            refine q_iload_n d206_40 rfl ?_
            refine q_s1 d206_41 (Or.inl rfl) rfl (Nat.le_of_ble_eq_true rfl) (c189f ea ?_)
            refine n0_eq 69 d206_44 (by decide) (by decide) (fun _ => ?_) (fun q => absurd q (by decide))
            refine q_bipush (x := (-2)) d206_69 rfl ?_
            refine q_iret d206_71 rfl ?_
            exact k _ _ hR (Fi.refl _ _)
          · by_cases q3 : m ≤ 1
            · refine q_iload d206_0 rfl ?_
              refine q_bipush (x := nI 100) d206_2 rfl ?_
              refine q_bipush (x := nI 111) d206_4 rfl ?_
              refine q_s3 d206_6 (Or.inl rfl) rfl (Nat.le_of_ble_eq_true rfl) (c131n (by omega) (by omega) (by omega) (by omega) ?_)
              refine n0_ne 26 d206_9 (by decide) (by decide) (fun q => absurd q (by decide)) (fun _ => ?_)
              refine q_iload d206_12 rfl ?_
              refine q_sipush (x := nI 200) d206_14 rfl ?_
              refine q_sipush (x := nI 211) d206_17 rfl ?_
              refine q_s3 d206_20 (Or.inl rfl) rfl (Nat.le_of_ble_eq_true rfl) (c131n (by omega) (by omega) (by omega) (by omega) ?_)
              refine n0_eq 30 d206_23 (by decide) (by decide) (fun _ => ?_) (fun q => absurd q (by decide))
              refine q_iconstN (z := 0) d206_30 ?_
              refine q_istore d206_31 (by decide) rfl ?_
              refine q_iload_n d206_33 rfl ?_
              refine q_s1 d206_34 (Or.inl rfl) rfl (Nat.le_of_ble_eq_true rfl) (c207t (by omega) ?_)
              refine n0_eq 69 d206_37 (by decide) (by decide) (fun q => absurd q (by decide)) (fun _ => ?_)
              refine q_iload_n d206_40 rfl ?_
              refine q_s1 d206_41 (Or.inl rfl) rfl (Nat.le_of_ble_eq_true rfl) (c189f ea ?_)
              refine n0_eq 69 d206_44 (by decide) (by decide) (fun _ => ?_) (fun q => absurd q (by decide))
              refine q_bipush (x := (-2)) d206_69 rfl ?_
              refine q_iret d206_71 rfl ?_
              exact k _ _ hR (Fi.refl _ _)
            · refine q_iload d206_0 rfl ?_
              refine q_bipush (x := nI 100) d206_2 rfl ?_
              refine q_bipush (x := nI 111) d206_4 rfl ?_
              refine q_s3 d206_6 (Or.inl rfl) rfl (Nat.le_of_ble_eq_true rfl) (c131n (by omega) (by omega) (by omega) (by omega) ?_)
              refine n0_ne 26 d206_9 (by decide) (by decide) (fun q => absurd q (by decide)) (fun _ => ?_)
              refine q_iload d206_12 rfl ?_
              refine q_sipush (x := nI 200) d206_14 rfl ?_
              refine q_sipush (x := nI 211) d206_17 rfl ?_
              refine q_s3 d206_20 (Or.inl rfl) rfl (Nat.le_of_ble_eq_true rfl) (c131n (by omega) (by omega) (by omega) (by omega) ?_)
              refine n0_eq 30 d206_23 (by decide) (by decide) (fun _ => ?_) (fun q => absurd q (by decide))
              refine q_iconstN (z := 0) d206_30 ?_
              refine q_istore d206_31 (by decide) rfl ?_
              refine q_iload_n d206_33 rfl ?_
              refine q_s1 d206_34 (Or.inl rfl) rfl (Nat.le_of_ble_eq_true rfl) (c207t (by omega) ?_)
              refine n0_eq 69 d206_37 (by decide) (by decide) (fun q => absurd q (by decide)) (fun _ => ?_)
              refine q_iload_n d206_40 rfl ?_
              refine q_s1 d206_41 (Or.inl rfl) rfl (Nat.le_of_ble_eq_true rfl) (c189f ea ?_)
              refine n0_eq 69 d206_44 (by decide) (by decide) (fun _ => ?_) (fun q => absurd q (by decide))
              refine q_bipush (x := (-2)) d206_69 rfl ?_
              refine q_iret d206_71 rfl ?_
              exact k _ _ hR (Fi.refl _ _)
      · refine q_iload d206_0 rfl ?_
        refine q_bipush (x := nI 100) d206_2 rfl ?_
        refine q_bipush (x := nI 111) d206_4 rfl ?_
        refine q_s3 d206_6 (Or.inl rfl) rfl (Nat.le_of_ble_eq_true rfl) (c131f (by decide) (by have := zix_none ew; omega) (by decide) ?_)
        refine n0_ne 26 d206_9 (by decide) (by decide) (fun q => absurd q (by decide)) (fun _ => ?_)
        refine q_iload d206_12 rfl ?_
        refine q_sipush (x := nI 200) d206_14 rfl ?_
        refine q_sipush (x := nI 211) d206_17 rfl ?_
        refine q_s3 d206_20 (Or.inl rfl) rfl (Nat.le_of_ble_eq_true rfl) (c131f (by decide) (by have := zix_none ew; omega) (by decide) ?_)
        refine n0_eq 30 d206_23 (by decide) (by decide) (fun _ => ?_) (fun q => absurd q (by decide))
        refine q_iconstN (z := 0) d206_30 ?_
        refine q_istore d206_31 (by decide) rfl ?_
        refine q_iload_n d206_33 rfl ?_
        refine q_s1 d206_34 (Or.inl rfl) rfl (Nat.le_of_ble_eq_true rfl) (c207t (by omega) ?_)
        refine n0_eq 69 d206_37 (by decide) (by decide) (fun q => absurd q (by decide)) (fun _ => ?_)
        refine q_iload_n d206_40 rfl ?_
        refine q_s1 d206_41 (Or.inl rfl) rfl (Nat.le_of_ble_eq_true rfl) (c189f ea ?_)
        refine n0_eq 69 d206_44 (by decide) (by decide) (fun _ => ?_) (fun q => absurd q (by decide))
        refine q_bipush (x := (-2)) d206_69 rfl ?_
        refine q_iret d206_71 rfl ?_
        exact k _ _ hR (Fi.refl _ _)
  · have _u := eh
    rcases zix_c w (n := 212) (by omega) with ⟨m, hm, rfl, ew⟩ | ⟨ew, nw⟩
    · by_cases q1 : 100 ≤ m ∧ m ≤ 111
      · refine q_iload d206_0 rfl ?_
        refine q_bipush (x := nI 100) d206_2 rfl ?_
        refine q_bipush (x := nI 111) d206_4 rfl ?_
        refine q_s3 d206_6 (Or.inl rfl) rfl (Nat.le_of_ble_eq_true rfl) (c131t ⟨by omega, by omega⟩ (by omega) ?_)
        refine n0_ne 26 d206_9 (by decide) (by decide) (fun _ => ?_) (fun q => absurd q (by decide))
        refine q_iconstN (z := 1) d206_26 ?_
        refine q_goto 31 d206_27 (by decide) ?_
        refine q_istore d206_31 (by decide) rfl ?_
        refine q_iload_n d206_33 rfl ?_
        refine q_s1 d206_34 (Or.inl rfl) rfl (Nat.le_of_ble_eq_true rfl) (c207f eh ?_)
        refine n0_eq 69 d206_37 (by decide) (by decide) (fun _ => ?_) (fun q => absurd q (by decide))
        refine q_bipush (x := (-2)) d206_69 rfl ?_
        refine q_iret d206_71 rfl ?_
        exact k _ _ hR (Fi.refl _ _)
      · by_cases q2 : 200 ≤ m ∧ m ≤ 211
        · refine q_iload d206_0 rfl ?_
          refine q_bipush (x := nI 100) d206_2 rfl ?_
          refine q_bipush (x := nI 111) d206_4 rfl ?_
          refine q_s3 d206_6 (Or.inl rfl) rfl (Nat.le_of_ble_eq_true rfl) (c131n (by omega) (by omega) (by omega) (by omega) ?_)
          refine n0_ne 26 d206_9 (by decide) (by decide) (fun q => absurd q (by decide)) (fun _ => ?_)
          refine q_iload d206_12 rfl ?_
          refine q_sipush (x := nI 200) d206_14 rfl ?_
          refine q_sipush (x := nI 211) d206_17 rfl ?_
          refine q_s3 d206_20 (Or.inl rfl) rfl (Nat.le_of_ble_eq_true rfl) (c131t ⟨by omega, by omega⟩ (by omega) ?_)
          refine n0_eq 30 d206_23 (by decide) (by decide) (fun q => absurd q (by decide)) (fun _ => ?_)
          refine q_iconstN (z := 1) d206_26 ?_
          refine q_goto 31 d206_27 (by decide) ?_
          refine q_istore d206_31 (by decide) rfl ?_
          refine q_iload_n d206_33 rfl ?_
          refine q_s1 d206_34 (Or.inl rfl) rfl (Nat.le_of_ble_eq_true rfl) (c207f eh ?_)
          refine n0_eq 69 d206_37 (by decide) (by decide) (fun _ => ?_) (fun q => absurd q (by decide))
          refine q_bipush (x := (-2)) d206_69 rfl ?_
          refine q_iret d206_71 rfl ?_
          exact k _ _ hR (Fi.refl _ _)
        · by_cases q3 : m ≤ 1
          · refine q_iload d206_0 rfl ?_
            refine q_bipush (x := nI 100) d206_2 rfl ?_
            refine q_bipush (x := nI 111) d206_4 rfl ?_
            refine q_s3 d206_6 (Or.inl rfl) rfl (Nat.le_of_ble_eq_true rfl) (c131n (by omega) (by omega) (by omega) (by omega) ?_)
            refine n0_ne 26 d206_9 (by decide) (by decide) (fun q => absurd q (by decide)) (fun _ => ?_)
            refine q_iload d206_12 rfl ?_
            refine q_sipush (x := nI 200) d206_14 rfl ?_
            refine q_sipush (x := nI 211) d206_17 rfl ?_
            refine q_s3 d206_20 (Or.inl rfl) rfl (Nat.le_of_ble_eq_true rfl) (c131n (by omega) (by omega) (by omega) (by omega) ?_)
            refine n0_eq 30 d206_23 (by decide) (by decide) (fun _ => ?_) (fun q => absurd q (by decide))
            refine q_iconstN (z := 0) d206_30 ?_
            refine q_istore d206_31 (by decide) rfl ?_
            refine q_iload_n d206_33 rfl ?_
            refine q_s1 d206_34 (Or.inl rfl) rfl (Nat.le_of_ble_eq_true rfl) (c207f eh ?_)
            refine n0_eq 69 d206_37 (by decide) (by decide) (fun _ => ?_) (fun q => absurd q (by decide))
            refine q_bipush (x := (-2)) d206_69 rfl ?_
            refine q_iret d206_71 rfl ?_
            exact k _ _ hR (Fi.refl _ _)
          · refine q_iload d206_0 rfl ?_
            refine q_bipush (x := nI 100) d206_2 rfl ?_
            refine q_bipush (x := nI 111) d206_4 rfl ?_
            refine q_s3 d206_6 (Or.inl rfl) rfl (Nat.le_of_ble_eq_true rfl) (c131n (by omega) (by omega) (by omega) (by omega) ?_)
            refine n0_ne 26 d206_9 (by decide) (by decide) (fun q => absurd q (by decide)) (fun _ => ?_)
            refine q_iload d206_12 rfl ?_
            refine q_sipush (x := nI 200) d206_14 rfl ?_
            refine q_sipush (x := nI 211) d206_17 rfl ?_
            refine q_s3 d206_20 (Or.inl rfl) rfl (Nat.le_of_ble_eq_true rfl) (c131n (by omega) (by omega) (by omega) (by omega) ?_)
            refine n0_eq 30 d206_23 (by decide) (by decide) (fun _ => ?_) (fun q => absurd q (by decide))
            refine q_iconstN (z := 0) d206_30 ?_
            refine q_istore d206_31 (by decide) rfl ?_
            refine q_iload_n d206_33 rfl ?_
            refine q_s1 d206_34 (Or.inl rfl) rfl (Nat.le_of_ble_eq_true rfl) (c207f eh ?_)
            refine n0_eq 69 d206_37 (by decide) (by decide) (fun _ => ?_) (fun q => absurd q (by decide))
            refine q_bipush (x := (-2)) d206_69 rfl ?_
            refine q_iret d206_71 rfl ?_
            exact k _ _ hR (Fi.refl _ _)
    · refine q_iload d206_0 rfl ?_
      refine q_bipush (x := nI 100) d206_2 rfl ?_
      refine q_bipush (x := nI 111) d206_4 rfl ?_
      refine q_s3 d206_6 (Or.inl rfl) rfl (Nat.le_of_ble_eq_true rfl) (c131f (by decide) (by have := zix_none ew; omega) (by decide) ?_)
      refine n0_ne 26 d206_9 (by decide) (by decide) (fun q => absurd q (by decide)) (fun _ => ?_)
      refine q_iload d206_12 rfl ?_
      refine q_sipush (x := nI 200) d206_14 rfl ?_
      refine q_sipush (x := nI 211) d206_17 rfl ?_
      refine q_s3 d206_20 (Or.inl rfl) rfl (Nat.le_of_ble_eq_true rfl) (c131f (by decide) (by have := zix_none ew; omega) (by decide) ?_)
      refine n0_eq 30 d206_23 (by decide) (by decide) (fun _ => ?_) (fun q => absurd q (by decide))
      refine q_iconstN (z := 0) d206_30 ?_
      refine q_istore d206_31 (by decide) rfl ?_
      refine q_iload_n d206_33 rfl ?_
      refine q_s1 d206_34 (Or.inl rfl) rfl (Nat.le_of_ble_eq_true rfl) (c207f eh ?_)
      refine n0_eq 69 d206_37 (by decide) (by decide) (fun _ => ?_) (fun q => absurd q (by decide))
      refine q_bipush (x := (-2)) d206_69 rfl ?_
      refine q_iret d206_71 rfl ?_
      exact k _ _ hR (Fi.refl _ _)
